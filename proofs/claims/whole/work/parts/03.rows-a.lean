theorem dX0_init_0 : decode cX0_init 0 = .ok (.aload_n 0, 1) := by decide +kernel
theorem dX0_init_1 : decode cX0_init 1 = .ok (.invokespecial 3, 3) := by decide +kernel
theorem dX0_init_4 : decode cX0_init 4 = .ok (.aload_n 0, 1) := by decide +kernel
theorem dX0_init_5 : decode cX0_init 5 = .ok (.bipush 60, 2) := by decide +kernel
theorem dX0_init_7 : decode cX0_init 7 = .ok (.newarray .int, 2) := by decide +kernel
theorem dX0_init_9 : decode cX0_init 9 = .ok (.putfield 9, 3) := by decide +kernel
theorem dX0_init_12 : decode cX0_init 12 = .ok (.aload_n 0, 1) := by decide +kernel
theorem dX0_init_13 : decode cX0_init 13 = .ok (.bipush 60, 2) := by decide +kernel
theorem dX0_init_15 : decode cX0_init 15 = .ok (.newarray .int, 2) := by decide +kernel
theorem dX0_init_17 : decode cX0_init 17 = .ok (.putfield 15, 3) := by decide +kernel
theorem dX0_init_20 : decode cX0_init 20 = .ok (.aload_n 0, 1) := by decide +kernel
theorem dX0_init_21 : decode cX0_init 21 = .ok (.bipush 60, 2) := by decide +kernel
theorem dX0_init_23 : decode cX0_init 23 = .ok (.newarray .int, 2) := by decide +kernel
theorem dX0_init_25 : decode cX0_init 25 = .ok (.putfield 18, 3) := by decide +kernel
theorem dX0_init_28 : decode cX0_init 28 = .ok (.return_, 1) := by decide +kernel
set_option maxRecDepth 20000 in
theorem ggX0_copyFrom_X9_copyRow : GoodIn wsX0_copyFrom wsX9_copyRow := goodIn_r _ [7, 8, 9, 10, 11, 12, 13, 14, 15] (by decide +kernel) (by decide +kernel)
set_option maxRecDepth 20000 in
theorem gX0_copyFrom_X9_copyRow_n21 : GoodIn wsX0_copyFrom (wsX9_copyRow) := ggX0_copyFrom_X9_copyRow
theorem dX0_copyFrom_0 : decode cX0_copyFrom 0 = .ok (.aload_n 1, 1) := by decide +kernel
theorem dX0_copyFrom_1 : decode cX0_copyFrom 1 = .ok (.getfield 9, 3) := by decide +kernel
theorem dX0_copyFrom_4 : decode cX0_copyFrom 4 = .ok (.aload_n 0, 1) := by decide +kernel
theorem dX0_copyFrom_5 : decode cX0_copyFrom 5 = .ok (.getfield 9, 3) := by decide +kernel
theorem dX0_copyFrom_8 : decode cX0_copyFrom 8 = .ok (.invokestatic 21, 3) := by decide +kernel
theorem dX0_copyFrom_11 : decode cX0_copyFrom 11 = .ok (.aload_n 1, 1) := by decide +kernel
theorem dX0_copyFrom_12 : decode cX0_copyFrom 12 = .ok (.getfield 15, 3) := by decide +kernel
theorem dX0_copyFrom_15 : decode cX0_copyFrom 15 = .ok (.aload_n 0, 1) := by decide +kernel
theorem dX0_copyFrom_16 : decode cX0_copyFrom 16 = .ok (.getfield 15, 3) := by decide +kernel
theorem dX0_copyFrom_19 : decode cX0_copyFrom 19 = .ok (.invokestatic 21, 3) := by decide +kernel
theorem dX0_copyFrom_22 : decode cX0_copyFrom 22 = .ok (.aload_n 1, 1) := by decide +kernel
theorem dX0_copyFrom_23 : decode cX0_copyFrom 23 = .ok (.getfield 18, 3) := by decide +kernel
theorem dX0_copyFrom_26 : decode cX0_copyFrom 26 = .ok (.aload_n 0, 1) := by decide +kernel
theorem dX0_copyFrom_27 : decode cX0_copyFrom 27 = .ok (.getfield 18, 3) := by decide +kernel
theorem dX0_copyFrom_30 : decode cX0_copyFrom 30 = .ok (.invokestatic 21, 3) := by decide +kernel
theorem dX0_copyFrom_33 : decode cX0_copyFrom 33 = .ok (.aload_n 0, 1) := by decide +kernel
theorem dX0_copyFrom_34 : decode cX0_copyFrom 34 = .ok (.aload_n 1, 1) := by decide +kernel
theorem dX0_copyFrom_35 : decode cX0_copyFrom 35 = .ok (.getfield 25, 3) := by decide +kernel
theorem dX0_copyFrom_38 : decode cX0_copyFrom 38 = .ok (.putfield 25, 3) := by decide +kernel
theorem dX0_copyFrom_41 : decode cX0_copyFrom 41 = .ok (.return_, 1) := by decide +kernel
theorem dX0_has_0 : decode cX0_has 0 = .ok (.iload_n 1, 1) := by decide +kernel
theorem dX0_has_1 : decode cX0_has 1 = .ok (.ifCond .lt 15, 3) := by decide +kernel
theorem dX0_has_4 : decode cX0_has 4 = .ok (.iload_n 1, 1) := by decide +kernel
theorem dX0_has_5 : decode cX0_has 5 = .ok (.aload_n 0, 1) := by decide +kernel
theorem dX0_has_6 : decode cX0_has 6 = .ok (.getfield 25, 3) := by decide +kernel
theorem dX0_has_9 : decode cX0_has 9 = .ok (.if_icmp .ge 7, 3) := by decide +kernel
theorem dX0_has_12 : decode cX0_has 12 = .ok (.iconst 1, 1) := by decide +kernel
theorem dX0_has_13 : decode cX0_has 13 = .ok (.goto 4, 3) := by decide +kernel
theorem dX0_has_16 : decode cX0_has 16 = .ok (.iconst 0, 1) := by decide +kernel
theorem dX0_has_17 : decode cX0_has 17 = .ok (.ireturn, 1) := by decide +kernel
set_option maxRecDepth 20000 in
theorem ggX0_chapterOf_X0_has : GoodIn wsX0_chapterOf wsX0_has := goodIn_r _ [6, 7, 11, 12, 13, 14] (by decide +kernel) (by decide +kernel)
set_option maxRecDepth 20000 in
theorem gX0_chapterOf_X0_has : GoodIn wsX0_chapterOf (wsV RX0 29 RX0 yX0_has wsX0_has) := goodIn_app (goodIn_of _ (by decide +kernel)) ggX0_chapterOf_X0_has
set_option maxRecDepth 20000 in
theorem ggX0_chapterOf_X9_cellOf : GoodIn wsX0_chapterOf wsX9_cellOf := goodIn_r _ [10] (by decide +kernel) (by decide +kernel)
set_option maxRecDepth 20000 in
theorem gX0_chapterOf_X9_cellOf_n33 : GoodIn wsX0_chapterOf (wsX9_cellOf) := ggX0_chapterOf_X9_cellOf
theorem dX0_chapterOf_0 : decode cX0_chapterOf 0 = .ok (.aload_n 0, 1) := by decide +kernel
theorem dX0_chapterOf_1 : decode cX0_chapterOf 1 = .ok (.iload_n 1, 1) := by decide +kernel
theorem dX0_chapterOf_2 : decode cX0_chapterOf 2 = .ok (.invokevirtual 29, 3) := by decide +kernel
theorem dX0_chapterOf_5 : decode cX0_chapterOf 5 = .ok (.ifCond .eq 14, 3) := by decide +kernel
theorem dX0_chapterOf_8 : decode cX0_chapterOf 8 = .ok (.aload_n 0, 1) := by decide +kernel
theorem dX0_chapterOf_9 : decode cX0_chapterOf 9 = .ok (.getfield 9, 3) := by decide +kernel
theorem dX0_chapterOf_12 : decode cX0_chapterOf 12 = .ok (.iload_n 1, 1) := by decide +kernel
theorem dX0_chapterOf_13 : decode cX0_chapterOf 13 = .ok (.invokestatic 33, 3) := by decide +kernel
theorem dX0_chapterOf_16 : decode cX0_chapterOf 16 = .ok (.goto 4, 3) := by decide +kernel
theorem dX0_chapterOf_19 : decode cX0_chapterOf 19 = .ok (.iconst 0, 1) := by decide +kernel
theorem dX0_chapterOf_20 : decode cX0_chapterOf 20 = .ok (.ireturn, 1) := by decide +kernel
set_option maxRecDepth 20000 in
theorem ggX0_lettersOf_X0_has : GoodIn wsX0_lettersOf wsX0_has := goodIn_r _ [6, 7, 11, 12, 13, 14] (by decide +kernel) (by decide +kernel)
set_option maxRecDepth 20000 in
theorem gX0_lettersOf_X0_has : GoodIn wsX0_lettersOf (wsV RX0 29 RX0 yX0_has wsX0_has) := goodIn_app (goodIn_of _ (by decide +kernel)) ggX0_lettersOf_X0_has
set_option maxRecDepth 20000 in
theorem ggX0_lettersOf_X9_cellOf : GoodIn wsX0_lettersOf wsX9_cellOf := goodIn_r _ [10] (by decide +kernel) (by decide +kernel)
set_option maxRecDepth 20000 in
theorem gX0_lettersOf_X9_cellOf_n33 : GoodIn wsX0_lettersOf (wsX9_cellOf) := ggX0_lettersOf_X9_cellOf
theorem dX0_lettersOf_0 : decode cX0_lettersOf 0 = .ok (.aload_n 0, 1) := by decide +kernel
theorem dX0_lettersOf_1 : decode cX0_lettersOf 1 = .ok (.iload_n 1, 1) := by decide +kernel
theorem dX0_lettersOf_2 : decode cX0_lettersOf 2 = .ok (.invokevirtual 29, 3) := by decide +kernel
theorem dX0_lettersOf_5 : decode cX0_lettersOf 5 = .ok (.ifCond .eq 14, 3) := by decide +kernel
theorem dX0_lettersOf_8 : decode cX0_lettersOf 8 = .ok (.aload_n 0, 1) := by decide +kernel
theorem dX0_lettersOf_9 : decode cX0_lettersOf 9 = .ok (.getfield 15, 3) := by decide +kernel
theorem dX0_lettersOf_12 : decode cX0_lettersOf 12 = .ok (.iload_n 1, 1) := by decide +kernel
theorem dX0_lettersOf_13 : decode cX0_lettersOf 13 = .ok (.invokestatic 33, 3) := by decide +kernel
theorem dX0_lettersOf_16 : decode cX0_lettersOf 16 = .ok (.goto 4, 3) := by decide +kernel
theorem dX0_lettersOf_19 : decode cX0_lettersOf 19 = .ok (.iconst 0, 1) := by decide +kernel
theorem dX0_lettersOf_20 : decode cX0_lettersOf 20 = .ok (.ireturn, 1) := by decide +kernel
set_option maxRecDepth 20000 in
theorem ggX0_noteOf_X0_has : GoodIn wsX0_noteOf wsX0_has := goodIn_r _ [6, 7, 11, 12, 13, 14] (by decide +kernel) (by decide +kernel)
set_option maxRecDepth 20000 in
theorem gX0_noteOf_X0_has : GoodIn wsX0_noteOf (wsV RX0 29 RX0 yX0_has wsX0_has) := goodIn_app (goodIn_of _ (by decide +kernel)) ggX0_noteOf_X0_has
set_option maxRecDepth 20000 in
theorem ggX0_noteOf_X9_cellOf : GoodIn wsX0_noteOf wsX9_cellOf := goodIn_r _ [10] (by decide +kernel) (by decide +kernel)
set_option maxRecDepth 20000 in
theorem gX0_noteOf_X9_cellOf_n33 : GoodIn wsX0_noteOf (wsX9_cellOf) := ggX0_noteOf_X9_cellOf
theorem dX0_noteOf_0 : decode cX0_noteOf 0 = .ok (.aload_n 0, 1) := by decide +kernel
theorem dX0_noteOf_1 : decode cX0_noteOf 1 = .ok (.iload_n 1, 1) := by decide +kernel
theorem dX0_noteOf_2 : decode cX0_noteOf 2 = .ok (.invokevirtual 29, 3) := by decide +kernel
theorem dX0_noteOf_5 : decode cX0_noteOf 5 = .ok (.ifCond .eq 14, 3) := by decide +kernel
theorem dX0_noteOf_8 : decode cX0_noteOf 8 = .ok (.aload_n 0, 1) := by decide +kernel
theorem dX0_noteOf_9 : decode cX0_noteOf 9 = .ok (.getfield 18, 3) := by decide +kernel
theorem dX0_noteOf_12 : decode cX0_noteOf 12 = .ok (.iload_n 1, 1) := by decide +kernel
theorem dX0_noteOf_13 : decode cX0_noteOf 13 = .ok (.invokestatic 33, 3) := by decide +kernel
theorem dX0_noteOf_16 : decode cX0_noteOf 16 = .ok (.goto 4, 3) := by decide +kernel
theorem dX0_noteOf_19 : decode cX0_noteOf 19 = .ok (.iconst 0, 1) := by decide +kernel
theorem dX0_noteOf_20 : decode cX0_noteOf 20 = .ok (.ireturn, 1) := by decide +kernel
set_option maxRecDepth 20000 in
theorem ggX0_chapterTotal_X0_chapterOf : GoodIn wsX0_chapterTotal wsX0_chapterOf := goodIn_r _ [6, 7, 8, 9, 10, 5, 11, 1, 12, 13, 14, 15, 16, 17, 18] (by decide +kernel) (by decide +kernel)
set_option maxRecDepth 20000 in
theorem gX0_chapterTotal_X0_chapterOf : GoodIn wsX0_chapterTotal (wsV RX0 37 RX0 yX0_chapterOf wsX0_chapterOf) := goodIn_app (goodIn_of _ (by decide +kernel)) ggX0_chapterTotal_X0_chapterOf
theorem dX0_chapterTotal_0 : decode cX0_chapterTotal 0 = .ok (.aload_n 0, 1) := by decide +kernel
theorem dX0_chapterTotal_1 : decode cX0_chapterTotal 1 = .ok (.aload_n 0, 1) := by decide +kernel
theorem dX0_chapterTotal_2 : decode cX0_chapterTotal 2 = .ok (.getfield 25, 3) := by decide +kernel
theorem dX0_chapterTotal_5 : decode cX0_chapterTotal 5 = .ok (.iconst 1, 1) := by decide +kernel
theorem dX0_chapterTotal_6 : decode cX0_chapterTotal 6 = .ok (.isub, 1) := by decide +kernel
theorem dX0_chapterTotal_7 : decode cX0_chapterTotal 7 = .ok (.invokevirtual 37, 3) := by decide +kernel
theorem dX0_chapterTotal_10 : decode cX0_chapterTotal 10 = .ok (.ireturn, 1) := by decide +kernel
set_option maxRecDepth 20000 in
theorem ggX0_opensChapter_X0_has : GoodIn wsX0_opensChapter wsX0_has := goodIn_r _ [5, 6, 15, 16, 17, 18] (by decide +kernel) (by decide +kernel)
set_option maxRecDepth 20000 in
theorem gX0_opensChapter_X0_has : GoodIn wsX0_opensChapter (wsV RX0 29 RX0 yX0_has wsX0_has) := goodIn_app (goodIn_of _ (by decide +kernel)) ggX0_opensChapter_X0_has
set_option maxRecDepth 20000 in
theorem ggX0_opensChapter_X0_chapterOf : GoodIn wsX0_opensChapter wsX0_chapterOf := goodIn_r _ [10, 11, 1, 2, 3, 4, 5, 6, 12, 13, 14, 15, 16, 17, 18] (by decide +kernel) (by decide +kernel)
set_option maxRecDepth 20000 in
theorem gX0_opensChapter_X0_chapterOf : GoodIn wsX0_opensChapter (wsV RX0 37 RX0 yX0_chapterOf wsX0_chapterOf) := goodIn_app (goodIn_of _ (by decide +kernel)) ggX0_opensChapter_X0_chapterOf
theorem dX0_opensChapter_0 : decode cX0_opensChapter 0 = .ok (.aload_n 0, 1) := by decide +kernel
theorem dX0_opensChapter_1 : decode cX0_opensChapter 1 = .ok (.iload_n 1, 1) := by decide +kernel
theorem dX0_opensChapter_2 : decode cX0_opensChapter 2 = .ok (.invokevirtual 29, 3) := by decide +kernel
theorem dX0_opensChapter_5 : decode cX0_opensChapter 5 = .ok (.ifCond .eq 22, 3) := by decide +kernel
theorem dX0_opensChapter_8 : decode cX0_opensChapter 8 = .ok (.aload_n 0, 1) := by decide +kernel
theorem dX0_opensChapter_9 : decode cX0_opensChapter 9 = .ok (.iload_n 1, 1) := by decide +kernel
theorem dX0_opensChapter_10 : decode cX0_opensChapter 10 = .ok (.invokevirtual 37, 3) := by decide +kernel
theorem dX0_opensChapter_13 : decode cX0_opensChapter 13 = .ok (.aload_n 0, 1) := by decide +kernel
theorem dX0_opensChapter_14 : decode cX0_opensChapter 14 = .ok (.iload_n 1, 1) := by decide +kernel
theorem dX0_opensChapter_15 : decode cX0_opensChapter 15 = .ok (.iconst 1, 1) := by decide +kernel
theorem dX0_opensChapter_16 : decode cX0_opensChapter 16 = .ok (.isub, 1) := by decide +kernel
theorem dX0_opensChapter_17 : decode cX0_opensChapter 17 = .ok (.invokevirtual 37, 3) := by decide +kernel
theorem dX0_opensChapter_20 : decode cX0_opensChapter 20 = .ok (.if_icmp .eq 7, 3) := by decide +kernel
theorem dX0_opensChapter_23 : decode cX0_opensChapter 23 = .ok (.iconst 1, 1) := by decide +kernel
theorem dX0_opensChapter_24 : decode cX0_opensChapter 24 = .ok (.goto 4, 3) := by decide +kernel
theorem dX0_opensChapter_27 : decode cX0_opensChapter 27 = .ok (.iconst 0, 1) := by decide +kernel
theorem dX0_opensChapter_28 : decode cX0_opensChapter 28 = .ok (.ireturn, 1) := by decide +kernel
set_option maxRecDepth 20000 in
theorem ggX0_firstOf_X9_cellOf : GoodIn wsX0_firstOf wsX9_cellOf := goodIn_r _ [5] (by decide +kernel) (by decide +kernel)
set_option maxRecDepth 20000 in
theorem gX0_firstOf_X9_cellOf_n33 : GoodIn wsX0_firstOf (wsX9_cellOf) := ggX0_firstOf_X9_cellOf
theorem dX0_firstOf_0 : decode cX0_firstOf 0 = .ok (.iconst 0, 1) := by decide +kernel
theorem dX0_firstOf_1 : decode cX0_firstOf 1 = .ok (.istore_n 2, 1) := by decide +kernel
theorem dX0_firstOf_2 : decode cX0_firstOf 2 = .ok (.iload_n 2, 1) := by decide +kernel
theorem dX0_firstOf_3 : decode cX0_firstOf 3 = .ok (.aload_n 0, 1) := by decide +kernel
theorem dX0_firstOf_4 : decode cX0_firstOf 4 = .ok (.getfield 25, 3) := by decide +kernel
theorem dX0_firstOf_7 : decode cX0_firstOf 7 = .ok (.if_icmp .ge 23, 3) := by decide +kernel
theorem dX0_firstOf_10 : decode cX0_firstOf 10 = .ok (.aload_n 0, 1) := by decide +kernel
theorem dX0_firstOf_11 : decode cX0_firstOf 11 = .ok (.getfield 9, 3) := by decide +kernel
theorem dX0_firstOf_14 : decode cX0_firstOf 14 = .ok (.iload_n 2, 1) := by decide +kernel
theorem dX0_firstOf_15 : decode cX0_firstOf 15 = .ok (.invokestatic 33, 3) := by decide +kernel
theorem dX0_firstOf_18 : decode cX0_firstOf 18 = .ok (.iload_n 1, 1) := by decide +kernel
theorem dX0_firstOf_19 : decode cX0_firstOf 19 = .ok (.if_icmp .ne 5, 3) := by decide +kernel
theorem dX0_firstOf_22 : decode cX0_firstOf 22 = .ok (.iload_n 2, 1) := by decide +kernel
theorem dX0_firstOf_23 : decode cX0_firstOf 23 = .ok (.ireturn, 1) := by decide +kernel
theorem dX0_firstOf_24 : decode cX0_firstOf 24 = .ok (.iinc 2 1, 3) := by decide +kernel
theorem dX0_firstOf_27 : decode cX0_firstOf 27 = .ok (.goto (-25), 3) := by decide +kernel
theorem dX0_firstOf_30 : decode cX0_firstOf 30 = .ok (.iconst (-1), 1) := by decide +kernel
theorem dX0_firstOf_31 : decode cX0_firstOf 31 = .ok (.ireturn, 1) := by decide +kernel
set_option maxRecDepth 20000 in
theorem ggX0_versesOf_X9_cellOf : GoodIn wsX0_versesOf wsX9_cellOf := goodIn_r _ [5] (by decide +kernel) (by decide +kernel)
set_option maxRecDepth 20000 in
theorem gX0_versesOf_X9_cellOf_n33 : GoodIn wsX0_versesOf (wsX9_cellOf) := ggX0_versesOf_X9_cellOf
theorem dX0_versesOf_0 : decode cX0_versesOf 0 = .ok (.iconst 0, 1) := by decide +kernel
theorem dX0_versesOf_1 : decode cX0_versesOf 1 = .ok (.istore_n 2, 1) := by decide +kernel
theorem dX0_versesOf_2 : decode cX0_versesOf 2 = .ok (.iconst 0, 1) := by decide +kernel
theorem dX0_versesOf_3 : decode cX0_versesOf 3 = .ok (.istore_n 3, 1) := by decide +kernel
theorem dX0_versesOf_4 : decode cX0_versesOf 4 = .ok (.iload_n 3, 1) := by decide +kernel
theorem dX0_versesOf_5 : decode cX0_versesOf 5 = .ok (.aload_n 0, 1) := by decide +kernel
theorem dX0_versesOf_6 : decode cX0_versesOf 6 = .ok (.getfield 25, 3) := by decide +kernel
theorem dX0_versesOf_9 : decode cX0_versesOf 9 = .ok (.if_icmp .ge 29, 3) := by decide +kernel
theorem dX0_versesOf_12 : decode cX0_versesOf 12 = .ok (.iload_n 2, 1) := by decide +kernel
theorem dX0_versesOf_13 : decode cX0_versesOf 13 = .ok (.aload_n 0, 1) := by decide +kernel
theorem dX0_versesOf_14 : decode cX0_versesOf 14 = .ok (.getfield 9, 3) := by decide +kernel
theorem dX0_versesOf_17 : decode cX0_versesOf 17 = .ok (.iload_n 3, 1) := by decide +kernel
theorem dX0_versesOf_18 : decode cX0_versesOf 18 = .ok (.invokestatic 33, 3) := by decide +kernel
theorem dX0_versesOf_21 : decode cX0_versesOf 21 = .ok (.iload_n 1, 1) := by decide +kernel
theorem dX0_versesOf_22 : decode cX0_versesOf 22 = .ok (.if_icmp .ne 7, 3) := by decide +kernel
theorem dX0_versesOf_25 : decode cX0_versesOf 25 = .ok (.iconst 1, 1) := by decide +kernel
theorem dX0_versesOf_26 : decode cX0_versesOf 26 = .ok (.goto 4, 3) := by decide +kernel
theorem dX0_versesOf_29 : decode cX0_versesOf 29 = .ok (.iconst 0, 1) := by decide +kernel
theorem dX0_versesOf_30 : decode cX0_versesOf 30 = .ok (.iadd, 1) := by decide +kernel
theorem dX0_versesOf_31 : decode cX0_versesOf 31 = .ok (.istore_n 2, 1) := by decide +kernel
theorem dX0_versesOf_32 : decode cX0_versesOf 32 = .ok (.iinc 3 1, 3) := by decide +kernel
theorem dX0_versesOf_35 : decode cX0_versesOf 35 = .ok (.goto (-31), 3) := by decide +kernel
theorem dX0_versesOf_38 : decode cX0_versesOf 38 = .ok (.iload_n 2, 1) := by decide +kernel
theorem dX0_versesOf_39 : decode cX0_versesOf 39 = .ok (.ireturn, 1) := by decide +kernel
set_option maxRecDepth 20000 in
theorem ggX0_letterSumOf_X9_cellOf : GoodIn wsX0_letterSumOf wsX9_cellOf := goodIn_r _ [6] (by decide +kernel) (by decide +kernel)
set_option maxRecDepth 20000 in
theorem gX0_letterSumOf_X9_cellOf_n33 : GoodIn wsX0_letterSumOf (wsX9_cellOf) := ggX0_letterSumOf_X9_cellOf
theorem dX0_letterSumOf_0 : decode cX0_letterSumOf 0 = .ok (.iconst 0, 1) := by decide +kernel
theorem dX0_letterSumOf_1 : decode cX0_letterSumOf 1 = .ok (.istore_n 2, 1) := by decide +kernel
theorem dX0_letterSumOf_2 : decode cX0_letterSumOf 2 = .ok (.iconst 0, 1) := by decide +kernel
theorem dX0_letterSumOf_3 : decode cX0_letterSumOf 3 = .ok (.istore_n 3, 1) := by decide +kernel
theorem dX0_letterSumOf_4 : decode cX0_letterSumOf 4 = .ok (.iload_n 3, 1) := by decide +kernel
theorem dX0_letterSumOf_5 : decode cX0_letterSumOf 5 = .ok (.aload_n 0, 1) := by decide +kernel
theorem dX0_letterSumOf_6 : decode cX0_letterSumOf 6 = .ok (.getfield 25, 3) := by decide +kernel
theorem dX0_letterSumOf_9 : decode cX0_letterSumOf 9 = .ok (.if_icmp .ge 36, 3) := by decide +kernel
theorem dX0_letterSumOf_12 : decode cX0_letterSumOf 12 = .ok (.iload_n 2, 1) := by decide +kernel
theorem dX0_letterSumOf_13 : decode cX0_letterSumOf 13 = .ok (.aload_n 0, 1) := by decide +kernel
theorem dX0_letterSumOf_14 : decode cX0_letterSumOf 14 = .ok (.getfield 9, 3) := by decide +kernel
theorem dX0_letterSumOf_17 : decode cX0_letterSumOf 17 = .ok (.iload_n 3, 1) := by decide +kernel
theorem dX0_letterSumOf_18 : decode cX0_letterSumOf 18 = .ok (.invokestatic 33, 3) := by decide +kernel
theorem dX0_letterSumOf_21 : decode cX0_letterSumOf 21 = .ok (.iload_n 1, 1) := by decide +kernel
theorem dX0_letterSumOf_22 : decode cX0_letterSumOf 22 = .ok (.if_icmp .ne 14, 3) := by decide +kernel
theorem dX0_letterSumOf_25 : decode cX0_letterSumOf 25 = .ok (.aload_n 0, 1) := by decide +kernel
theorem dX0_letterSumOf_26 : decode cX0_letterSumOf 26 = .ok (.getfield 15, 3) := by decide +kernel
theorem dX0_letterSumOf_29 : decode cX0_letterSumOf 29 = .ok (.iload_n 3, 1) := by decide +kernel
theorem dX0_letterSumOf_30 : decode cX0_letterSumOf 30 = .ok (.invokestatic 33, 3) := by decide +kernel
theorem dX0_letterSumOf_33 : decode cX0_letterSumOf 33 = .ok (.goto 4, 3) := by decide +kernel
theorem dX0_letterSumOf_36 : decode cX0_letterSumOf 36 = .ok (.iconst 0, 1) := by decide +kernel
theorem dX0_letterSumOf_37 : decode cX0_letterSumOf 37 = .ok (.iadd, 1) := by decide +kernel
theorem dX0_letterSumOf_38 : decode cX0_letterSumOf 38 = .ok (.istore_n 2, 1) := by decide +kernel
theorem dX0_letterSumOf_39 : decode cX0_letterSumOf 39 = .ok (.iinc 3 1, 3) := by decide +kernel
theorem dX0_letterSumOf_42 : decode cX0_letterSumOf 42 = .ok (.goto (-38), 3) := by decide +kernel
theorem dX0_letterSumOf_45 : decode cX0_letterSumOf 45 = .ok (.iload_n 2, 1) := by decide +kernel
theorem dX0_letterSumOf_46 : decode cX0_letterSumOf 46 = .ok (.ireturn, 1) := by decide +kernel
set_option maxRecDepth 20000 in
theorem ggX0_numberOf_X0_chapterOf : GoodIn wsX0_numberOf wsX0_chapterOf := goodIn_r _ [5, 6, 7, 8, 9, 4, 10, 11, 12, 13, 14, 19, 20, 21, 22] (by decide +kernel) (by decide +kernel)
set_option maxRecDepth 20000 in
theorem gX0_numberOf_X0_chapterOf : GoodIn wsX0_numberOf (wsV RX0 37 RX0 yX0_chapterOf wsX0_chapterOf) := goodIn_app (goodIn_of _ (by decide +kernel)) ggX0_numberOf_X0_chapterOf
set_option maxRecDepth 20000 in
theorem ggX0_numberOf_X0_firstOf : GoodIn wsX0_numberOf wsX0_firstOf := goodIn_r _ [18, 11, 6, 12, 13, 14, 19, 20, 21, 22] (by decide +kernel) (by decide +kernel)
set_option maxRecDepth 20000 in
theorem gX0_numberOf_X0_firstOf : GoodIn wsX0_numberOf (wsV RX0 41 RX0 yX0_firstOf wsX0_firstOf) := goodIn_app (goodIn_of _ (by decide +kernel)) ggX0_numberOf_X0_firstOf
theorem dX0_numberOf_0 : decode cX0_numberOf 0 = .ok (.iload_n 1, 1) := by decide +kernel
theorem dX0_numberOf_1 : decode cX0_numberOf 1 = .ok (.aload_n 0, 1) := by decide +kernel
theorem dX0_numberOf_2 : decode cX0_numberOf 2 = .ok (.aload_n 0, 1) := by decide +kernel
theorem dX0_numberOf_3 : decode cX0_numberOf 3 = .ok (.iload_n 1, 1) := by decide +kernel
theorem dX0_numberOf_4 : decode cX0_numberOf 4 = .ok (.invokevirtual 37, 3) := by decide +kernel
theorem dX0_numberOf_7 : decode cX0_numberOf 7 = .ok (.invokevirtual 41, 3) := by decide +kernel
theorem dX0_numberOf_10 : decode cX0_numberOf 10 = .ok (.isub, 1) := by decide +kernel
theorem dX0_numberOf_11 : decode cX0_numberOf 11 = .ok (.iconst 1, 1) := by decide +kernel
theorem dX0_numberOf_12 : decode cX0_numberOf 12 = .ok (.iadd, 1) := by decide +kernel
theorem dX0_numberOf_13 : decode cX0_numberOf 13 = .ok (.ireturn, 1) := by decide +kernel
set_option maxRecDepth 20000 in
theorem ggX0_find_X0_versesOf : GoodIn wsX0_find wsX0_versesOf := goodIn_r _ [5, 6, 7, 8, 9, 10, 17, 18, 19, 20] (by decide +kernel) (by decide +kernel)
set_option maxRecDepth 20000 in
theorem gX0_find_X0_versesOf : GoodIn wsX0_find (wsV RX0 44 RX0 yX0_versesOf wsX0_versesOf) := goodIn_app (goodIn_of _ (by decide +kernel)) ggX0_find_X0_versesOf
set_option maxRecDepth 20000 in
theorem ggX0_find_X9_isWithin : GoodIn wsX0_find wsX9_isWithin := goodIn_r _ [12] (by decide +kernel) (by decide +kernel)
set_option maxRecDepth 20000 in
theorem gX0_find_X9_isWithin_n47 : GoodIn wsX0_find (wsX9_isWithin) := ggX0_find_X9_isWithin
set_option maxRecDepth 20000 in
theorem ggX0_find_X0_firstOf : GoodIn wsX0_find wsX0_firstOf := goodIn_r _ [16, 6, 7, 8, 9, 10, 17, 18, 19, 20] (by decide +kernel) (by decide +kernel)
set_option maxRecDepth 20000 in
theorem gX0_find_X0_firstOf : GoodIn wsX0_find (wsV RX0 41 RX0 yX0_firstOf wsX0_firstOf) := goodIn_app (goodIn_of _ (by decide +kernel)) ggX0_find_X0_firstOf
theorem dX0_find_0 : decode cX0_find 0 = .ok (.iload_n 2, 1) := by decide +kernel
theorem dX0_find_1 : decode cX0_find 1 = .ok (.iconst 1, 1) := by decide +kernel
theorem dX0_find_2 : decode cX0_find 2 = .ok (.aload_n 0, 1) := by decide +kernel
theorem dX0_find_3 : decode cX0_find 3 = .ok (.iload_n 1, 1) := by decide +kernel
theorem dX0_find_4 : decode cX0_find 4 = .ok (.invokevirtual 44, 3) := by decide +kernel
theorem dX0_find_7 : decode cX0_find 7 = .ok (.invokestatic 47, 3) := by decide +kernel
theorem dX0_find_10 : decode cX0_find 10 = .ok (.ifCond .eq 15, 3) := by decide +kernel
theorem dX0_find_13 : decode cX0_find 13 = .ok (.aload_n 0, 1) := by decide +kernel
theorem dX0_find_14 : decode cX0_find 14 = .ok (.iload_n 1, 1) := by decide +kernel
theorem dX0_find_15 : decode cX0_find 15 = .ok (.invokevirtual 41, 3) := by decide +kernel
theorem dX0_find_18 : decode cX0_find 18 = .ok (.iload_n 2, 1) := by decide +kernel
theorem dX0_find_19 : decode cX0_find 19 = .ok (.iadd, 1) := by decide +kernel
theorem dX0_find_20 : decode cX0_find 20 = .ok (.iconst 1, 1) := by decide +kernel
theorem dX0_find_21 : decode cX0_find 21 = .ok (.isub, 1) := by decide +kernel
theorem dX0_find_22 : decode cX0_find 22 = .ok (.goto 4, 3) := by decide +kernel
theorem dX0_find_25 : decode cX0_find 25 = .ok (.iconst (-1), 1) := by decide +kernel
theorem dX0_find_26 : decode cX0_find 26 = .ok (.ireturn, 1) := by decide +kernel
set_option maxRecDepth 20000 in
theorem ggX0_put_X0_has : GoodIn wsX0_put wsX0_has := goodIn_r _ [7, 8, 9, 10, 11, 12] (by decide +kernel) (by decide +kernel)
set_option maxRecDepth 20000 in
theorem gX0_put_X0_has : GoodIn wsX0_put (wsV RX0 29 RX0 yX0_has wsX0_has) := goodIn_app (goodIn_of _ (by decide +kernel)) ggX0_put_X0_has
theorem dX0_put_0 : decode cX0_put 0 = .ok (.aload_n 0, 1) := by decide +kernel
theorem dX0_put_1 : decode cX0_put 1 = .ok (.iload_n 1, 1) := by decide +kernel
theorem dX0_put_2 : decode cX0_put 2 = .ok (.invokevirtual 29, 3) := by decide +kernel
theorem dX0_put_5 : decode cX0_put 5 = .ok (.ifCond .eq 23, 3) := by decide +kernel
theorem dX0_put_8 : decode cX0_put 8 = .ok (.iload_n 1, 1) := by decide +kernel
theorem dX0_put_9 : decode cX0_put 9 = .ok (.bipush 60, 2) := by decide +kernel
theorem dX0_put_11 : decode cX0_put 11 = .ok (.if_icmp .ge 17, 3) := by decide +kernel
theorem dX0_put_14 : decode cX0_put 14 = .ok (.aload_n 0, 1) := by decide +kernel
theorem dX0_put_15 : decode cX0_put 15 = .ok (.getfield 15, 3) := by decide +kernel
theorem dX0_put_18 : decode cX0_put 18 = .ok (.iload_n 1, 1) := by decide +kernel
theorem dX0_put_19 : decode cX0_put 19 = .ok (.iload_n 2, 1) := by decide +kernel
theorem dX0_put_20 : decode cX0_put 20 = .ok (.iastore, 1) := by decide +kernel
theorem dX0_put_21 : decode cX0_put 21 = .ok (.aload_n 0, 1) := by decide +kernel
theorem dX0_put_22 : decode cX0_put 22 = .ok (.getfield 18, 3) := by decide +kernel
theorem dX0_put_25 : decode cX0_put 25 = .ok (.iload_n 1, 1) := by decide +kernel
theorem dX0_put_26 : decode cX0_put 26 = .ok (.iload_n 3, 1) := by decide +kernel
theorem dX0_put_27 : decode cX0_put 27 = .ok (.iastore, 1) := by decide +kernel
theorem dX0_put_28 : decode cX0_put 28 = .ok (.return_, 1) := by decide +kernel
set_option maxRecDepth 20000 in
theorem ggX0_insertAt_X9_openCell : GoodIn wsX0_insertAt wsX9_openCell := goodIn_r _ [7, 8, 9, 10, 11, 12, 13, 6, 14] (by decide +kernel) (by decide +kernel)
set_option maxRecDepth 20000 in
theorem gX0_insertAt_X9_openCell_n51 : GoodIn wsX0_insertAt (wsX9_openCell) := ggX0_insertAt_X9_openCell
set_option maxRecDepth 20000 in
theorem ggX0_insertAt_X0_put : GoodIn wsX0_insertAt wsX0_put := goodIn_r _ [19, 3, 4, 20, 21, 22, 18, 23, 1, 24, 25, 26, 27] (by decide +kernel) (by decide +kernel)
set_option maxRecDepth 20000 in
theorem gX0_insertAt_X0_put : GoodIn wsX0_insertAt (wsV RX0 55 RX0 yX0_put wsX0_put) := goodIn_app (goodIn_of _ (by decide +kernel)) ggX0_insertAt_X0_put
theorem dX0_insertAt_0 : decode cX0_insertAt 0 = .ok (.iload_n 1, 1) := by decide +kernel
theorem dX0_insertAt_1 : decode cX0_insertAt 1 = .ok (.ifCond .lt 20, 3) := by decide +kernel
theorem dX0_insertAt_4 : decode cX0_insertAt 4 = .ok (.iload_n 1, 1) := by decide +kernel
theorem dX0_insertAt_5 : decode cX0_insertAt 5 = .ok (.aload_n 0, 1) := by decide +kernel
theorem dX0_insertAt_6 : decode cX0_insertAt 6 = .ok (.getfield 25, 3) := by decide +kernel
theorem dX0_insertAt_9 : decode cX0_insertAt 9 = .ok (.if_icmp .gt 12, 3) := by decide +kernel
theorem dX0_insertAt_12 : decode cX0_insertAt 12 = .ok (.aload_n 0, 1) := by decide +kernel
theorem dX0_insertAt_13 : decode cX0_insertAt 13 = .ok (.getfield 25, 3) := by decide +kernel
theorem dX0_insertAt_16 : decode cX0_insertAt 16 = .ok (.bipush 60, 2) := by decide +kernel
theorem dX0_insertAt_18 : decode cX0_insertAt 18 = .ok (.if_icmp .lt 4, 3) := by decide +kernel
theorem dX0_insertAt_21 : decode cX0_insertAt 21 = .ok (.return_, 1) := by decide +kernel
theorem dX0_insertAt_22 : decode cX0_insertAt 22 = .ok (.aload_n 0, 1) := by decide +kernel
theorem dX0_insertAt_23 : decode cX0_insertAt 23 = .ok (.getfield 9, 3) := by decide +kernel
theorem dX0_insertAt_26 : decode cX0_insertAt 26 = .ok (.iload_n 1, 1) := by decide +kernel
theorem dX0_insertAt_27 : decode cX0_insertAt 27 = .ok (.aload_n 0, 1) := by decide +kernel
theorem dX0_insertAt_28 : decode cX0_insertAt 28 = .ok (.getfield 25, 3) := by decide +kernel
theorem dX0_insertAt_31 : decode cX0_insertAt 31 = .ok (.invokestatic 51, 3) := by decide +kernel
theorem dX0_insertAt_34 : decode cX0_insertAt 34 = .ok (.aload_n 0, 1) := by decide +kernel
theorem dX0_insertAt_35 : decode cX0_insertAt 35 = .ok (.getfield 15, 3) := by decide +kernel
theorem dX0_insertAt_38 : decode cX0_insertAt 38 = .ok (.iload_n 1, 1) := by decide +kernel
theorem dX0_insertAt_39 : decode cX0_insertAt 39 = .ok (.aload_n 0, 1) := by decide +kernel
theorem dX0_insertAt_40 : decode cX0_insertAt 40 = .ok (.getfield 25, 3) := by decide +kernel
theorem dX0_insertAt_43 : decode cX0_insertAt 43 = .ok (.invokestatic 51, 3) := by decide +kernel
theorem dX0_insertAt_46 : decode cX0_insertAt 46 = .ok (.aload_n 0, 1) := by decide +kernel
theorem dX0_insertAt_47 : decode cX0_insertAt 47 = .ok (.getfield 18, 3) := by decide +kernel
theorem dX0_insertAt_50 : decode cX0_insertAt 50 = .ok (.iload_n 1, 1) := by decide +kernel
theorem dX0_insertAt_51 : decode cX0_insertAt 51 = .ok (.aload_n 0, 1) := by decide +kernel
theorem dX0_insertAt_52 : decode cX0_insertAt 52 = .ok (.getfield 25, 3) := by decide +kernel
theorem dX0_insertAt_55 : decode cX0_insertAt 55 = .ok (.invokestatic 51, 3) := by decide +kernel
theorem dX0_insertAt_58 : decode cX0_insertAt 58 = .ok (.aload_n 0, 1) := by decide +kernel
theorem dX0_insertAt_59 : decode cX0_insertAt 59 = .ok (.dup, 1) := by decide +kernel
theorem dX0_insertAt_60 : decode cX0_insertAt 60 = .ok (.getfield 25, 3) := by decide +kernel
theorem dX0_insertAt_63 : decode cX0_insertAt 63 = .ok (.iconst 1, 1) := by decide +kernel
theorem dX0_insertAt_64 : decode cX0_insertAt 64 = .ok (.iadd, 1) := by decide +kernel
theorem dX0_insertAt_65 : decode cX0_insertAt 65 = .ok (.putfield 25, 3) := by decide +kernel
theorem dX0_insertAt_68 : decode cX0_insertAt 68 = .ok (.aload_n 0, 1) := by decide +kernel
theorem dX0_insertAt_69 : decode cX0_insertAt 69 = .ok (.getfield 9, 3) := by decide +kernel
theorem dX0_insertAt_72 : decode cX0_insertAt 72 = .ok (.iload_n 1, 1) := by decide +kernel
theorem dX0_insertAt_73 : decode cX0_insertAt 73 = .ok (.iload_n 2, 1) := by decide +kernel
theorem dX0_insertAt_74 : decode cX0_insertAt 74 = .ok (.iastore, 1) := by decide +kernel
theorem dX0_insertAt_75 : decode cX0_insertAt 75 = .ok (.aload_n 0, 1) := by decide +kernel
theorem dX0_insertAt_76 : decode cX0_insertAt 76 = .ok (.iload_n 1, 1) := by decide +kernel
theorem dX0_insertAt_77 : decode cX0_insertAt 77 = .ok (.iload_n 3, 1) := by decide +kernel
theorem dX0_insertAt_78 : decode cX0_insertAt 78 = .ok (.iload 4, 2) := by decide +kernel
theorem dX0_insertAt_80 : decode cX0_insertAt 80 = .ok (.invokevirtual 55, 3) := by decide +kernel
theorem dX0_insertAt_83 : decode cX0_insertAt 83 = .ok (.return_, 1) := by decide +kernel
set_option maxRecDepth 20000 in
theorem ggX0_joinWithNext_X0_has : GoodIn wsX0_joinWithNext wsX0_has := goodIn_r _ [13, 6, 38, 39, 40, 41] (by decide +kernel) (by decide +kernel)
set_option maxRecDepth 20000 in
theorem gX0_joinWithNext_X0_has : GoodIn wsX0_joinWithNext (wsV RX0 29 RX0 yX0_has wsX0_has) := goodIn_app (goodIn_of _ (by decide +kernel)) ggX0_joinWithNext_X0_has
set_option maxRecDepth 20000 in
theorem ggX0_joinWithNext_X0_lettersOf : GoodIn wsX0_joinWithNext wsX0_lettersOf := goodIn_r _ [17, 7, 9, 10, 11, 12, 13, 6, 18, 19, 20, 38, 39, 40, 41] (by decide +kernel) (by decide +kernel)
set_option maxRecDepth 20000 in
theorem gX0_joinWithNext_X0_lettersOf : GoodIn wsX0_joinWithNext (wsV RX0 59 RX0 yX0_lettersOf wsX0_lettersOf) := goodIn_app (goodIn_of _ (by decide +kernel)) ggX0_joinWithNext_X0_lettersOf
set_option maxRecDepth 20000 in
theorem ggX0_joinWithNext_X0_noteOf : GoodIn wsX0_joinWithNext wsX0_noteOf := goodIn_r _ [24, 8, 9, 10, 11, 12, 13, 6, 18, 19, 20, 38, 39, 40, 41] (by decide +kernel) (by decide +kernel)
set_option maxRecDepth 20000 in
theorem gX0_joinWithNext_X0_noteOf : GoodIn wsX0_joinWithNext (wsV RX0 62 RX0 yX0_noteOf wsX0_noteOf) := goodIn_app (goodIn_of _ (by decide +kernel)) ggX0_joinWithNext_X0_noteOf
set_option maxRecDepth 20000 in
theorem ggX0_joinWithNext_X0_put : GoodIn wsX0_joinWithNext wsX0_put := goodIn_r _ [28, 7, 8, 9, 10, 11, 12, 13, 6, 38, 39, 40, 41] (by decide +kernel) (by decide +kernel)
set_option maxRecDepth 20000 in
theorem gX0_joinWithNext_X0_put : GoodIn wsX0_joinWithNext (wsV RX0 55 RX0 yX0_put wsX0_put) := goodIn_app (goodIn_of _ (by decide +kernel)) ggX0_joinWithNext_X0_put
set_option maxRecDepth 20000 in
theorem ggX0_joinWithNext_X9_closeCells : GoodIn wsX0_joinWithNext wsX9_closeCells := goodIn_r _ [30, 31, 32, 33, 34, 35, 36, 19, 37] (by decide +kernel) (by decide +kernel)
set_option maxRecDepth 20000 in
theorem gX0_joinWithNext_X9_closeCells_n71 : GoodIn wsX0_joinWithNext (wsX9_closeCells) := ggX0_joinWithNext_X9_closeCells
theorem dX0_joinWithNext_0 : decode cX0_joinWithNext 0 = .ok (.iload_n 1, 1) := by decide +kernel
theorem dX0_joinWithNext_1 : decode cX0_joinWithNext 1 = .ok (.iconst 1, 1) := by decide +kernel
theorem dX0_joinWithNext_2 : decode cX0_joinWithNext 2 = .ok (.iadd, 1) := by decide +kernel
theorem dX0_joinWithNext_3 : decode cX0_joinWithNext 3 = .ok (.istore_n 2, 1) := by decide +kernel
theorem dX0_joinWithNext_4 : decode cX0_joinWithNext 4 = .ok (.aload_n 0, 1) := by decide +kernel
theorem dX0_joinWithNext_5 : decode cX0_joinWithNext 5 = .ok (.iload_n 1, 1) := by decide +kernel
theorem dX0_joinWithNext_6 : decode cX0_joinWithNext 6 = .ok (.invokevirtual 29, 3) := by decide +kernel
theorem dX0_joinWithNext_9 : decode cX0_joinWithNext 9 = .ok (.ifCond .eq 11, 3) := by decide +kernel
theorem dX0_joinWithNext_12 : decode cX0_joinWithNext 12 = .ok (.aload_n 0, 1) := by decide +kernel
theorem dX0_joinWithNext_13 : decode cX0_joinWithNext 13 = .ok (.iload_n 2, 1) := by decide +kernel
theorem dX0_joinWithNext_14 : decode cX0_joinWithNext 14 = .ok (.invokevirtual 29, 3) := by decide +kernel
theorem dX0_joinWithNext_17 : decode cX0_joinWithNext 17 = .ok (.ifCond .ne 4, 3) := by decide +kernel
theorem dX0_joinWithNext_20 : decode cX0_joinWithNext 20 = .ok (.return_, 1) := by decide +kernel
theorem dX0_joinWithNext_21 : decode cX0_joinWithNext 21 = .ok (.aload_n 0, 1) := by decide +kernel
theorem dX0_joinWithNext_22 : decode cX0_joinWithNext 22 = .ok (.iload_n 1, 1) := by decide +kernel
theorem dX0_joinWithNext_23 : decode cX0_joinWithNext 23 = .ok (.invokevirtual 59, 3) := by decide +kernel
theorem dX0_joinWithNext_26 : decode cX0_joinWithNext 26 = .ok (.aload_n 0, 1) := by decide +kernel
theorem dX0_joinWithNext_27 : decode cX0_joinWithNext 27 = .ok (.iload_n 2, 1) := by decide +kernel
theorem dX0_joinWithNext_28 : decode cX0_joinWithNext 28 = .ok (.invokevirtual 59, 3) := by decide +kernel
theorem dX0_joinWithNext_31 : decode cX0_joinWithNext 31 = .ok (.iadd, 1) := by decide +kernel
theorem dX0_joinWithNext_32 : decode cX0_joinWithNext 32 = .ok (.istore_n 3, 1) := by decide +kernel
theorem dX0_joinWithNext_33 : decode cX0_joinWithNext 33 = .ok (.aload_n 0, 1) := by decide +kernel
theorem dX0_joinWithNext_34 : decode cX0_joinWithNext 34 = .ok (.iload_n 1, 1) := by decide +kernel
theorem dX0_joinWithNext_35 : decode cX0_joinWithNext 35 = .ok (.invokevirtual 62, 3) := by decide +kernel
theorem dX0_joinWithNext_38 : decode cX0_joinWithNext 38 = .ok (.aload_n 0, 1) := by decide +kernel
theorem dX0_joinWithNext_39 : decode cX0_joinWithNext 39 = .ok (.iload_n 2, 1) := by decide +kernel
theorem dX0_joinWithNext_40 : decode cX0_joinWithNext 40 = .ok (.invokevirtual 62, 3) := by decide +kernel
theorem dX0_joinWithNext_43 : decode cX0_joinWithNext 43 = .ok (.iadd, 1) := by decide +kernel
theorem dX0_joinWithNext_44 : decode cX0_joinWithNext 44 = .ok (.istore 4, 2) := by decide +kernel
theorem dX0_joinWithNext_46 : decode cX0_joinWithNext 46 = .ok (.aload_n 0, 1) := by decide +kernel
theorem dX0_joinWithNext_47 : decode cX0_joinWithNext 47 = .ok (.iload_n 1, 1) := by decide +kernel
theorem dX0_joinWithNext_48 : decode cX0_joinWithNext 48 = .ok (.iload_n 3, 1) := by decide +kernel
theorem dX0_joinWithNext_49 : decode cX0_joinWithNext 49 = .ok (.sipush 2000, 3) := by decide +kernel
theorem dX0_joinWithNext_52 : decode cX0_joinWithNext 52 = .ok (.invokestatic 65, 3) := by decide +kernel
theorem dX0_joinWithNext_55 : decode cX0_joinWithNext 55 = .ok (.iload 4, 2) := by decide +kernel
theorem dX0_joinWithNext_57 : decode cX0_joinWithNext 57 = .ok (.bipush 10, 2) := by decide +kernel
theorem dX0_joinWithNext_59 : decode cX0_joinWithNext 59 = .ok (.invokestatic 65, 3) := by decide +kernel
theorem dX0_joinWithNext_62 : decode cX0_joinWithNext 62 = .ok (.invokevirtual 55, 3) := by decide +kernel
theorem dX0_joinWithNext_65 : decode cX0_joinWithNext 65 = .ok (.aload_n 0, 1) := by decide +kernel
theorem dX0_joinWithNext_66 : decode cX0_joinWithNext 66 = .ok (.getfield 9, 3) := by decide +kernel
theorem dX0_joinWithNext_69 : decode cX0_joinWithNext 69 = .ok (.iload_n 2, 1) := by decide +kernel
theorem dX0_joinWithNext_70 : decode cX0_joinWithNext 70 = .ok (.iconst 1, 1) := by decide +kernel
theorem dX0_joinWithNext_71 : decode cX0_joinWithNext 71 = .ok (.aload_n 0, 1) := by decide +kernel
theorem dX0_joinWithNext_72 : decode cX0_joinWithNext 72 = .ok (.getfield 25, 3) := by decide +kernel
theorem dX0_joinWithNext_75 : decode cX0_joinWithNext 75 = .ok (.invokestatic 71, 3) := by decide +kernel
theorem dX0_joinWithNext_78 : decode cX0_joinWithNext 78 = .ok (.aload_n 0, 1) := by decide +kernel
theorem dX0_joinWithNext_79 : decode cX0_joinWithNext 79 = .ok (.getfield 15, 3) := by decide +kernel
theorem dX0_joinWithNext_82 : decode cX0_joinWithNext 82 = .ok (.iload_n 2, 1) := by decide +kernel
theorem dX0_joinWithNext_83 : decode cX0_joinWithNext 83 = .ok (.iconst 1, 1) := by decide +kernel
theorem dX0_joinWithNext_84 : decode cX0_joinWithNext 84 = .ok (.aload_n 0, 1) := by decide +kernel
theorem dX0_joinWithNext_85 : decode cX0_joinWithNext 85 = .ok (.getfield 25, 3) := by decide +kernel
theorem dX0_joinWithNext_88 : decode cX0_joinWithNext 88 = .ok (.invokestatic 71, 3) := by decide +kernel
theorem dX0_joinWithNext_91 : decode cX0_joinWithNext 91 = .ok (.aload_n 0, 1) := by decide +kernel
theorem dX0_joinWithNext_92 : decode cX0_joinWithNext 92 = .ok (.getfield 18, 3) := by decide +kernel
theorem dX0_joinWithNext_95 : decode cX0_joinWithNext 95 = .ok (.iload_n 2, 1) := by decide +kernel
theorem dX0_joinWithNext_96 : decode cX0_joinWithNext 96 = .ok (.iconst 1, 1) := by decide +kernel
theorem dX0_joinWithNext_97 : decode cX0_joinWithNext 97 = .ok (.aload_n 0, 1) := by decide +kernel
theorem dX0_joinWithNext_98 : decode cX0_joinWithNext 98 = .ok (.getfield 25, 3) := by decide +kernel
theorem dX0_joinWithNext_101 : decode cX0_joinWithNext 101 = .ok (.invokestatic 71, 3) := by decide +kernel
theorem dX0_joinWithNext_104 : decode cX0_joinWithNext 104 = .ok (.aload_n 0, 1) := by decide +kernel
theorem dX0_joinWithNext_105 : decode cX0_joinWithNext 105 = .ok (.dup, 1) := by decide +kernel
theorem dX0_joinWithNext_106 : decode cX0_joinWithNext 106 = .ok (.getfield 25, 3) := by decide +kernel
theorem dX0_joinWithNext_109 : decode cX0_joinWithNext 109 = .ok (.iconst 1, 1) := by decide +kernel
theorem dX0_joinWithNext_110 : decode cX0_joinWithNext 110 = .ok (.isub, 1) := by decide +kernel
theorem dX0_joinWithNext_111 : decode cX0_joinWithNext 111 = .ok (.putfield 25, 3) := by decide +kernel
theorem dX0_joinWithNext_114 : decode cX0_joinWithNext 114 = .ok (.return_, 1) := by decide +kernel
set_option maxRecDepth 20000 in
theorem ggX0_splitBehind_X0_lettersOf : GoodIn wsX0_splitBehind wsX0_lettersOf := goodIn_r _ [5, 6, 7, 8, 9, 4, 10, 11, 12, 13, 14, 42, 43, 44, 45] (by decide +kernel) (by decide +kernel)
set_option maxRecDepth 20000 in
theorem gX0_splitBehind_X0_lettersOf : GoodIn wsX0_splitBehind (wsV RX0 59 RX0 yX0_lettersOf wsX0_lettersOf) := goodIn_app (goodIn_of _ (by decide +kernel)) ggX0_splitBehind_X0_lettersOf
set_option maxRecDepth 20000 in
theorem ggX0_splitBehind_X0_noteOf : GoodIn wsX0_splitBehind wsX0_noteOf := goodIn_r _ [18, 19, 7, 8, 9, 4, 10, 11, 12, 13, 14, 42, 43, 44, 45] (by decide +kernel) (by decide +kernel)
set_option maxRecDepth 20000 in
theorem gX0_splitBehind_X0_noteOf : GoodIn wsX0_splitBehind (wsV RX0 62 RX0 yX0_noteOf wsX0_noteOf) := goodIn_app (goodIn_of _ (by decide +kernel)) ggX0_splitBehind_X0_noteOf
set_option maxRecDepth 20000 in
theorem ggX0_splitBehind_X0_put : GoodIn wsX0_splitBehind wsX0_put := goodIn_r _ [23, 6, 19, 7, 8, 9, 4, 10, 11, 42, 43, 44, 45] (by decide +kernel) (by decide +kernel)
set_option maxRecDepth 20000 in
theorem gX0_splitBehind_X0_put : GoodIn wsX0_splitBehind (wsV RX0 55 RX0 yX0_put wsX0_put) := goodIn_app (goodIn_of _ (by decide +kernel)) ggX0_splitBehind_X0_put
set_option maxRecDepth 20000 in
theorem ggX0_splitBehind_X0_chapterOf : GoodIn wsX0_splitBehind wsX0_chapterOf := goodIn_r _ [27, 28, 7, 8, 9, 4, 10, 11, 12, 13, 14, 42, 43, 44, 45] (by decide +kernel) (by decide +kernel)
set_option maxRecDepth 20000 in
theorem gX0_splitBehind_X0_chapterOf : GoodIn wsX0_splitBehind (wsV RX0 37 RX0 yX0_chapterOf wsX0_chapterOf) := goodIn_app (goodIn_of _ (by decide +kernel)) ggX0_splitBehind_X0_chapterOf
set_option maxRecDepth 20000 in
theorem ggX0_splitBehind_X0_insertAt : GoodIn wsX0_splitBehind wsX0_insertAt := goodIn_r _ [32, 11, 28, 6, 19, 33, 13, 34, 35, 36, 37, 38, 39, 40, 41, 20, 21, 22, 4, 23, 7, 8, 9, 10, 42, 43, 44, 45] (by decide +kernel) (by decide +kernel)
set_option maxRecDepth 20000 in
theorem gX0_splitBehind_X0_insertAt : GoodIn wsX0_splitBehind (wsV RX0 75 RX0 yX0_insertAt wsX0_insertAt) := goodIn_app (goodIn_of _ (by decide +kernel)) ggX0_splitBehind_X0_insertAt
theorem dX0_splitBehind_0 : decode cX0_splitBehind 0 = .ok (.aload_n 0, 1) := by decide +kernel
theorem dX0_splitBehind_1 : decode cX0_splitBehind 1 = .ok (.iload_n 1, 1) := by decide +kernel
theorem dX0_splitBehind_2 : decode cX0_splitBehind 2 = .ok (.invokevirtual 59, 3) := by decide +kernel
theorem dX0_splitBehind_5 : decode cX0_splitBehind 5 = .ok (.iload_n 2, 1) := by decide +kernel
theorem dX0_splitBehind_6 : decode cX0_splitBehind 6 = .ok (.isub, 1) := by decide +kernel
theorem dX0_splitBehind_7 : decode cX0_splitBehind 7 = .ok (.istore_n 3, 1) := by decide +kernel
theorem dX0_splitBehind_8 : decode cX0_splitBehind 8 = .ok (.aload_n 0, 1) := by decide +kernel
theorem dX0_splitBehind_9 : decode cX0_splitBehind 9 = .ok (.iload_n 1, 1) := by decide +kernel
theorem dX0_splitBehind_10 : decode cX0_splitBehind 10 = .ok (.iload_n 2, 1) := by decide +kernel
theorem dX0_splitBehind_11 : decode cX0_splitBehind 11 = .ok (.aload_n 0, 1) := by decide +kernel
theorem dX0_splitBehind_12 : decode cX0_splitBehind 12 = .ok (.iload_n 1, 1) := by decide +kernel
theorem dX0_splitBehind_13 : decode cX0_splitBehind 13 = .ok (.invokevirtual 62, 3) := by decide +kernel
theorem dX0_splitBehind_16 : decode cX0_splitBehind 16 = .ok (.invokevirtual 55, 3) := by decide +kernel
theorem dX0_splitBehind_19 : decode cX0_splitBehind 19 = .ok (.aload_n 0, 1) := by decide +kernel
theorem dX0_splitBehind_20 : decode cX0_splitBehind 20 = .ok (.iload_n 1, 1) := by decide +kernel
theorem dX0_splitBehind_21 : decode cX0_splitBehind 21 = .ok (.iconst 1, 1) := by decide +kernel
theorem dX0_splitBehind_22 : decode cX0_splitBehind 22 = .ok (.iadd, 1) := by decide +kernel
theorem dX0_splitBehind_23 : decode cX0_splitBehind 23 = .ok (.aload_n 0, 1) := by decide +kernel
theorem dX0_splitBehind_24 : decode cX0_splitBehind 24 = .ok (.iload_n 1, 1) := by decide +kernel
theorem dX0_splitBehind_25 : decode cX0_splitBehind 25 = .ok (.invokevirtual 37, 3) := by decide +kernel
theorem dX0_splitBehind_28 : decode cX0_splitBehind 28 = .ok (.iload_n 3, 1) := by decide +kernel
theorem dX0_splitBehind_29 : decode cX0_splitBehind 29 = .ok (.iconst 0, 1) := by decide +kernel
theorem dX0_splitBehind_30 : decode cX0_splitBehind 30 = .ok (.invokevirtual 75, 3) := by decide +kernel
theorem dX0_splitBehind_33 : decode cX0_splitBehind 33 = .ok (.return_, 1) := by decide +kernel
set_option maxRecDepth 20000 in
theorem ggX0_linesOf_X0_lettersOf : GoodIn wsX0_linesOf wsX0_lettersOf := goodIn_r _ [5, 6, 7, 8, 9, 4, 10, 11, 12, 13, 14, 26, 27, 28, 29] (by decide +kernel) (by decide +kernel)
set_option maxRecDepth 20000 in
theorem gX0_linesOf_X0_lettersOf : GoodIn wsX0_linesOf (wsV RX0 59 RX0 yX0_lettersOf wsX0_lettersOf) := goodIn_app (goodIn_of _ (by decide +kernel)) ggX0_linesOf_X0_lettersOf
set_option maxRecDepth 20000 in
theorem ggX0_linesOf_X9_linesFor : GoodIn wsX0_linesOf wsX9_linesFor := goodIn_r _ [16] (by decide +kernel) (by decide +kernel)
set_option maxRecDepth 20000 in
theorem gX0_linesOf_X9_linesFor_n79 : GoodIn wsX0_linesOf (wsX9_linesFor) := ggX0_linesOf_X9_linesFor
set_option maxRecDepth 20000 in
theorem ggX0_linesOf_X0_opensChapter : GoodIn wsX0_linesOf wsX0_opensChapter := goodIn_r _ [20, 7, 8, 9, 4, 10, 11, 21, 22, 23, 24, 25, 12, 13, 14, 26, 27, 28, 29] (by decide +kernel) (by decide +kernel)
set_option maxRecDepth 20000 in
theorem gX0_linesOf_X0_opensChapter : GoodIn wsX0_linesOf (wsV RX0 82 RX0 yX0_opensChapter wsX0_opensChapter) := goodIn_app (goodIn_of _ (by decide +kernel)) ggX0_linesOf_X0_opensChapter
theorem dX0_linesOf_0 : decode cX0_linesOf 0 = .ok (.iconst 0, 1) := by decide +kernel
theorem dX0_linesOf_1 : decode cX0_linesOf 1 = .ok (.istore 5, 2) := by decide +kernel
theorem dX0_linesOf_3 : decode cX0_linesOf 3 = .ok (.iload_n 1, 1) := by decide +kernel
theorem dX0_linesOf_4 : decode cX0_linesOf 4 = .ok (.istore 6, 2) := by decide +kernel
theorem dX0_linesOf_6 : decode cX0_linesOf 6 = .ok (.iload 6, 2) := by decide +kernel
theorem dX0_linesOf_8 : decode cX0_linesOf 8 = .ok (.iload_n 2, 1) := by decide +kernel
theorem dX0_linesOf_9 : decode cX0_linesOf 9 = .ok (.if_icmp .ge 40, 3) := by decide +kernel
theorem dX0_linesOf_12 : decode cX0_linesOf 12 = .ok (.iload 5, 2) := by decide +kernel
theorem dX0_linesOf_14 : decode cX0_linesOf 14 = .ok (.aload_n 0, 1) := by decide +kernel
theorem dX0_linesOf_15 : decode cX0_linesOf 15 = .ok (.iload 6, 2) := by decide +kernel
theorem dX0_linesOf_17 : decode cX0_linesOf 17 = .ok (.invokevirtual 59, 3) := by decide +kernel
theorem dX0_linesOf_20 : decode cX0_linesOf 20 = .ok (.iload_n 3, 1) := by decide +kernel
theorem dX0_linesOf_21 : decode cX0_linesOf 21 = .ok (.invokestatic 79, 3) := by decide +kernel
theorem dX0_linesOf_24 : decode cX0_linesOf 24 = .ok (.aload_n 0, 1) := by decide +kernel
theorem dX0_linesOf_25 : decode cX0_linesOf 25 = .ok (.iload 6, 2) := by decide +kernel
theorem dX0_linesOf_27 : decode cX0_linesOf 27 = .ok (.invokevirtual 82, 3) := by decide +kernel
theorem dX0_linesOf_30 : decode cX0_linesOf 30 = .ok (.ifCond .eq 8, 3) := by decide +kernel
theorem dX0_linesOf_33 : decode cX0_linesOf 33 = .ok (.iload 4, 2) := by decide +kernel
theorem dX0_linesOf_35 : decode cX0_linesOf 35 = .ok (.goto 4, 3) := by decide +kernel
theorem dX0_linesOf_38 : decode cX0_linesOf 38 = .ok (.iconst 0, 1) := by decide +kernel
theorem dX0_linesOf_39 : decode cX0_linesOf 39 = .ok (.iadd, 1) := by decide +kernel
theorem dX0_linesOf_40 : decode cX0_linesOf 40 = .ok (.iadd, 1) := by decide +kernel
theorem dX0_linesOf_41 : decode cX0_linesOf 41 = .ok (.istore 5, 2) := by decide +kernel
theorem dX0_linesOf_43 : decode cX0_linesOf 43 = .ok (.iinc 6 1, 3) := by decide +kernel
theorem dX0_linesOf_46 : decode cX0_linesOf 46 = .ok (.goto (-40), 3) := by decide +kernel
theorem dX0_linesOf_49 : decode cX0_linesOf 49 = .ok (.iload 5, 2) := by decide +kernel
theorem dX0_linesOf_51 : decode cX0_linesOf 51 = .ok (.ireturn, 1) := by decide +kernel
set_option maxRecDepth 20000 in
theorem ggX0_noteSumOf_X0_noteOf : GoodIn wsX0_noteSumOf wsX0_noteOf := goodIn_r _ [5, 6, 7, 8, 9, 4, 10, 11, 12, 13, 14, 15, 16, 17, 18] (by decide +kernel) (by decide +kernel)
set_option maxRecDepth 20000 in
theorem gX0_noteSumOf_X0_noteOf : GoodIn wsX0_noteSumOf (wsV RX0 62 RX0 yX0_noteOf wsX0_noteOf) := goodIn_app (goodIn_of _ (by decide +kernel)) ggX0_noteSumOf_X0_noteOf
theorem dX0_noteSumOf_0 : decode cX0_noteSumOf 0 = .ok (.iconst 0, 1) := by decide +kernel
theorem dX0_noteSumOf_1 : decode cX0_noteSumOf 1 = .ok (.istore_n 3, 1) := by decide +kernel
theorem dX0_noteSumOf_2 : decode cX0_noteSumOf 2 = .ok (.iload_n 1, 1) := by decide +kernel
theorem dX0_noteSumOf_3 : decode cX0_noteSumOf 3 = .ok (.istore 4, 2) := by decide +kernel
theorem dX0_noteSumOf_5 : decode cX0_noteSumOf 5 = .ok (.iload 4, 2) := by decide +kernel
theorem dX0_noteSumOf_7 : decode cX0_noteSumOf 7 = .ok (.iload_n 2, 1) := by decide +kernel
theorem dX0_noteSumOf_8 : decode cX0_noteSumOf 8 = .ok (.if_icmp .ge 18, 3) := by decide +kernel
theorem dX0_noteSumOf_11 : decode cX0_noteSumOf 11 = .ok (.iload_n 3, 1) := by decide +kernel
theorem dX0_noteSumOf_12 : decode cX0_noteSumOf 12 = .ok (.aload_n 0, 1) := by decide +kernel
theorem dX0_noteSumOf_13 : decode cX0_noteSumOf 13 = .ok (.iload 4, 2) := by decide +kernel
theorem dX0_noteSumOf_15 : decode cX0_noteSumOf 15 = .ok (.invokevirtual 62, 3) := by decide +kernel
theorem dX0_noteSumOf_18 : decode cX0_noteSumOf 18 = .ok (.iadd, 1) := by decide +kernel
theorem dX0_noteSumOf_19 : decode cX0_noteSumOf 19 = .ok (.istore_n 3, 1) := by decide +kernel
theorem dX0_noteSumOf_20 : decode cX0_noteSumOf 20 = .ok (.iinc 4 1, 3) := by decide +kernel
theorem dX0_noteSumOf_23 : decode cX0_noteSumOf 23 = .ok (.goto (-18), 3) := by decide +kernel
theorem dX0_noteSumOf_26 : decode cX0_noteSumOf 26 = .ok (.iload_n 3, 1) := by decide +kernel
theorem dX0_noteSumOf_27 : decode cX0_noteSumOf 27 = .ok (.ireturn, 1) := by decide +kernel
theorem dX1_init_0 : decode cX1_init 0 = .ok (.aload_n 0, 1) := by decide +kernel
theorem dX1_init_1 : decode cX1_init 1 = .ok (.invokespecial 3, 3) := by decide +kernel
theorem dX1_init_4 : decode cX1_init 4 = .ok (.aload_n 0, 1) := by decide +kernel
theorem dX1_init_5 : decode cX1_init 5 = .ok (.bipush 120, 2) := by decide +kernel
theorem dX1_init_7 : decode cX1_init 7 = .ok (.newarray .int, 2) := by decide +kernel
theorem dX1_init_9 : decode cX1_init 9 = .ok (.putfield 9, 3) := by decide +kernel
theorem dX1_init_12 : decode cX1_init 12 = .ok (.aload_n 0, 1) := by decide +kernel
theorem dX1_init_13 : decode cX1_init 13 = .ok (.bipush 120, 2) := by decide +kernel
theorem dX1_init_15 : decode cX1_init 15 = .ok (.newarray .int, 2) := by decide +kernel
theorem dX1_init_17 : decode cX1_init 17 = .ok (.putfield 15, 3) := by decide +kernel
theorem dX1_init_20 : decode cX1_init 20 = .ok (.return_, 1) := by decide +kernel
set_option maxRecDepth 20000 in
theorem ggX1_copyFrom_X9_copyRow : GoodIn wsX1_copyFrom wsX9_copyRow := goodIn_r _ [6, 7, 8, 9, 10, 11, 12, 13, 14] (by decide +kernel) (by decide +kernel)
set_option maxRecDepth 20000 in
theorem gX1_copyFrom_X9_copyRow_n18 : GoodIn wsX1_copyFrom (wsX9_copyRow) := ggX1_copyFrom_X9_copyRow
theorem dX1_copyFrom_0 : decode cX1_copyFrom 0 = .ok (.aload_n 1, 1) := by decide +kernel
theorem dX1_copyFrom_1 : decode cX1_copyFrom 1 = .ok (.getfield 9, 3) := by decide +kernel
theorem dX1_copyFrom_4 : decode cX1_copyFrom 4 = .ok (.aload_n 0, 1) := by decide +kernel
theorem dX1_copyFrom_5 : decode cX1_copyFrom 5 = .ok (.getfield 9, 3) := by decide +kernel
theorem dX1_copyFrom_8 : decode cX1_copyFrom 8 = .ok (.invokestatic 18, 3) := by decide +kernel
theorem dX1_copyFrom_11 : decode cX1_copyFrom 11 = .ok (.aload_n 1, 1) := by decide +kernel
theorem dX1_copyFrom_12 : decode cX1_copyFrom 12 = .ok (.getfield 15, 3) := by decide +kernel
theorem dX1_copyFrom_15 : decode cX1_copyFrom 15 = .ok (.aload_n 0, 1) := by decide +kernel
theorem dX1_copyFrom_16 : decode cX1_copyFrom 16 = .ok (.getfield 15, 3) := by decide +kernel
theorem dX1_copyFrom_19 : decode cX1_copyFrom 19 = .ok (.invokestatic 18, 3) := by decide +kernel
theorem dX1_copyFrom_22 : decode cX1_copyFrom 22 = .ok (.aload_n 0, 1) := by decide +kernel
theorem dX1_copyFrom_23 : decode cX1_copyFrom 23 = .ok (.aload_n 1, 1) := by decide +kernel
theorem dX1_copyFrom_24 : decode cX1_copyFrom 24 = .ok (.getfield 22, 3) := by decide +kernel
theorem dX1_copyFrom_27 : decode cX1_copyFrom 27 = .ok (.putfield 22, 3) := by decide +kernel
theorem dX1_copyFrom_30 : decode cX1_copyFrom 30 = .ok (.return_, 1) := by decide +kernel
theorem dX1_clear_0 : decode cX1_clear 0 = .ok (.aload_n 0, 1) := by decide +kernel
theorem dX1_clear_1 : decode cX1_clear 1 = .ok (.iconst 0, 1) := by decide +kernel
theorem dX1_clear_2 : decode cX1_clear 2 = .ok (.putfield 22, 3) := by decide +kernel
theorem dX1_clear_5 : decode cX1_clear 5 = .ok (.return_, 1) := by decide +kernel
theorem dX1_has_0 : decode cX1_has 0 = .ok (.iload_n 1, 1) := by decide +kernel
theorem dX1_has_1 : decode cX1_has 1 = .ok (.ifCond .lt 15, 3) := by decide +kernel
theorem dX1_has_4 : decode cX1_has 4 = .ok (.iload_n 1, 1) := by decide +kernel
theorem dX1_has_5 : decode cX1_has 5 = .ok (.aload_n 0, 1) := by decide +kernel
theorem dX1_has_6 : decode cX1_has 6 = .ok (.getfield 22, 3) := by decide +kernel
theorem dX1_has_9 : decode cX1_has 9 = .ok (.if_icmp .ge 7, 3) := by decide +kernel
theorem dX1_has_12 : decode cX1_has 12 = .ok (.iconst 1, 1) := by decide +kernel
theorem dX1_has_13 : decode cX1_has 13 = .ok (.goto 4, 3) := by decide +kernel
theorem dX1_has_16 : decode cX1_has 16 = .ok (.iconst 0, 1) := by decide +kernel
theorem dX1_has_17 : decode cX1_has 17 = .ok (.ireturn, 1) := by decide +kernel
set_option maxRecDepth 20000 in
theorem ggX1_sizeOf_X1_has : GoodIn wsX1_sizeOf wsX1_has := goodIn_r _ [7, 8, 12, 13, 14] (by decide +kernel) (by decide +kernel)
set_option maxRecDepth 20000 in
theorem gX1_sizeOf_X1_has : GoodIn wsX1_sizeOf (wsV RX1 26 RX1 yX1_has wsX1_has) := goodIn_app (goodIn_of _ (by decide +kernel)) ggX1_sizeOf_X1_has
set_option maxRecDepth 20000 in
theorem ggX1_sizeOf_X9_cellOf : GoodIn wsX1_sizeOf wsX9_cellOf := goodIn_r _ [11] (by decide +kernel) (by decide +kernel)
set_option maxRecDepth 20000 in
theorem gX1_sizeOf_X9_cellOf_n30 : GoodIn wsX1_sizeOf (wsX9_cellOf) := ggX1_sizeOf_X9_cellOf
theorem dX1_sizeOf_0 : decode cX1_sizeOf 0 = .ok (.aload_n 0, 1) := by decide +kernel
theorem dX1_sizeOf_1 : decode cX1_sizeOf 1 = .ok (.iload_n 1, 1) := by decide +kernel
theorem dX1_sizeOf_2 : decode cX1_sizeOf 2 = .ok (.invokevirtual 26, 3) := by decide +kernel
theorem dX1_sizeOf_5 : decode cX1_sizeOf 5 = .ok (.ifCond .eq 25, 3) := by decide +kernel
theorem dX1_sizeOf_8 : decode cX1_sizeOf 8 = .ok (.iload_n 2, 1) := by decide +kernel
theorem dX1_sizeOf_9 : decode cX1_sizeOf 9 = .ok (.ifCond .ne 10, 3) := by decide +kernel
theorem dX1_sizeOf_12 : decode cX1_sizeOf 12 = .ok (.aload_n 0, 1) := by decide +kernel
theorem dX1_sizeOf_13 : decode cX1_sizeOf 13 = .ok (.getfield 9, 3) := by decide +kernel
theorem dX1_sizeOf_16 : decode cX1_sizeOf 16 = .ok (.goto 7, 3) := by decide +kernel
theorem dX1_sizeOf_19 : decode cX1_sizeOf 19 = .ok (.aload_n 0, 1) := by decide +kernel
theorem dX1_sizeOf_20 : decode cX1_sizeOf 20 = .ok (.getfield 15, 3) := by decide +kernel
theorem dX1_sizeOf_23 : decode cX1_sizeOf 23 = .ok (.iload_n 1, 1) := by decide +kernel
theorem dX1_sizeOf_24 : decode cX1_sizeOf 24 = .ok (.invokestatic 30, 3) := by decide +kernel
theorem dX1_sizeOf_27 : decode cX1_sizeOf 27 = .ok (.goto 4, 3) := by decide +kernel
theorem dX1_sizeOf_30 : decode cX1_sizeOf 30 = .ok (.iconst 0, 1) := by decide +kernel
theorem dX1_sizeOf_31 : decode cX1_sizeOf 31 = .ok (.ireturn, 1) := by decide +kernel
set_option maxRecDepth 20000 in
theorem ggX1_firstOf_X1_sizeOf : GoodIn wsX1_firstOf wsX1_sizeOf := goodIn_r _ [6, 7, 8, 9, 10, 11, 5, 12, 1, 13, 14, 15, 16, 17, 18] (by decide +kernel) (by decide +kernel)
set_option maxRecDepth 20000 in
theorem gX1_firstOf_X1_sizeOf : GoodIn wsX1_firstOf (wsV RX1 34 RX1 yX1_sizeOf wsX1_sizeOf) := goodIn_app (goodIn_of _ (by decide +kernel)) ggX1_firstOf_X1_sizeOf
theorem dX1_firstOf_0 : decode cX1_firstOf 0 = .ok (.iconst 0, 1) := by decide +kernel
theorem dX1_firstOf_1 : decode cX1_firstOf 1 = .ok (.istore_n 3, 1) := by decide +kernel
theorem dX1_firstOf_2 : decode cX1_firstOf 2 = .ok (.iconst 0, 1) := by decide +kernel
theorem dX1_firstOf_3 : decode cX1_firstOf 3 = .ok (.istore 4, 2) := by decide +kernel
theorem dX1_firstOf_5 : decode cX1_firstOf 5 = .ok (.iload 4, 2) := by decide +kernel
theorem dX1_firstOf_7 : decode cX1_firstOf 7 = .ok (.iload_n 1, 1) := by decide +kernel
theorem dX1_firstOf_8 : decode cX1_firstOf 8 = .ok (.if_icmp .ge 28, 3) := by decide +kernel
theorem dX1_firstOf_11 : decode cX1_firstOf 11 = .ok (.iload 4, 2) := by decide +kernel
theorem dX1_firstOf_13 : decode cX1_firstOf 13 = .ok (.aload_n 0, 1) := by decide +kernel
theorem dX1_firstOf_14 : decode cX1_firstOf 14 = .ok (.getfield 22, 3) := by decide +kernel
theorem dX1_firstOf_17 : decode cX1_firstOf 17 = .ok (.if_icmp .ge 19, 3) := by decide +kernel
theorem dX1_firstOf_20 : decode cX1_firstOf 20 = .ok (.iload_n 3, 1) := by decide +kernel
theorem dX1_firstOf_21 : decode cX1_firstOf 21 = .ok (.aload_n 0, 1) := by decide +kernel
theorem dX1_firstOf_22 : decode cX1_firstOf 22 = .ok (.iload 4, 2) := by decide +kernel
theorem dX1_firstOf_24 : decode cX1_firstOf 24 = .ok (.iload_n 2, 1) := by decide +kernel
theorem dX1_firstOf_25 : decode cX1_firstOf 25 = .ok (.invokevirtual 34, 3) := by decide +kernel
theorem dX1_firstOf_28 : decode cX1_firstOf 28 = .ok (.iadd, 1) := by decide +kernel
theorem dX1_firstOf_29 : decode cX1_firstOf 29 = .ok (.istore_n 3, 1) := by decide +kernel
theorem dX1_firstOf_30 : decode cX1_firstOf 30 = .ok (.iinc 4 1, 3) := by decide +kernel
theorem dX1_firstOf_33 : decode cX1_firstOf 33 = .ok (.goto (-28), 3) := by decide +kernel
theorem dX1_firstOf_36 : decode cX1_firstOf 36 = .ok (.iload_n 3, 1) := by decide +kernel
theorem dX1_firstOf_37 : decode cX1_firstOf 37 = .ok (.ireturn, 1) := by decide +kernel
set_option maxRecDepth 20000 in
theorem ggX1_groupOf_X1_sizeOf : GoodIn wsX1_groupOf wsX1_sizeOf := goodIn_r _ [6, 7, 8, 9, 10, 11, 5, 12, 1, 13, 14, 15, 16, 17, 18] (by decide +kernel) (by decide +kernel)
set_option maxRecDepth 20000 in
theorem gX1_groupOf_X1_sizeOf : GoodIn wsX1_groupOf (wsV RX1 34 RX1 yX1_sizeOf wsX1_sizeOf) := goodIn_app (goodIn_of _ (by decide +kernel)) ggX1_groupOf_X1_sizeOf
theorem dX1_groupOf_0 : decode cX1_groupOf 0 = .ok (.iconst 0, 1) := by decide +kernel
theorem dX1_groupOf_1 : decode cX1_groupOf 1 = .ok (.istore_n 3, 1) := by decide +kernel
theorem dX1_groupOf_2 : decode cX1_groupOf 2 = .ok (.iconst 0, 1) := by decide +kernel
theorem dX1_groupOf_3 : decode cX1_groupOf 3 = .ok (.istore 4, 2) := by decide +kernel
theorem dX1_groupOf_5 : decode cX1_groupOf 5 = .ok (.iload 4, 2) := by decide +kernel
theorem dX1_groupOf_7 : decode cX1_groupOf 7 = .ok (.aload_n 0, 1) := by decide +kernel
theorem dX1_groupOf_8 : decode cX1_groupOf 8 = .ok (.getfield 22, 3) := by decide +kernel
theorem dX1_groupOf_11 : decode cX1_groupOf 11 = .ok (.if_icmp .ge 27, 3) := by decide +kernel
theorem dX1_groupOf_14 : decode cX1_groupOf 14 = .ok (.iload_n 3, 1) := by decide +kernel
theorem dX1_groupOf_15 : decode cX1_groupOf 15 = .ok (.aload_n 0, 1) := by decide +kernel
theorem dX1_groupOf_16 : decode cX1_groupOf 16 = .ok (.iload 4, 2) := by decide +kernel
theorem dX1_groupOf_18 : decode cX1_groupOf 18 = .ok (.iload_n 1, 1) := by decide +kernel
theorem dX1_groupOf_19 : decode cX1_groupOf 19 = .ok (.invokevirtual 34, 3) := by decide +kernel
theorem dX1_groupOf_22 : decode cX1_groupOf 22 = .ok (.iadd, 1) := by decide +kernel
theorem dX1_groupOf_23 : decode cX1_groupOf 23 = .ok (.istore_n 3, 1) := by decide +kernel
theorem dX1_groupOf_24 : decode cX1_groupOf 24 = .ok (.iload_n 2, 1) := by decide +kernel
theorem dX1_groupOf_25 : decode cX1_groupOf 25 = .ok (.iload_n 3, 1) := by decide +kernel
theorem dX1_groupOf_26 : decode cX1_groupOf 26 = .ok (.if_icmp .ge 6, 3) := by decide +kernel
theorem dX1_groupOf_29 : decode cX1_groupOf 29 = .ok (.iload 4, 2) := by decide +kernel
theorem dX1_groupOf_31 : decode cX1_groupOf 31 = .ok (.ireturn, 1) := by decide +kernel
theorem dX1_groupOf_32 : decode cX1_groupOf 32 = .ok (.iinc 4 1, 3) := by decide +kernel
theorem dX1_groupOf_35 : decode cX1_groupOf 35 = .ok (.goto (-30), 3) := by decide +kernel
theorem dX1_groupOf_38 : decode cX1_groupOf 38 = .ok (.iconst (-1), 1) := by decide +kernel
theorem dX1_groupOf_39 : decode cX1_groupOf 39 = .ok (.ireturn, 1) := by decide +kernel
set_option maxRecDepth 20000 in
theorem ggX1_kindOf_X1_sizeOf : GoodIn wsX1_kindOf wsX1_sizeOf := goodIn_r _ [5, 6, 7, 8, 9, 10, 4, 11, 12, 13, 14, 15, 16, 17, 18] (by decide +kernel) (by decide +kernel)
set_option maxRecDepth 20000 in
theorem gX1_kindOf_X1_sizeOf : GoodIn wsX1_kindOf (wsV RX1 34 RX1 yX1_sizeOf wsX1_sizeOf) := goodIn_app (goodIn_of _ (by decide +kernel)) ggX1_kindOf_X1_sizeOf
theorem dX1_kindOf_0 : decode cX1_kindOf 0 = .ok (.aload_n 0, 1) := by decide +kernel
theorem dX1_kindOf_1 : decode cX1_kindOf 1 = .ok (.iload_n 1, 1) := by decide +kernel
theorem dX1_kindOf_2 : decode cX1_kindOf 2 = .ok (.iconst 0, 1) := by decide +kernel
theorem dX1_kindOf_3 : decode cX1_kindOf 3 = .ok (.invokevirtual 34, 3) := by decide +kernel
theorem dX1_kindOf_6 : decode cX1_kindOf 6 = .ok (.istore_n 2, 1) := by decide +kernel
theorem dX1_kindOf_7 : decode cX1_kindOf 7 = .ok (.aload_n 0, 1) := by decide +kernel
theorem dX1_kindOf_8 : decode cX1_kindOf 8 = .ok (.iload_n 1, 1) := by decide +kernel
theorem dX1_kindOf_9 : decode cX1_kindOf 9 = .ok (.iconst 1, 1) := by decide +kernel
theorem dX1_kindOf_10 : decode cX1_kindOf 10 = .ok (.invokevirtual 34, 3) := by decide +kernel
theorem dX1_kindOf_13 : decode cX1_kindOf 13 = .ok (.istore_n 3, 1) := by decide +kernel
theorem dX1_kindOf_14 : decode cX1_kindOf 14 = .ok (.iload_n 3, 1) := by decide +kernel
theorem dX1_kindOf_15 : decode cX1_kindOf 15 = .ok (.ifCond .ne 5, 3) := by decide +kernel
theorem dX1_kindOf_18 : decode cX1_kindOf 18 = .ok (.iconst 1, 1) := by decide +kernel
theorem dX1_kindOf_19 : decode cX1_kindOf 19 = .ok (.ireturn, 1) := by decide +kernel
theorem dX1_kindOf_20 : decode cX1_kindOf 20 = .ok (.iload_n 2, 1) := by decide +kernel
theorem dX1_kindOf_21 : decode cX1_kindOf 21 = .ok (.ifCond .ne 5, 3) := by decide +kernel
theorem dX1_kindOf_24 : decode cX1_kindOf 24 = .ok (.iconst 2, 1) := by decide +kernel
theorem dX1_kindOf_25 : decode cX1_kindOf 25 = .ok (.ireturn, 1) := by decide +kernel
theorem dX1_kindOf_26 : decode cX1_kindOf 26 = .ok (.iload_n 2, 1) := by decide +kernel
theorem dX1_kindOf_27 : decode cX1_kindOf 27 = .ok (.iconst 1, 1) := by decide +kernel
theorem dX1_kindOf_28 : decode cX1_kindOf 28 = .ok (.if_icmp .ne 12, 3) := by decide +kernel
theorem dX1_kindOf_31 : decode cX1_kindOf 31 = .ok (.iload_n 3, 1) := by decide +kernel
theorem dX1_kindOf_32 : decode cX1_kindOf 32 = .ok (.iconst 1, 1) := by decide +kernel
theorem dX1_kindOf_33 : decode cX1_kindOf 33 = .ok (.if_icmp .ne 7, 3) := by decide +kernel
theorem dX1_kindOf_36 : decode cX1_kindOf 36 = .ok (.iconst 0, 1) := by decide +kernel
theorem dX1_kindOf_37 : decode cX1_kindOf 37 = .ok (.goto 4, 3) := by decide +kernel
theorem dX1_kindOf_40 : decode cX1_kindOf 40 = .ok (.iconst 3, 1) := by decide +kernel
theorem dX1_kindOf_41 : decode cX1_kindOf 41 = .ok (.ireturn, 1) := by decide +kernel
set_option maxRecDepth 20000 in
theorem ggX1_kindTotal_X1_kindOf : GoodIn wsX1_kindTotal wsX1_kindOf := goodIn_r _ [6, 7, 8, 9, 5, 10, 11, 12, 13, 14, 15, 16, 1, 17, 18, 19, 20, 21, 22] (by decide +kernel) (by decide +kernel)
set_option maxRecDepth 20000 in
theorem gX1_kindTotal_X1_kindOf : GoodIn wsX1_kindTotal (wsV RX1 38 RX1 yX1_kindOf wsX1_kindOf) := goodIn_app (goodIn_of _ (by decide +kernel)) ggX1_kindTotal_X1_kindOf
theorem dX1_kindTotal_0 : decode cX1_kindTotal 0 = .ok (.iconst 0, 1) := by decide +kernel
theorem dX1_kindTotal_1 : decode cX1_kindTotal 1 = .ok (.istore_n 2, 1) := by decide +kernel
theorem dX1_kindTotal_2 : decode cX1_kindTotal 2 = .ok (.iconst 0, 1) := by decide +kernel
theorem dX1_kindTotal_3 : decode cX1_kindTotal 3 = .ok (.istore_n 3, 1) := by decide +kernel
theorem dX1_kindTotal_4 : decode cX1_kindTotal 4 = .ok (.iload_n 3, 1) := by decide +kernel
theorem dX1_kindTotal_5 : decode cX1_kindTotal 5 = .ok (.aload_n 0, 1) := by decide +kernel
theorem dX1_kindTotal_6 : decode cX1_kindTotal 6 = .ok (.getfield 22, 3) := by decide +kernel
theorem dX1_kindTotal_9 : decode cX1_kindTotal 9 = .ok (.if_icmp .ge 26, 3) := by decide +kernel
theorem dX1_kindTotal_12 : decode cX1_kindTotal 12 = .ok (.iload_n 2, 1) := by decide +kernel
theorem dX1_kindTotal_13 : decode cX1_kindTotal 13 = .ok (.aload_n 0, 1) := by decide +kernel
theorem dX1_kindTotal_14 : decode cX1_kindTotal 14 = .ok (.iload_n 3, 1) := by decide +kernel
theorem dX1_kindTotal_15 : decode cX1_kindTotal 15 = .ok (.invokevirtual 38, 3) := by decide +kernel
theorem dX1_kindTotal_18 : decode cX1_kindTotal 18 = .ok (.iload_n 1, 1) := by decide +kernel
theorem dX1_kindTotal_19 : decode cX1_kindTotal 19 = .ok (.if_icmp .ne 7, 3) := by decide +kernel
theorem dX1_kindTotal_22 : decode cX1_kindTotal 22 = .ok (.iconst 1, 1) := by decide +kernel
theorem dX1_kindTotal_23 : decode cX1_kindTotal 23 = .ok (.goto 4, 3) := by decide +kernel
theorem dX1_kindTotal_26 : decode cX1_kindTotal 26 = .ok (.iconst 0, 1) := by decide +kernel
theorem dX1_kindTotal_27 : decode cX1_kindTotal 27 = .ok (.iadd, 1) := by decide +kernel
theorem dX1_kindTotal_28 : decode cX1_kindTotal 28 = .ok (.istore_n 2, 1) := by decide +kernel
theorem dX1_kindTotal_29 : decode cX1_kindTotal 29 = .ok (.iinc 3 1, 3) := by decide +kernel
theorem dX1_kindTotal_32 : decode cX1_kindTotal 32 = .ok (.goto (-28), 3) := by decide +kernel
theorem dX1_kindTotal_35 : decode cX1_kindTotal 35 = .ok (.iload_n 2, 1) := by decide +kernel
theorem dX1_kindTotal_36 : decode cX1_kindTotal 36 = .ok (.ireturn, 1) := by decide +kernel
set_option maxRecDepth 20000 in
theorem ggX1_alikeTotal_X1_sizeOf : GoodIn wsX1_alikeTotal wsX1_sizeOf := goodIn_r _ [6, 7, 8, 9, 10, 11, 5, 12, 1, 13, 14, 15, 16, 17, 18] (by decide +kernel) (by decide +kernel)
set_option maxRecDepth 20000 in
theorem gX1_alikeTotal_X1_sizeOf : GoodIn wsX1_alikeTotal (wsV RX1 34 RX1 yX1_sizeOf wsX1_sizeOf) := goodIn_app (goodIn_of _ (by decide +kernel)) ggX1_alikeTotal_X1_sizeOf
theorem dX1_alikeTotal_0 : decode cX1_alikeTotal 0 = .ok (.iconst 0, 1) := by decide +kernel
theorem dX1_alikeTotal_1 : decode cX1_alikeTotal 1 = .ok (.istore_n 1, 1) := by decide +kernel
theorem dX1_alikeTotal_2 : decode cX1_alikeTotal 2 = .ok (.iconst 0, 1) := by decide +kernel
theorem dX1_alikeTotal_3 : decode cX1_alikeTotal 3 = .ok (.istore_n 2, 1) := by decide +kernel
theorem dX1_alikeTotal_4 : decode cX1_alikeTotal 4 = .ok (.iload_n 2, 1) := by decide +kernel
theorem dX1_alikeTotal_5 : decode cX1_alikeTotal 5 = .ok (.aload_n 0, 1) := by decide +kernel
theorem dX1_alikeTotal_6 : decode cX1_alikeTotal 6 = .ok (.getfield 22, 3) := by decide +kernel
theorem dX1_alikeTotal_9 : decode cX1_alikeTotal 9 = .ok (.if_icmp .ge 32, 3) := by decide +kernel
theorem dX1_alikeTotal_12 : decode cX1_alikeTotal 12 = .ok (.iload_n 1, 1) := by decide +kernel
theorem dX1_alikeTotal_13 : decode cX1_alikeTotal 13 = .ok (.aload_n 0, 1) := by decide +kernel
theorem dX1_alikeTotal_14 : decode cX1_alikeTotal 14 = .ok (.iload_n 2, 1) := by decide +kernel
theorem dX1_alikeTotal_15 : decode cX1_alikeTotal 15 = .ok (.iconst 0, 1) := by decide +kernel
theorem dX1_alikeTotal_16 : decode cX1_alikeTotal 16 = .ok (.invokevirtual 34, 3) := by decide +kernel
theorem dX1_alikeTotal_19 : decode cX1_alikeTotal 19 = .ok (.aload_n 0, 1) := by decide +kernel
theorem dX1_alikeTotal_20 : decode cX1_alikeTotal 20 = .ok (.iload_n 2, 1) := by decide +kernel
theorem dX1_alikeTotal_21 : decode cX1_alikeTotal 21 = .ok (.iconst 1, 1) := by decide +kernel
theorem dX1_alikeTotal_22 : decode cX1_alikeTotal 22 = .ok (.invokevirtual 34, 3) := by decide +kernel
theorem dX1_alikeTotal_25 : decode cX1_alikeTotal 25 = .ok (.if_icmp .ne 7, 3) := by decide +kernel
theorem dX1_alikeTotal_28 : decode cX1_alikeTotal 28 = .ok (.iconst 1, 1) := by decide +kernel
theorem dX1_alikeTotal_29 : decode cX1_alikeTotal 29 = .ok (.goto 4, 3) := by decide +kernel
theorem dX1_alikeTotal_32 : decode cX1_alikeTotal 32 = .ok (.iconst 0, 1) := by decide +kernel
theorem dX1_alikeTotal_33 : decode cX1_alikeTotal 33 = .ok (.iadd, 1) := by decide +kernel
theorem dX1_alikeTotal_34 : decode cX1_alikeTotal 34 = .ok (.istore_n 1, 1) := by decide +kernel
theorem dX1_alikeTotal_35 : decode cX1_alikeTotal 35 = .ok (.iinc 2 1, 3) := by decide +kernel
theorem dX1_alikeTotal_38 : decode cX1_alikeTotal 38 = .ok (.goto (-34), 3) := by decide +kernel
theorem dX1_alikeTotal_41 : decode cX1_alikeTotal 41 = .ok (.iload_n 1, 1) := by decide +kernel
theorem dX1_alikeTotal_42 : decode cX1_alikeTotal 42 = .ok (.ireturn, 1) := by decide +kernel
set_option maxRecDepth 20000 in
theorem ggX1_put_X1_has : GoodIn wsX1_put wsX1_has := goodIn_r _ [7, 8, 9, 10, 11] (by decide +kernel) (by decide +kernel)
set_option maxRecDepth 20000 in
theorem gX1_put_X1_has : GoodIn wsX1_put (wsV RX1 26 RX1 yX1_has wsX1_has) := goodIn_app (goodIn_of _ (by decide +kernel)) ggX1_put_X1_has
theorem dX1_put_0 : decode cX1_put 0 = .ok (.aload_n 0, 1) := by decide +kernel
theorem dX1_put_1 : decode cX1_put 1 = .ok (.iload_n 1, 1) := by decide +kernel
theorem dX1_put_2 : decode cX1_put 2 = .ok (.invokevirtual 26, 3) := by decide +kernel
theorem dX1_put_5 : decode cX1_put 5 = .ok (.ifCond .eq 23, 3) := by decide +kernel
theorem dX1_put_8 : decode cX1_put 8 = .ok (.iload_n 1, 1) := by decide +kernel
theorem dX1_put_9 : decode cX1_put 9 = .ok (.bipush 120, 2) := by decide +kernel
theorem dX1_put_11 : decode cX1_put 11 = .ok (.if_icmp .ge 17, 3) := by decide +kernel
theorem dX1_put_14 : decode cX1_put 14 = .ok (.aload_n 0, 1) := by decide +kernel
theorem dX1_put_15 : decode cX1_put 15 = .ok (.getfield 9, 3) := by decide +kernel
theorem dX1_put_18 : decode cX1_put 18 = .ok (.iload_n 1, 1) := by decide +kernel
theorem dX1_put_19 : decode cX1_put 19 = .ok (.iload_n 2, 1) := by decide +kernel
theorem dX1_put_20 : decode cX1_put 20 = .ok (.iastore, 1) := by decide +kernel
theorem dX1_put_21 : decode cX1_put 21 = .ok (.aload_n 0, 1) := by decide +kernel
theorem dX1_put_22 : decode cX1_put 22 = .ok (.getfield 15, 3) := by decide +kernel
theorem dX1_put_25 : decode cX1_put 25 = .ok (.iload_n 1, 1) := by decide +kernel
theorem dX1_put_26 : decode cX1_put 26 = .ok (.iload_n 3, 1) := by decide +kernel
theorem dX1_put_27 : decode cX1_put 27 = .ok (.iastore, 1) := by decide +kernel
theorem dX1_put_28 : decode cX1_put 28 = .ok (.return_, 1) := by decide +kernel
set_option maxRecDepth 20000 in
theorem ggX1_append_X1_put : GoodIn wsX1_append wsX1_put := goodIn_r _ [6, 7, 8, 9, 10, 11, 5, 12, 1, 13, 14, 15] (by decide +kernel) (by decide +kernel)
set_option maxRecDepth 20000 in
theorem gX1_append_X1_put : GoodIn wsX1_append (wsV RX1 42 RX1 yX1_put wsX1_put) := goodIn_app (goodIn_of _ (by decide +kernel)) ggX1_append_X1_put
theorem dX1_append_0 : decode cX1_append 0 = .ok (.aload_n 0, 1) := by decide +kernel
theorem dX1_append_1 : decode cX1_append 1 = .ok (.getfield 22, 3) := by decide +kernel
theorem dX1_append_4 : decode cX1_append 4 = .ok (.bipush 120, 2) := by decide +kernel
theorem dX1_append_6 : decode cX1_append 6 = .ok (.if_icmp .ge 25, 3) := by decide +kernel
theorem dX1_append_9 : decode cX1_append 9 = .ok (.aload_n 0, 1) := by decide +kernel
theorem dX1_append_10 : decode cX1_append 10 = .ok (.dup, 1) := by decide +kernel
theorem dX1_append_11 : decode cX1_append 11 = .ok (.getfield 22, 3) := by decide +kernel
theorem dX1_append_14 : decode cX1_append 14 = .ok (.iconst 1, 1) := by decide +kernel
theorem dX1_append_15 : decode cX1_append 15 = .ok (.iadd, 1) := by decide +kernel
theorem dX1_append_16 : decode cX1_append 16 = .ok (.putfield 22, 3) := by decide +kernel
theorem dX1_append_19 : decode cX1_append 19 = .ok (.aload_n 0, 1) := by decide +kernel
theorem dX1_append_20 : decode cX1_append 20 = .ok (.aload_n 0, 1) := by decide +kernel
theorem dX1_append_21 : decode cX1_append 21 = .ok (.getfield 22, 3) := by decide +kernel
theorem dX1_append_24 : decode cX1_append 24 = .ok (.iconst 1, 1) := by decide +kernel
theorem dX1_append_25 : decode cX1_append 25 = .ok (.isub, 1) := by decide +kernel
theorem dX1_append_26 : decode cX1_append 26 = .ok (.iload_n 1, 1) := by decide +kernel
theorem dX1_append_27 : decode cX1_append 27 = .ok (.iload_n 2, 1) := by decide +kernel
theorem dX1_append_28 : decode cX1_append 28 = .ok (.invokevirtual 42, 3) := by decide +kernel
theorem dX1_append_31 : decode cX1_append 31 = .ok (.return_, 1) := by decide +kernel
set_option maxRecDepth 20000 in
theorem ggX1_resize_X1_sizeOf : GoodIn wsX1_resize wsX1_sizeOf := goodIn_r _ [5, 6, 7, 8, 9, 10, 4, 11, 12, 13, 14, 15, 20, 21, 22] (by decide +kernel) (by decide +kernel)
set_option maxRecDepth 20000 in
theorem gX1_resize_X1_sizeOf : GoodIn wsX1_resize (wsV RX1 34 RX1 yX1_sizeOf wsX1_sizeOf) := goodIn_app (goodIn_of _ (by decide +kernel)) ggX1_resize_X1_sizeOf
set_option maxRecDepth 20000 in
theorem ggX1_resize_X1_put : GoodIn wsX1_resize wsX1_put := goodIn_r _ [19, 6, 7, 8, 9, 10, 4, 11, 12, 20, 21, 22] (by decide +kernel) (by decide +kernel)
set_option maxRecDepth 20000 in
theorem gX1_resize_X1_put : GoodIn wsX1_resize (wsV RX1 42 RX1 yX1_put wsX1_put) := goodIn_app (goodIn_of _ (by decide +kernel)) ggX1_resize_X1_put
theorem dX1_resize_0 : decode cX1_resize 0 = .ok (.aload_n 0, 1) := by decide +kernel
theorem dX1_resize_1 : decode cX1_resize 1 = .ok (.iload_n 1, 1) := by decide +kernel
theorem dX1_resize_2 : decode cX1_resize 2 = .ok (.iconst 0, 1) := by decide +kernel
theorem dX1_resize_3 : decode cX1_resize 3 = .ok (.invokevirtual 34, 3) := by decide +kernel
theorem dX1_resize_6 : decode cX1_resize 6 = .ok (.iload_n 2, 1) := by decide +kernel
theorem dX1_resize_7 : decode cX1_resize 7 = .ok (.ifCond .ne 7, 3) := by decide +kernel
theorem dX1_resize_10 : decode cX1_resize 10 = .ok (.iload_n 3, 1) := by decide +kernel
theorem dX1_resize_11 : decode cX1_resize 11 = .ok (.goto 4, 3) := by decide +kernel
theorem dX1_resize_14 : decode cX1_resize 14 = .ok (.iconst 0, 1) := by decide +kernel
theorem dX1_resize_15 : decode cX1_resize 15 = .ok (.iadd, 1) := by decide +kernel
theorem dX1_resize_16 : decode cX1_resize 16 = .ok (.istore 4, 2) := by decide +kernel
theorem dX1_resize_18 : decode cX1_resize 18 = .ok (.aload_n 0, 1) := by decide +kernel
theorem dX1_resize_19 : decode cX1_resize 19 = .ok (.iload_n 1, 1) := by decide +kernel
theorem dX1_resize_20 : decode cX1_resize 20 = .ok (.iconst 1, 1) := by decide +kernel
theorem dX1_resize_21 : decode cX1_resize 21 = .ok (.invokevirtual 34, 3) := by decide +kernel
theorem dX1_resize_24 : decode cX1_resize 24 = .ok (.iload_n 2, 1) := by decide +kernel
theorem dX1_resize_25 : decode cX1_resize 25 = .ok (.iconst 1, 1) := by decide +kernel
theorem dX1_resize_26 : decode cX1_resize 26 = .ok (.if_icmp .ne 7, 3) := by decide +kernel
theorem dX1_resize_29 : decode cX1_resize 29 = .ok (.iload_n 3, 1) := by decide +kernel
theorem dX1_resize_30 : decode cX1_resize 30 = .ok (.goto 4, 3) := by decide +kernel
theorem dX1_resize_33 : decode cX1_resize 33 = .ok (.iconst 0, 1) := by decide +kernel
theorem dX1_resize_34 : decode cX1_resize 34 = .ok (.iadd, 1) := by decide +kernel
theorem dX1_resize_35 : decode cX1_resize 35 = .ok (.istore 5, 2) := by decide +kernel
theorem dX1_resize_37 : decode cX1_resize 37 = .ok (.aload_n 0, 1) := by decide +kernel
theorem dX1_resize_38 : decode cX1_resize 38 = .ok (.iload_n 1, 1) := by decide +kernel
theorem dX1_resize_39 : decode cX1_resize 39 = .ok (.iload 4, 2) := by decide +kernel
theorem dX1_resize_41 : decode cX1_resize 41 = .ok (.iload 5, 2) := by decide +kernel
theorem dX1_resize_43 : decode cX1_resize 43 = .ok (.invokevirtual 42, 3) := by decide +kernel
theorem dX1_resize_46 : decode cX1_resize 46 = .ok (.return_, 1) := by decide +kernel
set_option maxRecDepth 20000 in
theorem ggX1_merge_X1_has : GoodIn wsX1_merge wsX1_has := goodIn_r _ [8, 2, 33, 34, 35] (by decide +kernel) (by decide +kernel)
set_option maxRecDepth 20000 in
theorem gX1_merge_X1_has : GoodIn wsX1_merge (wsV RX1 26 RX1 yX1_has wsX1_has) := goodIn_app (goodIn_of _ (by decide +kernel)) ggX1_merge_X1_has
set_option maxRecDepth 20000 in
theorem ggX1_merge_X1_firstOf : GoodIn wsX1_merge wsX1_firstOf := goodIn_r _ [12, 2, 13, 14, 15, 7, 16, 1, 3, 4, 5, 6, 8, 17, 18, 19, 33, 34, 35] (by decide +kernel) (by decide +kernel)
set_option maxRecDepth 20000 in
theorem gX1_merge_X1_firstOf : GoodIn wsX1_merge (wsV RX1 46 RX1 yX1_firstOf wsX1_firstOf) := goodIn_app (goodIn_of _ (by decide +kernel)) ggX1_merge_X1_firstOf
set_option maxRecDepth 20000 in
theorem ggX1_merge_X1_sizeOf : GoodIn wsX1_merge wsX1_sizeOf := goodIn_r _ [16, 1, 3, 4, 5, 6, 7, 8, 2, 17, 18, 19, 33, 34, 35] (by decide +kernel) (by decide +kernel)
set_option maxRecDepth 20000 in
theorem gX1_merge_X1_sizeOf : GoodIn wsX1_merge (wsV RX1 34 RX1 yX1_sizeOf wsX1_sizeOf) := goodIn_app (goodIn_of _ (by decide +kernel)) ggX1_merge_X1_sizeOf
set_option maxRecDepth 20000 in
theorem ggX1_merge_X1_put : GoodIn wsX1_merge wsX1_put := goodIn_r _ [23, 1, 3, 4, 5, 6, 7, 8, 2, 33, 34, 35] (by decide +kernel) (by decide +kernel)
set_option maxRecDepth 20000 in
theorem gX1_merge_X1_put : GoodIn wsX1_merge (wsV RX1 42 RX1 yX1_put wsX1_put) := goodIn_app (goodIn_of _ (by decide +kernel)) ggX1_merge_X1_put
set_option maxRecDepth 20000 in
theorem ggX1_merge_X9_closeCells : GoodIn wsX1_merge wsX9_closeCells := goodIn_r _ [25, 26, 27, 28, 29, 30, 31, 18, 32] (by decide +kernel) (by decide +kernel)
set_option maxRecDepth 20000 in
theorem gX1_merge_X9_closeCells_n49 : GoodIn wsX1_merge (wsX9_closeCells) := ggX1_merge_X9_closeCells
theorem dX1_merge_0 : decode cX1_merge 0 = .ok (.aload_n 0, 1) := by decide +kernel
theorem dX1_merge_1 : decode cX1_merge 1 = .ok (.iload_n 1, 1) := by decide +kernel
theorem dX1_merge_2 : decode cX1_merge 2 = .ok (.invokevirtual 26, 3) := by decide +kernel
theorem dX1_merge_5 : decode cX1_merge 5 = .ok (.ifCond .eq 16, 3) := by decide +kernel
theorem dX1_merge_8 : decode cX1_merge 8 = .ok (.aload_n 0, 1) := by decide +kernel
theorem dX1_merge_9 : decode cX1_merge 9 = .ok (.iload_n 2, 1) := by decide +kernel
theorem dX1_merge_10 : decode cX1_merge 10 = .ok (.invokevirtual 26, 3) := by decide +kernel
theorem dX1_merge_13 : decode cX1_merge 13 = .ok (.ifCond .eq 8, 3) := by decide +kernel
theorem dX1_merge_16 : decode cX1_merge 16 = .ok (.iload_n 2, 1) := by decide +kernel
theorem dX1_merge_17 : decode cX1_merge 17 = .ok (.iload_n 1, 1) := by decide +kernel
theorem dX1_merge_18 : decode cX1_merge 18 = .ok (.if_icmp .gt 4, 3) := by decide +kernel
theorem dX1_merge_21 : decode cX1_merge 21 = .ok (.return_, 1) := by decide +kernel
theorem dX1_merge_22 : decode cX1_merge 22 = .ok (.aload_n 0, 1) := by decide +kernel
theorem dX1_merge_23 : decode cX1_merge 23 = .ok (.iload_n 2, 1) := by decide +kernel
theorem dX1_merge_24 : decode cX1_merge 24 = .ok (.iconst 0, 1) := by decide +kernel
theorem dX1_merge_25 : decode cX1_merge 25 = .ok (.invokevirtual 46, 3) := by decide +kernel
theorem dX1_merge_28 : decode cX1_merge 28 = .ok (.aload_n 0, 1) := by decide +kernel
theorem dX1_merge_29 : decode cX1_merge 29 = .ok (.iload_n 1, 1) := by decide +kernel
theorem dX1_merge_30 : decode cX1_merge 30 = .ok (.iconst 0, 1) := by decide +kernel
theorem dX1_merge_31 : decode cX1_merge 31 = .ok (.invokevirtual 46, 3) := by decide +kernel
theorem dX1_merge_34 : decode cX1_merge 34 = .ok (.isub, 1) := by decide +kernel
theorem dX1_merge_35 : decode cX1_merge 35 = .ok (.aload_n 0, 1) := by decide +kernel
theorem dX1_merge_36 : decode cX1_merge 36 = .ok (.iload_n 2, 1) := by decide +kernel
theorem dX1_merge_37 : decode cX1_merge 37 = .ok (.iconst 0, 1) := by decide +kernel
theorem dX1_merge_38 : decode cX1_merge 38 = .ok (.invokevirtual 34, 3) := by decide +kernel
theorem dX1_merge_41 : decode cX1_merge 41 = .ok (.iadd, 1) := by decide +kernel
theorem dX1_merge_42 : decode cX1_merge 42 = .ok (.istore_n 3, 1) := by decide +kernel
theorem dX1_merge_43 : decode cX1_merge 43 = .ok (.aload_n 0, 1) := by decide +kernel
theorem dX1_merge_44 : decode cX1_merge 44 = .ok (.iload_n 2, 1) := by decide +kernel
theorem dX1_merge_45 : decode cX1_merge 45 = .ok (.iconst 1, 1) := by decide +kernel
theorem dX1_merge_46 : decode cX1_merge 46 = .ok (.invokevirtual 46, 3) := by decide +kernel
theorem dX1_merge_49 : decode cX1_merge 49 = .ok (.aload_n 0, 1) := by decide +kernel
theorem dX1_merge_50 : decode cX1_merge 50 = .ok (.iload_n 1, 1) := by decide +kernel
theorem dX1_merge_51 : decode cX1_merge 51 = .ok (.iconst 1, 1) := by decide +kernel
theorem dX1_merge_52 : decode cX1_merge 52 = .ok (.invokevirtual 46, 3) := by decide +kernel
theorem dX1_merge_55 : decode cX1_merge 55 = .ok (.isub, 1) := by decide +kernel
theorem dX1_merge_56 : decode cX1_merge 56 = .ok (.aload_n 0, 1) := by decide +kernel
theorem dX1_merge_57 : decode cX1_merge 57 = .ok (.iload_n 2, 1) := by decide +kernel
theorem dX1_merge_58 : decode cX1_merge 58 = .ok (.iconst 1, 1) := by decide +kernel
theorem dX1_merge_59 : decode cX1_merge 59 = .ok (.invokevirtual 34, 3) := by decide +kernel
theorem dX1_merge_62 : decode cX1_merge 62 = .ok (.iadd, 1) := by decide +kernel
theorem dX1_merge_63 : decode cX1_merge 63 = .ok (.istore 4, 2) := by decide +kernel
theorem dX1_merge_65 : decode cX1_merge 65 = .ok (.aload_n 0, 1) := by decide +kernel
theorem dX1_merge_66 : decode cX1_merge 66 = .ok (.iload_n 1, 1) := by decide +kernel
theorem dX1_merge_67 : decode cX1_merge 67 = .ok (.iload_n 3, 1) := by decide +kernel
theorem dX1_merge_68 : decode cX1_merge 68 = .ok (.iload 4, 2) := by decide +kernel
theorem dX1_merge_70 : decode cX1_merge 70 = .ok (.invokevirtual 42, 3) := by decide +kernel
theorem dX1_merge_73 : decode cX1_merge 73 = .ok (.aload_n 0, 1) := by decide +kernel
theorem dX1_merge_74 : decode cX1_merge 74 = .ok (.getfield 9, 3) := by decide +kernel
theorem dX1_merge_77 : decode cX1_merge 77 = .ok (.iload_n 1, 1) := by decide +kernel
theorem dX1_merge_78 : decode cX1_merge 78 = .ok (.iconst 1, 1) := by decide +kernel
theorem dX1_merge_79 : decode cX1_merge 79 = .ok (.iadd, 1) := by decide +kernel
theorem dX1_merge_80 : decode cX1_merge 80 = .ok (.iload_n 2, 1) := by decide +kernel
theorem dX1_merge_81 : decode cX1_merge 81 = .ok (.iload_n 1, 1) := by decide +kernel
theorem dX1_merge_82 : decode cX1_merge 82 = .ok (.isub, 1) := by decide +kernel
theorem dX1_merge_83 : decode cX1_merge 83 = .ok (.aload_n 0, 1) := by decide +kernel
theorem dX1_merge_84 : decode cX1_merge 84 = .ok (.getfield 22, 3) := by decide +kernel
theorem dX1_merge_87 : decode cX1_merge 87 = .ok (.invokestatic 49, 3) := by decide +kernel
theorem dX1_merge_90 : decode cX1_merge 90 = .ok (.aload_n 0, 1) := by decide +kernel
theorem dX1_merge_91 : decode cX1_merge 91 = .ok (.getfield 15, 3) := by decide +kernel
theorem dX1_merge_94 : decode cX1_merge 94 = .ok (.iload_n 1, 1) := by decide +kernel
theorem dX1_merge_95 : decode cX1_merge 95 = .ok (.iconst 1, 1) := by decide +kernel
theorem dX1_merge_96 : decode cX1_merge 96 = .ok (.iadd, 1) := by decide +kernel
theorem dX1_merge_97 : decode cX1_merge 97 = .ok (.iload_n 2, 1) := by decide +kernel
theorem dX1_merge_98 : decode cX1_merge 98 = .ok (.iload_n 1, 1) := by decide +kernel
theorem dX1_merge_99 : decode cX1_merge 99 = .ok (.isub, 1) := by decide +kernel
theorem dX1_merge_100 : decode cX1_merge 100 = .ok (.aload_n 0, 1) := by decide +kernel
theorem dX1_merge_101 : decode cX1_merge 101 = .ok (.getfield 22, 3) := by decide +kernel
theorem dX1_merge_104 : decode cX1_merge 104 = .ok (.invokestatic 49, 3) := by decide +kernel
theorem dX1_merge_107 : decode cX1_merge 107 = .ok (.aload_n 0, 1) := by decide +kernel
theorem dX1_merge_108 : decode cX1_merge 108 = .ok (.dup, 1) := by decide +kernel
theorem dX1_merge_109 : decode cX1_merge 109 = .ok (.getfield 22, 3) := by decide +kernel
theorem dX1_merge_112 : decode cX1_merge 112 = .ok (.iload_n 2, 1) := by decide +kernel
theorem dX1_merge_113 : decode cX1_merge 113 = .ok (.iload_n 1, 1) := by decide +kernel
theorem dX1_merge_114 : decode cX1_merge 114 = .ok (.isub, 1) := by decide +kernel
theorem dX1_merge_115 : decode cX1_merge 115 = .ok (.isub, 1) := by decide +kernel
theorem dX1_merge_116 : decode cX1_merge 116 = .ok (.putfield 22, 3) := by decide +kernel
theorem dX1_merge_119 : decode cX1_merge 119 = .ok (.return_, 1) := by decide +kernel
set_option maxRecDepth 20000 in
theorem ggX1_cut_X1_has : GoodIn wsX1_cut wsX1_has := goodIn_r _ [8, 1, 29, 30, 31] (by decide +kernel) (by decide +kernel)
set_option maxRecDepth 20000 in
theorem gX1_cut_X1_has : GoodIn wsX1_cut (wsV RX1 26 RX1 yX1_has wsX1_has) := goodIn_app (goodIn_of _ (by decide +kernel)) ggX1_cut_X1_has
set_option maxRecDepth 20000 in
theorem ggX1_cut_X1_sizeOf : GoodIn wsX1_cut wsX1_sizeOf := goodIn_r _ [12, 2, 3, 4, 5, 6, 7, 8, 1, 13, 14, 15, 29, 30, 31] (by decide +kernel) (by decide +kernel)
set_option maxRecDepth 20000 in
theorem gX1_cut_X1_sizeOf : GoodIn wsX1_cut (wsV RX1 34 RX1 yX1_sizeOf wsX1_sizeOf) := goodIn_app (goodIn_of _ (by decide +kernel)) ggX1_cut_X1_sizeOf
set_option maxRecDepth 20000 in
theorem ggX1_cut_X9_openCell : GoodIn wsX1_cut wsX9_openCell := goodIn_r _ [17, 18, 19, 20, 21, 22, 23, 14, 24] (by decide +kernel) (by decide +kernel)
set_option maxRecDepth 20000 in
theorem gX1_cut_X9_openCell_n53 : GoodIn wsX1_cut (wsX9_openCell) := ggX1_cut_X9_openCell
set_option maxRecDepth 20000 in
theorem ggX1_cut_X1_put : GoodIn wsX1_cut wsX1_put := goodIn_r _ [28, 2, 3, 4, 5, 6, 7, 8, 1, 29, 30, 31] (by decide +kernel) (by decide +kernel)
set_option maxRecDepth 20000 in
theorem gX1_cut_X1_put : GoodIn wsX1_cut (wsV RX1 42 RX1 yX1_put wsX1_put) := goodIn_app (goodIn_of _ (by decide +kernel)) ggX1_cut_X1_put
theorem dX1_cut_0 : decode cX1_cut 0 = .ok (.aload_n 0, 1) := by decide +kernel
theorem dX1_cut_1 : decode cX1_cut 1 = .ok (.iload_n 1, 1) := by decide +kernel
theorem dX1_cut_2 : decode cX1_cut 2 = .ok (.invokevirtual 26, 3) := by decide +kernel
theorem dX1_cut_5 : decode cX1_cut 5 = .ok (.ifCond .eq 12, 3) := by decide +kernel
theorem dX1_cut_8 : decode cX1_cut 8 = .ok (.aload_n 0, 1) := by decide +kernel
theorem dX1_cut_9 : decode cX1_cut 9 = .ok (.getfield 22, 3) := by decide +kernel
theorem dX1_cut_12 : decode cX1_cut 12 = .ok (.bipush 120, 2) := by decide +kernel
theorem dX1_cut_14 : decode cX1_cut 14 = .ok (.if_icmp .lt 4, 3) := by decide +kernel
theorem dX1_cut_17 : decode cX1_cut 17 = .ok (.return_, 1) := by decide +kernel
theorem dX1_cut_18 : decode cX1_cut 18 = .ok (.aload_n 0, 1) := by decide +kernel
theorem dX1_cut_19 : decode cX1_cut 19 = .ok (.iload_n 1, 1) := by decide +kernel
theorem dX1_cut_20 : decode cX1_cut 20 = .ok (.iconst 0, 1) := by decide +kernel
theorem dX1_cut_21 : decode cX1_cut 21 = .ok (.invokevirtual 34, 3) := by decide +kernel
theorem dX1_cut_24 : decode cX1_cut 24 = .ok (.iload_n 2, 1) := by decide +kernel
theorem dX1_cut_25 : decode cX1_cut 25 = .ok (.isub, 1) := by decide +kernel
theorem dX1_cut_26 : decode cX1_cut 26 = .ok (.istore 4, 2) := by decide +kernel
theorem dX1_cut_28 : decode cX1_cut 28 = .ok (.aload_n 0, 1) := by decide +kernel
theorem dX1_cut_29 : decode cX1_cut 29 = .ok (.iload_n 1, 1) := by decide +kernel
theorem dX1_cut_30 : decode cX1_cut 30 = .ok (.iconst 1, 1) := by decide +kernel
theorem dX1_cut_31 : decode cX1_cut 31 = .ok (.invokevirtual 34, 3) := by decide +kernel
theorem dX1_cut_34 : decode cX1_cut 34 = .ok (.iload_n 3, 1) := by decide +kernel
theorem dX1_cut_35 : decode cX1_cut 35 = .ok (.isub, 1) := by decide +kernel
theorem dX1_cut_36 : decode cX1_cut 36 = .ok (.istore 5, 2) := by decide +kernel
theorem dX1_cut_38 : decode cX1_cut 38 = .ok (.aload_n 0, 1) := by decide +kernel
theorem dX1_cut_39 : decode cX1_cut 39 = .ok (.getfield 9, 3) := by decide +kernel
theorem dX1_cut_42 : decode cX1_cut 42 = .ok (.iload_n 1, 1) := by decide +kernel
theorem dX1_cut_43 : decode cX1_cut 43 = .ok (.aload_n 0, 1) := by decide +kernel
theorem dX1_cut_44 : decode cX1_cut 44 = .ok (.getfield 22, 3) := by decide +kernel
theorem dX1_cut_47 : decode cX1_cut 47 = .ok (.invokestatic 53, 3) := by decide +kernel
theorem dX1_cut_50 : decode cX1_cut 50 = .ok (.aload_n 0, 1) := by decide +kernel
theorem dX1_cut_51 : decode cX1_cut 51 = .ok (.getfield 15, 3) := by decide +kernel
theorem dX1_cut_54 : decode cX1_cut 54 = .ok (.iload_n 1, 1) := by decide +kernel
theorem dX1_cut_55 : decode cX1_cut 55 = .ok (.aload_n 0, 1) := by decide +kernel
theorem dX1_cut_56 : decode cX1_cut 56 = .ok (.getfield 22, 3) := by decide +kernel
theorem dX1_cut_59 : decode cX1_cut 59 = .ok (.invokestatic 53, 3) := by decide +kernel
theorem dX1_cut_62 : decode cX1_cut 62 = .ok (.aload_n 0, 1) := by decide +kernel
theorem dX1_cut_63 : decode cX1_cut 63 = .ok (.dup, 1) := by decide +kernel
theorem dX1_cut_64 : decode cX1_cut 64 = .ok (.getfield 22, 3) := by decide +kernel
theorem dX1_cut_67 : decode cX1_cut 67 = .ok (.iconst 1, 1) := by decide +kernel
theorem dX1_cut_68 : decode cX1_cut 68 = .ok (.iadd, 1) := by decide +kernel
theorem dX1_cut_69 : decode cX1_cut 69 = .ok (.putfield 22, 3) := by decide +kernel
theorem dX1_cut_72 : decode cX1_cut 72 = .ok (.aload_n 0, 1) := by decide +kernel
theorem dX1_cut_73 : decode cX1_cut 73 = .ok (.iload_n 1, 1) := by decide +kernel
theorem dX1_cut_74 : decode cX1_cut 74 = .ok (.iload_n 2, 1) := by decide +kernel
theorem dX1_cut_75 : decode cX1_cut 75 = .ok (.iload_n 3, 1) := by decide +kernel
theorem dX1_cut_76 : decode cX1_cut 76 = .ok (.invokevirtual 42, 3) := by decide +kernel
theorem dX1_cut_79 : decode cX1_cut 79 = .ok (.aload_n 0, 1) := by decide +kernel
theorem dX1_cut_80 : decode cX1_cut 80 = .ok (.iload_n 1, 1) := by decide +kernel
theorem dX1_cut_81 : decode cX1_cut 81 = .ok (.iconst 1, 1) := by decide +kernel
theorem dX1_cut_82 : decode cX1_cut 82 = .ok (.iadd, 1) := by decide +kernel
theorem dX1_cut_83 : decode cX1_cut 83 = .ok (.iload 4, 2) := by decide +kernel
theorem dX1_cut_85 : decode cX1_cut 85 = .ok (.iload 5, 2) := by decide +kernel
theorem dX1_cut_87 : decode cX1_cut 87 = .ok (.invokevirtual 42, 3) := by decide +kernel
theorem dX1_cut_90 : decode cX1_cut 90 = .ok (.return_, 1) := by decide +kernel
theorem dX1_swapBooks_0 : decode cX1_swapBooks 0 = .ok (.aload_n 0, 1) := by decide +kernel
theorem dX1_swapBooks_1 : decode cX1_swapBooks 1 = .ok (.getfield 9, 3) := by decide +kernel
theorem dX1_swapBooks_4 : decode cX1_swapBooks 4 = .ok (.astore_n 1, 1) := by decide +kernel
theorem dX1_swapBooks_5 : decode cX1_swapBooks 5 = .ok (.aload_n 0, 1) := by decide +kernel
theorem dX1_swapBooks_6 : decode cX1_swapBooks 6 = .ok (.aload_n 0, 1) := by decide +kernel
theorem dX1_swapBooks_7 : decode cX1_swapBooks 7 = .ok (.getfield 15, 3) := by decide +kernel
theorem dX1_swapBooks_10 : decode cX1_swapBooks 10 = .ok (.putfield 9, 3) := by decide +kernel
theorem dX1_swapBooks_13 : decode cX1_swapBooks 13 = .ok (.aload_n 0, 1) := by decide +kernel
theorem dX1_swapBooks_14 : decode cX1_swapBooks 14 = .ok (.aload_n 1, 1) := by decide +kernel
theorem dX1_swapBooks_15 : decode cX1_swapBooks 15 = .ok (.putfield 15, 3) := by decide +kernel
theorem dX1_swapBooks_18 : decode cX1_swapBooks 18 = .ok (.return_, 1) := by decide +kernel
set_option maxRecDepth 20000 in
theorem ggX2_init_X7_init : GoodIn wsX2_init wsX7_init := goodIn_r _ [9, 10, 2, 3, 11, 12, 13, 14, 15, 16, 17, 18, 19, 20, 21, 22, 23, 24, 25, 26, 27, 28, 29, 30, 31, 37, 38, 39, 40, 34, 35, 36, 41, 42, 43] (by decide +kernel) (by decide +kernel)
set_option maxRecDepth 20000 in
theorem gX2_init_X7_init_n17 : GoodIn wsX2_init (wsX7_init) := ggX2_init_X7_init
theorem dX2_init_0 : decode cX2_init 0 = .ok (.aload_n 0, 1) := by decide +kernel
theorem dX2_init_1 : decode cX2_init 1 = .ok (.invokespecial 3, 3) := by decide +kernel
theorem dX2_init_4 : decode cX2_init 4 = .ok (.aload_n 0, 1) := by decide +kernel
theorem dX2_init_5 : decode cX2_init 5 = .ok (.iconst 5, 1) := by decide +kernel
theorem dX2_init_6 : decode cX2_init 6 = .ok (.anewarray 9, 3) := by decide +kernel
theorem dX2_init_9 : decode cX2_init 9 = .ok (.putfield 11, 3) := by decide +kernel
theorem dX2_init_12 : decode cX2_init 12 = .ok (.iconst 0, 1) := by decide +kernel
theorem dX2_init_13 : decode cX2_init 13 = .ok (.istore_n 1, 1) := by decide +kernel
theorem dX2_init_14 : decode cX2_init 14 = .ok (.iload_n 1, 1) := by decide +kernel
theorem dX2_init_15 : decode cX2_init 15 = .ok (.iconst 5, 1) := by decide +kernel
theorem dX2_init_16 : decode cX2_init 16 = .ok (.if_icmp .ge 22, 3) := by decide +kernel
theorem dX2_init_19 : decode cX2_init 19 = .ok (.aload_n 0, 1) := by decide +kernel
theorem dX2_init_20 : decode cX2_init 20 = .ok (.getfield 11, 3) := by decide +kernel
theorem dX2_init_23 : decode cX2_init 23 = .ok (.iload_n 1, 1) := by decide +kernel
theorem dX2_init_24 : decode cX2_init 24 = .ok (.new 9, 3) := by decide +kernel
theorem dX2_init_27 : decode cX2_init 27 = .ok (.dup, 1) := by decide +kernel
theorem dX2_init_28 : decode cX2_init 28 = .ok (.invokespecial 17, 3) := by decide +kernel
theorem dX2_init_31 : decode cX2_init 31 = .ok (.aastore, 1) := by decide +kernel
theorem dX2_init_32 : decode cX2_init 32 = .ok (.iinc 1 1, 3) := by decide +kernel
theorem dX2_init_35 : decode cX2_init 35 = .ok (.goto (-21), 3) := by decide +kernel
theorem dX2_init_38 : decode cX2_init 38 = .ok (.return_, 1) := by decide +kernel
set_option maxRecDepth 20000 in
theorem ggX2_record_X2_dropOldest : GoodIn wsX2_record wsX2_dropOldest := goodIn_r _ [7, 2, 1, 46, 47] (by decide +kernel) (by decide +kernel)
set_option maxRecDepth 20000 in
theorem gX2_record_X2_dropOldest : GoodIn wsX2_record (wsV RX2 22 RX2 yX2_dropOldest wsX2_dropOldest) := goodIn_app (goodIn_of _ (by decide +kernel)) ggX2_record_X2_dropOldest
set_option maxRecDepth 20000 in
theorem ggX2_record_X9_isWithin : GoodIn wsX2_record wsX9_isWithin := goodIn_r _ [10] (by decide +kernel) (by decide +kernel)
set_option maxRecDepth 20000 in
theorem gX2_record_X9_isWithin_n25 : GoodIn wsX2_record (wsX9_isWithin) := ggX2_record_X9_isWithin
set_option maxRecDepth 20000 in
theorem ggX2_record_X7_copyFrom : GoodIn wsX2_record wsX7_copyFrom := goodIn_r _ [15, 16, 17, 18, 19, 20, 21, 22, 23, 24, 25, 26, 27, 28, 9, 29, 30, 31, 32, 33, 34, 35, 36, 37, 38, 39, 40, 41, 42, 43, 44, 45, 48, 49, 50, 51, 52, 53, 54, 55, 56, 57] (by decide +kernel) (by decide +kernel)
set_option maxRecDepth 20000 in
theorem gX2_record_X7_copyFrom : GoodIn wsX2_record (wsV RX2 29 RX7 yX7_copyFrom wsX7_copyFrom) := goodIn_app (goodIn_of _ (by decide +kernel)) ggX2_record_X7_copyFrom
theorem dX2_record_0 : decode cX2_record 0 = .ok (.aload_n 0, 1) := by decide +kernel
theorem dX2_record_1 : decode cX2_record 1 = .ok (.getfield 18, 3) := by decide +kernel
theorem dX2_record_4 : decode cX2_record 4 = .ok (.iconst 5, 1) := by decide +kernel
theorem dX2_record_5 : decode cX2_record 5 = .ok (.if_icmp .lt 7, 3) := by decide +kernel
theorem dX2_record_8 : decode cX2_record 8 = .ok (.aload_n 0, 1) := by decide +kernel
theorem dX2_record_9 : decode cX2_record 9 = .ok (.invokevirtual 22, 3) := by decide +kernel
theorem dX2_record_12 : decode cX2_record 12 = .ok (.aload_n 0, 1) := by decide +kernel
theorem dX2_record_13 : decode cX2_record 13 = .ok (.getfield 18, 3) := by decide +kernel
theorem dX2_record_16 : decode cX2_record 16 = .ok (.iconst 0, 1) := by decide +kernel
theorem dX2_record_17 : decode cX2_record 17 = .ok (.iconst 4, 1) := by decide +kernel
theorem dX2_record_18 : decode cX2_record 18 = .ok (.invokestatic 25, 3) := by decide +kernel
theorem dX2_record_21 : decode cX2_record 21 = .ok (.ifCond .ne 4, 3) := by decide +kernel
theorem dX2_record_24 : decode cX2_record 24 = .ok (.return_, 1) := by decide +kernel
theorem dX2_record_25 : decode cX2_record 25 = .ok (.aload_n 0, 1) := by decide +kernel
theorem dX2_record_26 : decode cX2_record 26 = .ok (.getfield 11, 3) := by decide +kernel
theorem dX2_record_29 : decode cX2_record 29 = .ok (.aload_n 0, 1) := by decide +kernel
theorem dX2_record_30 : decode cX2_record 30 = .ok (.getfield 18, 3) := by decide +kernel
theorem dX2_record_33 : decode cX2_record 33 = .ok (.aaload, 1) := by decide +kernel
theorem dX2_record_34 : decode cX2_record 34 = .ok (.astore_n 2, 1) := by decide +kernel
theorem dX2_record_35 : decode cX2_record 35 = .ok (.aload_n 2, 1) := by decide +kernel
theorem dX2_record_36 : decode cX2_record 36 = .ok (.ifnull 18, 3) := by decide +kernel
theorem dX2_record_39 : decode cX2_record 39 = .ok (.aload_n 2, 1) := by decide +kernel
theorem dX2_record_40 : decode cX2_record 40 = .ok (.aload_n 1, 1) := by decide +kernel
theorem dX2_record_41 : decode cX2_record 41 = .ok (.invokevirtual 29, 3) := by decide +kernel
theorem dX2_record_44 : decode cX2_record 44 = .ok (.aload_n 0, 1) := by decide +kernel
theorem dX2_record_45 : decode cX2_record 45 = .ok (.dup, 1) := by decide +kernel
theorem dX2_record_46 : decode cX2_record 46 = .ok (.getfield 18, 3) := by decide +kernel
theorem dX2_record_49 : decode cX2_record 49 = .ok (.iconst 1, 1) := by decide +kernel
theorem dX2_record_50 : decode cX2_record 50 = .ok (.iadd, 1) := by decide +kernel
theorem dX2_record_51 : decode cX2_record 51 = .ok (.putfield 18, 3) := by decide +kernel
theorem dX2_record_54 : decode cX2_record 54 = .ok (.return_, 1) := by decide +kernel
set_option maxRecDepth 20000 in
theorem ggX2_restore_X7_copyFrom : GoodIn wsX2_restore wsX7_copyFrom := goodIn_r _ [7, 8, 9, 10, 11, 12, 13, 14, 15, 16, 17, 18, 19, 20, 21, 22, 23, 24, 25, 26, 27, 28, 29, 30, 31, 32, 33, 34, 35, 36, 37, 38, 41, 42, 43, 44, 45, 46, 47, 48, 49, 50] (by decide +kernel) (by decide +kernel)
set_option maxRecDepth 20000 in
theorem gX2_restore_X7_copyFrom : GoodIn wsX2_restore (wsV RX2 29 RX7 yX7_copyFrom wsX7_copyFrom) := goodIn_app (goodIn_of _ (by decide +kernel)) ggX2_restore_X7_copyFrom
theorem dX2_restore_0 : decode cX2_restore 0 = .ok (.aload_n 0, 1) := by decide +kernel
theorem dX2_restore_1 : decode cX2_restore 1 = .ok (.getfield 18, 3) := by decide +kernel
theorem dX2_restore_4 : decode cX2_restore 4 = .ok (.iconst 1, 1) := by decide +kernel
theorem dX2_restore_5 : decode cX2_restore 5 = .ok (.if_icmp .lt 11, 3) := by decide +kernel
theorem dX2_restore_8 : decode cX2_restore 8 = .ok (.aload_n 0, 1) := by decide +kernel
theorem dX2_restore_9 : decode cX2_restore 9 = .ok (.getfield 18, 3) := by decide +kernel
theorem dX2_restore_12 : decode cX2_restore 12 = .ok (.iconst 5, 1) := by decide +kernel
theorem dX2_restore_13 : decode cX2_restore 13 = .ok (.if_icmp .le 4, 3) := by decide +kernel
theorem dX2_restore_16 : decode cX2_restore 16 = .ok (.return_, 1) := by decide +kernel
theorem dX2_restore_17 : decode cX2_restore 17 = .ok (.aload_n 0, 1) := by decide +kernel
theorem dX2_restore_18 : decode cX2_restore 18 = .ok (.getfield 11, 3) := by decide +kernel
theorem dX2_restore_21 : decode cX2_restore 21 = .ok (.aload_n 0, 1) := by decide +kernel
theorem dX2_restore_22 : decode cX2_restore 22 = .ok (.getfield 18, 3) := by decide +kernel
theorem dX2_restore_25 : decode cX2_restore 25 = .ok (.iconst 1, 1) := by decide +kernel
theorem dX2_restore_26 : decode cX2_restore 26 = .ok (.isub, 1) := by decide +kernel
theorem dX2_restore_27 : decode cX2_restore 27 = .ok (.aaload, 1) := by decide +kernel
theorem dX2_restore_28 : decode cX2_restore 28 = .ok (.astore_n 2, 1) := by decide +kernel
theorem dX2_restore_29 : decode cX2_restore 29 = .ok (.aload_n 2, 1) := by decide +kernel
theorem dX2_restore_30 : decode cX2_restore 30 = .ok (.ifnull 18, 3) := by decide +kernel
theorem dX2_restore_33 : decode cX2_restore 33 = .ok (.aload_n 1, 1) := by decide +kernel
theorem dX2_restore_34 : decode cX2_restore 34 = .ok (.aload_n 2, 1) := by decide +kernel
theorem dX2_restore_35 : decode cX2_restore 35 = .ok (.invokevirtual 29, 3) := by decide +kernel
theorem dX2_restore_38 : decode cX2_restore 38 = .ok (.aload_n 0, 1) := by decide +kernel
theorem dX2_restore_39 : decode cX2_restore 39 = .ok (.dup, 1) := by decide +kernel
theorem dX2_restore_40 : decode cX2_restore 40 = .ok (.getfield 18, 3) := by decide +kernel
theorem dX2_restore_43 : decode cX2_restore 43 = .ok (.iconst 1, 1) := by decide +kernel
theorem dX2_restore_44 : decode cX2_restore 44 = .ok (.isub, 1) := by decide +kernel
theorem dX2_restore_45 : decode cX2_restore 45 = .ok (.putfield 18, 3) := by decide +kernel
theorem dX2_restore_48 : decode cX2_restore 48 = .ok (.return_, 1) := by decide +kernel
theorem dX2_dropOldest_0 : decode cX2_dropOldest 0 = .ok (.aload_n 0, 1) := by decide +kernel
theorem dX2_dropOldest_1 : decode cX2_dropOldest 1 = .ok (.getfield 11, 3) := by decide +kernel
theorem dX2_dropOldest_4 : decode cX2_dropOldest 4 = .ok (.iconst 0, 1) := by decide +kernel
theorem dX2_dropOldest_5 : decode cX2_dropOldest 5 = .ok (.aaload, 1) := by decide +kernel
theorem dX2_dropOldest_6 : decode cX2_dropOldest 6 = .ok (.astore_n 1, 1) := by decide +kernel
theorem dX2_dropOldest_7 : decode cX2_dropOldest 7 = .ok (.iconst 1, 1) := by decide +kernel
theorem dX2_dropOldest_8 : decode cX2_dropOldest 8 = .ok (.istore_n 2, 1) := by decide +kernel
theorem dX2_dropOldest_9 : decode cX2_dropOldest 9 = .ok (.iload_n 2, 1) := by decide +kernel
theorem dX2_dropOldest_10 : decode cX2_dropOldest 10 = .ok (.iconst 5, 1) := by decide +kernel
theorem dX2_dropOldest_11 : decode cX2_dropOldest 11 = .ok (.if_icmp .ge 23, 3) := by decide +kernel
theorem dX2_dropOldest_14 : decode cX2_dropOldest 14 = .ok (.aload_n 0, 1) := by decide +kernel
theorem dX2_dropOldest_15 : decode cX2_dropOldest 15 = .ok (.getfield 11, 3) := by decide +kernel
theorem dX2_dropOldest_18 : decode cX2_dropOldest 18 = .ok (.iload_n 2, 1) := by decide +kernel
theorem dX2_dropOldest_19 : decode cX2_dropOldest 19 = .ok (.iconst 1, 1) := by decide +kernel
theorem dX2_dropOldest_20 : decode cX2_dropOldest 20 = .ok (.isub, 1) := by decide +kernel
theorem dX2_dropOldest_21 : decode cX2_dropOldest 21 = .ok (.aload_n 0, 1) := by decide +kernel
theorem dX2_dropOldest_22 : decode cX2_dropOldest 22 = .ok (.getfield 11, 3) := by decide +kernel
theorem dX2_dropOldest_25 : decode cX2_dropOldest 25 = .ok (.iload_n 2, 1) := by decide +kernel
theorem dX2_dropOldest_26 : decode cX2_dropOldest 26 = .ok (.aaload, 1) := by decide +kernel
theorem dX2_dropOldest_27 : decode cX2_dropOldest 27 = .ok (.aastore, 1) := by decide +kernel
theorem dX2_dropOldest_28 : decode cX2_dropOldest 28 = .ok (.iinc 2 1, 3) := by decide +kernel
theorem dX2_dropOldest_31 : decode cX2_dropOldest 31 = .ok (.goto (-22), 3) := by decide +kernel
theorem dX2_dropOldest_34 : decode cX2_dropOldest 34 = .ok (.aload_n 0, 1) := by decide +kernel
theorem dX2_dropOldest_35 : decode cX2_dropOldest 35 = .ok (.getfield 11, 3) := by decide +kernel
theorem dX2_dropOldest_38 : decode cX2_dropOldest 38 = .ok (.iconst 4, 1) := by decide +kernel
theorem dX2_dropOldest_39 : decode cX2_dropOldest 39 = .ok (.aload_n 1, 1) := by decide +kernel
theorem dX2_dropOldest_40 : decode cX2_dropOldest 40 = .ok (.aastore, 1) := by decide +kernel
theorem dX2_dropOldest_41 : decode cX2_dropOldest 41 = .ok (.aload_n 0, 1) := by decide +kernel
theorem dX2_dropOldest_42 : decode cX2_dropOldest 42 = .ok (.iconst 4, 1) := by decide +kernel
theorem dX2_dropOldest_43 : decode cX2_dropOldest 43 = .ok (.putfield 18, 3) := by decide +kernel
theorem dX2_dropOldest_46 : decode cX2_dropOldest 46 = .ok (.return_, 1) := by decide +kernel
theorem dX3_init_0 : decode cX3_init 0 = .ok (.aload_n 0, 1) := by decide +kernel
theorem dX3_init_1 : decode cX3_init 1 = .ok (.invokespecial 3, 3) := by decide +kernel
theorem dX3_init_4 : decode cX3_init 4 = .ok (.aload_n 0, 1) := by decide +kernel
theorem dX3_init_5 : decode cX3_init 5 = .ok (.bipush 40, 2) := by decide +kernel
theorem dX3_init_7 : decode cX3_init 7 = .ok (.putfield 9, 3) := by decide +kernel
theorem dX3_init_10 : decode cX3_init 10 = .ok (.aload_n 0, 1) := by decide +kernel
theorem dX3_init_11 : decode cX3_init 11 = .ok (.bipush 40, 2) := by decide +kernel
theorem dX3_init_13 : decode cX3_init 13 = .ok (.putfield 15, 3) := by decide +kernel
theorem dX3_init_16 : decode cX3_init 16 = .ok (.aload_n 0, 1) := by decide +kernel
theorem dX3_init_17 : decode cX3_init 17 = .ok (.bipush 40, 2) := by decide +kernel
theorem dX3_init_19 : decode cX3_init 19 = .ok (.putfield 18, 3) := by decide +kernel
theorem dX3_init_22 : decode cX3_init 22 = .ok (.aload_n 0, 1) := by decide +kernel
theorem dX3_init_23 : decode cX3_init 23 = .ok (.iconst 2, 1) := by decide +kernel
theorem dX3_init_24 : decode cX3_init 24 = .ok (.putfield 21, 3) := by decide +kernel
theorem dX3_init_27 : decode cX3_init 27 = .ok (.aload_n 0, 1) := by decide +kernel
theorem dX3_init_28 : decode cX3_init 28 = .ok (.bipush 120, 2) := by decide +kernel
theorem dX3_init_30 : decode cX3_init 30 = .ok (.newarray .int, 2) := by decide +kernel
theorem dX3_init_32 : decode cX3_init 32 = .ok (.putfield 24, 3) := by decide +kernel
theorem dX3_init_35 : decode cX3_init 35 = .ok (.aload_n 0, 1) := by decide +kernel
theorem dX3_init_36 : decode cX3_init 36 = .ok (.bipush 120, 2) := by decide +kernel
theorem dX3_init_38 : decode cX3_init 38 = .ok (.newarray .int, 2) := by decide +kernel
theorem dX3_init_40 : decode cX3_init 40 = .ok (.putfield 28, 3) := by decide +kernel
theorem dX3_init_43 : decode cX3_init 43 = .ok (.aload_n 0, 1) := by decide +kernel
theorem dX3_init_44 : decode cX3_init 44 = .ok (.bipush 120, 2) := by decide +kernel
theorem dX3_init_46 : decode cX3_init 46 = .ok (.newarray .int, 2) := by decide +kernel
theorem dX3_init_48 : decode cX3_init 48 = .ok (.putfield 31, 3) := by decide +kernel
theorem dX3_init_51 : decode cX3_init 51 = .ok (.aload_n 0, 1) := by decide +kernel
theorem dX3_init_52 : decode cX3_init 52 = .ok (.bipush 120, 2) := by decide +kernel
theorem dX3_init_54 : decode cX3_init 54 = .ok (.newarray .int, 2) := by decide +kernel
theorem dX3_init_56 : decode cX3_init 56 = .ok (.putfield 34, 3) := by decide +kernel
theorem dX3_init_59 : decode cX3_init 59 = .ok (.return_, 1) := by decide +kernel
theorem dX3_widthOf_0 : decode cX3_widthOf 0 = .ok (.iload_n 1, 1) := by decide +kernel
theorem dX3_widthOf_1 : decode cX3_widthOf 1 = .ok (.ifCond .ne 10, 3) := by decide +kernel
theorem dX3_widthOf_4 : decode cX3_widthOf 4 = .ok (.aload_n 0, 1) := by decide +kernel
theorem dX3_widthOf_5 : decode cX3_widthOf 5 = .ok (.getfield 9, 3) := by decide +kernel
theorem dX3_widthOf_8 : decode cX3_widthOf 8 = .ok (.goto 7, 3) := by decide +kernel
theorem dX3_widthOf_11 : decode cX3_widthOf 11 = .ok (.aload_n 0, 1) := by decide +kernel
theorem dX3_widthOf_12 : decode cX3_widthOf 12 = .ok (.getfield 15, 3) := by decide +kernel
theorem dX3_widthOf_15 : decode cX3_widthOf 15 = .ok (.ireturn, 1) := by decide +kernel
theorem dX3_changeWidth_0 : decode cX3_changeWidth 0 = .ok (.iload_n 1, 1) := by decide +kernel
theorem dX3_changeWidth_1 : decode cX3_changeWidth 1 = .ok (.ifCond .ne 11, 3) := by decide +kernel
theorem dX3_changeWidth_4 : decode cX3_changeWidth 4 = .ok (.aload_n 0, 1) := by decide +kernel
theorem dX3_changeWidth_5 : decode cX3_changeWidth 5 = .ok (.iload_n 2, 1) := by decide +kernel
theorem dX3_changeWidth_6 : decode cX3_changeWidth 6 = .ok (.putfield 9, 3) := by decide +kernel
theorem dX3_changeWidth_9 : decode cX3_changeWidth 9 = .ok (.goto 8, 3) := by decide +kernel
theorem dX3_changeWidth_12 : decode cX3_changeWidth 12 = .ok (.aload_n 0, 1) := by decide +kernel
theorem dX3_changeWidth_13 : decode cX3_changeWidth 13 = .ok (.iload_n 2, 1) := by decide +kernel
theorem dX3_changeWidth_14 : decode cX3_changeWidth 14 = .ok (.putfield 15, 3) := by decide +kernel
theorem dX3_changeWidth_17 : decode cX3_changeWidth 17 = .ok (.return_, 1) := by decide +kernel
set_option maxRecDepth 20000 in
theorem ggX3_arrange_X3_measureGroups : GoodIn wsX3_arrange wsX3_measureGroups := goodIn_r _ [10, 11, 5, 12, 13, 14, 15, 16, 17, 3, 18, 19, 20, 21, 22, 23, 24, 25, 26, 27, 28, 29, 30, 31, 32, 33, 34, 35, 36, 37, 38, 39, 40, 41, 42, 43, 44, 45, 46, 47, 48, 49, 50, 51, 52, 53, 54, 55, 56, 57, 58, 59, 60, 61, 62, 63, 64, 65, 66, 67, 68, 69, 70, 71, 72, 90, 91, 92, 93, 94, 95, 96, 97, 98, 99, 100, 84, 85, 86, 87, 88, 89, 101, 102, 103, 104] (by decide +kernel) (by decide +kernel)
set_option maxRecDepth 20000 in
theorem gX3_arrange_X3_measureGroups : GoodIn wsX3_arrange (wsV RX3 55 RX3 yX3_measureGroups wsX3_measureGroups) := goodIn_app (goodIn_of _ (by decide +kernel)) ggX3_arrange_X3_measureGroups
set_option maxRecDepth 20000 in
theorem ggX3_arrange_X3_fillPages : GoodIn wsX3_arrange wsX3_fillPages := goodIn_r _ [76, 5, 77, 15, 22, 78, 79, 80, 81, 82, 9, 83, 90, 91, 92, 93, 94, 95, 96, 97, 98, 99, 100] (by decide +kernel) (by decide +kernel)
set_option maxRecDepth 20000 in
theorem gX3_arrange_X3_fillPages : GoodIn wsX3_arrange (wsV RX3 59 RX3 yX3_fillPages wsX3_fillPages) := goodIn_app (goodIn_of _ (by decide +kernel)) ggX3_arrange_X3_fillPages
theorem dX3_arrange_0 : decode cX3_arrange 0 = .ok (.aload_n 0, 1) := by decide +kernel
theorem dX3_arrange_1 : decode cX3_arrange 1 = .ok (.aload_n 1, 1) := by decide +kernel
theorem dX3_arrange_2 : decode cX3_arrange 2 = .ok (.getfield 37, 3) := by decide +kernel
theorem dX3_arrange_5 : decode cX3_arrange 5 = .ok (.getfield 43, 3) := by decide +kernel
theorem dX3_arrange_8 : decode cX3_arrange 8 = .ok (.bipush 120, 2) := by decide +kernel
theorem dX3_arrange_10 : decode cX3_arrange 10 = .ok (.invokestatic 48, 3) := by decide +kernel
theorem dX3_arrange_13 : decode cX3_arrange 13 = .ok (.putfield 54, 3) := by decide +kernel
theorem dX3_arrange_16 : decode cX3_arrange 16 = .ok (.aload_n 0, 1) := by decide +kernel
theorem dX3_arrange_17 : decode cX3_arrange 17 = .ok (.aload_n 1, 1) := by decide +kernel
theorem dX3_arrange_18 : decode cX3_arrange 18 = .ok (.invokevirtual 55, 3) := by decide +kernel
theorem dX3_arrange_21 : decode cX3_arrange 21 = .ok (.aload_n 0, 1) := by decide +kernel
theorem dX3_arrange_22 : decode cX3_arrange 22 = .ok (.invokevirtual 59, 3) := by decide +kernel
theorem dX3_arrange_25 : decode cX3_arrange 25 = .ok (.return_, 1) := by decide +kernel
set_option maxRecDepth 20000 in
theorem ggX3_measureGroups_X1_sizeOf : GoodIn wsX3_measureGroups wsX1_sizeOf := goodIn_r _ [19, 20, 21, 22, 23, 24, 18, 25, 26, 27, 28, 29, 79, 80, 81] (by decide +kernel) (by decide +kernel)
set_option maxRecDepth 20000 in
theorem gX3_measureGroups_X1_sizeOf : GoodIn wsX3_measureGroups (wsV RX3 65 RX1 yX1_sizeOf wsX1_sizeOf) := goodIn_app (goodIn_of _ (by decide +kernel)) ggX3_measureGroups_X1_sizeOf
set_option maxRecDepth 20000 in
theorem ggX3_measureGroups_X0_linesOf : GoodIn wsX3_measureGroups wsX0_linesOf := goodIn_r _ [34, 35, 36, 37, 33, 38, 39, 40, 41, 42, 43, 44, 27, 28, 29, 45, 46, 47, 48, 49, 50, 51, 52, 53, 54, 55, 82, 83, 84, 85] (by decide +kernel) (by decide +kernel)
set_option maxRecDepth 20000 in
theorem gX3_measureGroups_X0_linesOf : GoodIn wsX3_measureGroups (wsV RX3 72 RX0 yX0_linesOf wsX0_linesOf) := goodIn_app (goodIn_of _ (by decide +kernel)) ggX3_measureGroups_X0_linesOf
set_option maxRecDepth 20000 in
theorem ggX3_measureGroups_X0_noteSumOf : GoodIn wsX3_measureGroups wsX0_noteSumOf := goodIn_r _ [59, 60, 61, 62, 33, 63, 64, 40, 41, 42, 43, 44, 27, 28, 29, 82, 83, 84, 85] (by decide +kernel) (by decide +kernel)
set_option maxRecDepth 20000 in
theorem gX3_measureGroups_X0_noteSumOf : GoodIn wsX3_measureGroups (wsV RX3 88 RX0 yX0_noteSumOf wsX0_noteSumOf) := goodIn_app (goodIn_of _ (by decide +kernel)) ggX3_measureGroups_X0_noteSumOf
theorem dX3_measureGroups_0 : decode cX3_measureGroups 0 = .ok (.aload_n 0, 1) := by decide +kernel
theorem dX3_measureGroups_1 : decode cX3_measureGroups 1 = .ok (.iconst 0, 1) := by decide +kernel
theorem dX3_measureGroups_2 : decode cX3_measureGroups 2 = .ok (.putfield 62, 3) := by decide +kernel
theorem dX3_measureGroups_5 : decode cX3_measureGroups 5 = .ok (.iconst 0, 1) := by decide +kernel
theorem dX3_measureGroups_6 : decode cX3_measureGroups 6 = .ok (.istore_n 2, 1) := by decide +kernel
theorem dX3_measureGroups_7 : decode cX3_measureGroups 7 = .ok (.iconst 0, 1) := by decide +kernel
theorem dX3_measureGroups_8 : decode cX3_measureGroups 8 = .ok (.istore_n 3, 1) := by decide +kernel
theorem dX3_measureGroups_9 : decode cX3_measureGroups 9 = .ok (.iconst 0, 1) := by decide +kernel
theorem dX3_measureGroups_10 : decode cX3_measureGroups 10 = .ok (.istore 4, 2) := by decide +kernel
theorem dX3_measureGroups_12 : decode cX3_measureGroups 12 = .ok (.iload 4, 2) := by decide +kernel
theorem dX3_measureGroups_14 : decode cX3_measureGroups 14 = .ok (.aload_n 0, 1) := by decide +kernel
theorem dX3_measureGroups_15 : decode cX3_measureGroups 15 = .ok (.getfield 54, 3) := by decide +kernel
theorem dX3_measureGroups_18 : decode cX3_measureGroups 18 = .ok (.if_icmp .ge 142, 3) := by decide +kernel
theorem dX3_measureGroups_21 : decode cX3_measureGroups 21 = .ok (.iload_n 2, 1) := by decide +kernel
theorem dX3_measureGroups_22 : decode cX3_measureGroups 22 = .ok (.aload_n 1, 1) := by decide +kernel
theorem dX3_measureGroups_23 : decode cX3_measureGroups 23 = .ok (.getfield 37, 3) := by decide +kernel
theorem dX3_measureGroups_26 : decode cX3_measureGroups 26 = .ok (.iload 4, 2) := by decide +kernel
theorem dX3_measureGroups_28 : decode cX3_measureGroups 28 = .ok (.iconst 0, 1) := by decide +kernel
theorem dX3_measureGroups_29 : decode cX3_measureGroups 29 = .ok (.invokevirtual 65, 3) := by decide +kernel
theorem dX3_measureGroups_32 : decode cX3_measureGroups 32 = .ok (.iadd, 1) := by decide +kernel
theorem dX3_measureGroups_33 : decode cX3_measureGroups 33 = .ok (.istore 5, 2) := by decide +kernel
theorem dX3_measureGroups_35 : decode cX3_measureGroups 35 = .ok (.iload_n 3, 1) := by decide +kernel
theorem dX3_measureGroups_36 : decode cX3_measureGroups 36 = .ok (.aload_n 1, 1) := by decide +kernel
theorem dX3_measureGroups_37 : decode cX3_measureGroups 37 = .ok (.getfield 37, 3) := by decide +kernel
theorem dX3_measureGroups_40 : decode cX3_measureGroups 40 = .ok (.iload 4, 2) := by decide +kernel
theorem dX3_measureGroups_42 : decode cX3_measureGroups 42 = .ok (.iconst 1, 1) := by decide +kernel
theorem dX3_measureGroups_43 : decode cX3_measureGroups 43 = .ok (.invokevirtual 65, 3) := by decide +kernel
theorem dX3_measureGroups_46 : decode cX3_measureGroups 46 = .ok (.iadd, 1) := by decide +kernel
theorem dX3_measureGroups_47 : decode cX3_measureGroups 47 = .ok (.istore 6, 2) := by decide +kernel
theorem dX3_measureGroups_49 : decode cX3_measureGroups 49 = .ok (.aload_n 1, 1) := by decide +kernel
theorem dX3_measureGroups_50 : decode cX3_measureGroups 50 = .ok (.getfield 68, 3) := by decide +kernel
theorem dX3_measureGroups_53 : decode cX3_measureGroups 53 = .ok (.iload_n 2, 1) := by decide +kernel
theorem dX3_measureGroups_54 : decode cX3_measureGroups 54 = .ok (.iload 5, 2) := by decide +kernel
theorem dX3_measureGroups_56 : decode cX3_measureGroups 56 = .ok (.aload_n 0, 1) := by decide +kernel
theorem dX3_measureGroups_57 : decode cX3_measureGroups 57 = .ok (.getfield 9, 3) := by decide +kernel
theorem dX3_measureGroups_60 : decode cX3_measureGroups 60 = .ok (.aload_n 0, 1) := by decide +kernel
theorem dX3_measureGroups_61 : decode cX3_measureGroups 61 = .ok (.getfield 21, 3) := by decide +kernel
theorem dX3_measureGroups_64 : decode cX3_measureGroups 64 = .ok (.invokevirtual 72, 3) := by decide +kernel
theorem dX3_measureGroups_67 : decode cX3_measureGroups 67 = .ok (.istore 7, 2) := by decide +kernel
theorem dX3_measureGroups_69 : decode cX3_measureGroups 69 = .ok (.aload_n 1, 1) := by decide +kernel
theorem dX3_measureGroups_70 : decode cX3_measureGroups 70 = .ok (.getfield 78, 3) := by decide +kernel
theorem dX3_measureGroups_73 : decode cX3_measureGroups 73 = .ok (.iload_n 3, 1) := by decide +kernel
theorem dX3_measureGroups_74 : decode cX3_measureGroups 74 = .ok (.iload 6, 2) := by decide +kernel
theorem dX3_measureGroups_76 : decode cX3_measureGroups 76 = .ok (.aload_n 0, 1) := by decide +kernel
theorem dX3_measureGroups_77 : decode cX3_measureGroups 77 = .ok (.getfield 15, 3) := by decide +kernel
theorem dX3_measureGroups_80 : decode cX3_measureGroups 80 = .ok (.aload_n 0, 1) := by decide +kernel
theorem dX3_measureGroups_81 : decode cX3_measureGroups 81 = .ok (.getfield 21, 3) := by decide +kernel
theorem dX3_measureGroups_84 : decode cX3_measureGroups 84 = .ok (.invokevirtual 72, 3) := by decide +kernel
theorem dX3_measureGroups_87 : decode cX3_measureGroups 87 = .ok (.istore 8, 2) := by decide +kernel
theorem dX3_measureGroups_89 : decode cX3_measureGroups 89 = .ok (.aload_n 0, 1) := by decide +kernel
theorem dX3_measureGroups_90 : decode cX3_measureGroups 90 = .ok (.getfield 24, 3) := by decide +kernel
theorem dX3_measureGroups_93 : decode cX3_measureGroups 93 = .ok (.iload 4, 2) := by decide +kernel
theorem dX3_measureGroups_95 : decode cX3_measureGroups 95 = .ok (.iload 7, 2) := by decide +kernel
theorem dX3_measureGroups_97 : decode cX3_measureGroups 97 = .ok (.iload 8, 2) := by decide +kernel
theorem dX3_measureGroups_99 : decode cX3_measureGroups 99 = .ok (.invokestatic 81, 3) := by decide +kernel
theorem dX3_measureGroups_102 : decode cX3_measureGroups 102 = .ok (.iastore, 1) := by decide +kernel
theorem dX3_measureGroups_103 : decode cX3_measureGroups 103 = .ok (.aload_n 0, 1) := by decide +kernel
theorem dX3_measureGroups_104 : decode cX3_measureGroups 104 = .ok (.dup, 1) := by decide +kernel
theorem dX3_measureGroups_105 : decode cX3_measureGroups 105 = .ok (.getfield 62, 3) := by decide +kernel
theorem dX3_measureGroups_108 : decode cX3_measureGroups 108 = .ok (.iload 7, 2) := by decide +kernel
theorem dX3_measureGroups_110 : decode cX3_measureGroups 110 = .ok (.iload 8, 2) := by decide +kernel
theorem dX3_measureGroups_112 : decode cX3_measureGroups 112 = .ok (.isub, 1) := by decide +kernel
theorem dX3_measureGroups_113 : decode cX3_measureGroups 113 = .ok (.invokestatic 84, 3) := by decide +kernel
theorem dX3_measureGroups_116 : decode cX3_measureGroups 116 = .ok (.iadd, 1) := by decide +kernel
theorem dX3_measureGroups_117 : decode cX3_measureGroups 117 = .ok (.putfield 62, 3) := by decide +kernel
theorem dX3_measureGroups_120 : decode cX3_measureGroups 120 = .ok (.aload_n 0, 1) := by decide +kernel
theorem dX3_measureGroups_121 : decode cX3_measureGroups 121 = .ok (.getfield 28, 3) := by decide +kernel
theorem dX3_measureGroups_124 : decode cX3_measureGroups 124 = .ok (.iload 4, 2) := by decide +kernel
theorem dX3_measureGroups_126 : decode cX3_measureGroups 126 = .ok (.aload_n 1, 1) := by decide +kernel
theorem dX3_measureGroups_127 : decode cX3_measureGroups 127 = .ok (.getfield 68, 3) := by decide +kernel
theorem dX3_measureGroups_130 : decode cX3_measureGroups 130 = .ok (.iload_n 2, 1) := by decide +kernel
theorem dX3_measureGroups_131 : decode cX3_measureGroups 131 = .ok (.iload 5, 2) := by decide +kernel
theorem dX3_measureGroups_133 : decode cX3_measureGroups 133 = .ok (.invokevirtual 88, 3) := by decide +kernel
theorem dX3_measureGroups_136 : decode cX3_measureGroups 136 = .ok (.aload_n 1, 1) := by decide +kernel
theorem dX3_measureGroups_137 : decode cX3_measureGroups 137 = .ok (.getfield 78, 3) := by decide +kernel
theorem dX3_measureGroups_140 : decode cX3_measureGroups 140 = .ok (.iload_n 3, 1) := by decide +kernel
theorem dX3_measureGroups_141 : decode cX3_measureGroups 141 = .ok (.iload 6, 2) := by decide +kernel
theorem dX3_measureGroups_143 : decode cX3_measureGroups 143 = .ok (.invokevirtual 88, 3) := by decide +kernel
theorem dX3_measureGroups_146 : decode cX3_measureGroups 146 = .ok (.iadd, 1) := by decide +kernel
theorem dX3_measureGroups_147 : decode cX3_measureGroups 147 = .ok (.iastore, 1) := by decide +kernel
theorem dX3_measureGroups_148 : decode cX3_measureGroups 148 = .ok (.iload 5, 2) := by decide +kernel
theorem dX3_measureGroups_150 : decode cX3_measureGroups 150 = .ok (.istore_n 2, 1) := by decide +kernel
theorem dX3_measureGroups_151 : decode cX3_measureGroups 151 = .ok (.iload 6, 2) := by decide +kernel
theorem dX3_measureGroups_153 : decode cX3_measureGroups 153 = .ok (.istore_n 3, 1) := by decide +kernel
theorem dX3_measureGroups_154 : decode cX3_measureGroups 154 = .ok (.iinc 4 1, 3) := by decide +kernel
theorem dX3_measureGroups_157 : decode cX3_measureGroups 157 = .ok (.goto (-145), 3) := by decide +kernel
theorem dX3_measureGroups_160 : decode cX3_measureGroups 160 = .ok (.return_, 1) := by decide +kernel
set_option maxRecDepth 20000 in
theorem ggX3_fillPages_X3_withRule : GoodIn wsX3_fillPages wsX3_withRule := goodIn_r _ [11] (by decide +kernel) (by decide +kernel)
set_option maxRecDepth 20000 in
theorem gX3_fillPages_X3_withRule : GoodIn wsX3_fillPages (va_wsS RX3 94 yX3_withRule wsX3_withRule) := goodIn_app (goodIn_of _ (by decide +kernel)) ggX3_fillPages_X3_withRule
theorem dX3_fillPages_0 : decode cX3_fillPages 0 = .ok (.aload_n 0, 1) := by decide +kernel
theorem dX3_fillPages_1 : decode cX3_fillPages 1 = .ok (.aload_n 0, 1) := by decide +kernel
theorem dX3_fillPages_2 : decode cX3_fillPages 2 = .ok (.getfield 54, 3) := by decide +kernel
theorem dX3_fillPages_5 : decode cX3_fillPages 5 = .ok (.ifCond .ne 7, 3) := by decide +kernel
theorem dX3_fillPages_8 : decode cX3_fillPages 8 = .ok (.iconst 0, 1) := by decide +kernel
theorem dX3_fillPages_9 : decode cX3_fillPages 9 = .ok (.goto 4, 3) := by decide +kernel
theorem dX3_fillPages_12 : decode cX3_fillPages 12 = .ok (.iconst 1, 1) := by decide +kernel
theorem dX3_fillPages_13 : decode cX3_fillPages 13 = .ok (.putfield 91, 3) := by decide +kernel
theorem dX3_fillPages_16 : decode cX3_fillPages 16 = .ok (.iconst 0, 1) := by decide +kernel
theorem dX3_fillPages_17 : decode cX3_fillPages 17 = .ok (.istore_n 1, 1) := by decide +kernel
theorem dX3_fillPages_18 : decode cX3_fillPages 18 = .ok (.iconst 0, 1) := by decide +kernel
theorem dX3_fillPages_19 : decode cX3_fillPages 19 = .ok (.istore_n 2, 1) := by decide +kernel
theorem dX3_fillPages_20 : decode cX3_fillPages 20 = .ok (.iconst 0, 1) := by decide +kernel
theorem dX3_fillPages_21 : decode cX3_fillPages 21 = .ok (.istore_n 3, 1) := by decide +kernel
theorem dX3_fillPages_22 : decode cX3_fillPages 22 = .ok (.iload_n 3, 1) := by decide +kernel
theorem dX3_fillPages_23 : decode cX3_fillPages 23 = .ok (.aload_n 0, 1) := by decide +kernel
theorem dX3_fillPages_24 : decode cX3_fillPages 24 = .ok (.getfield 54, 3) := by decide +kernel
theorem dX3_fillPages_27 : decode cX3_fillPages 27 = .ok (.if_icmp .ge 91, 3) := by decide +kernel
theorem dX3_fillPages_30 : decode cX3_fillPages 30 = .ok (.iload_n 3, 1) := by decide +kernel
theorem dX3_fillPages_31 : decode cX3_fillPages 31 = .ok (.ifCond .le 44, 3) := by decide +kernel
theorem dX3_fillPages_34 : decode cX3_fillPages 34 = .ok (.iload_n 1, 1) := by decide +kernel
theorem dX3_fillPages_35 : decode cX3_fillPages 35 = .ok (.aload_n 0, 1) := by decide +kernel
theorem dX3_fillPages_36 : decode cX3_fillPages 36 = .ok (.getfield 24, 3) := by decide +kernel
theorem dX3_fillPages_39 : decode cX3_fillPages 39 = .ok (.iload_n 3, 1) := by decide +kernel
theorem dX3_fillPages_40 : decode cX3_fillPages 40 = .ok (.iaload, 1) := by decide +kernel
theorem dX3_fillPages_41 : decode cX3_fillPages 41 = .ok (.iadd, 1) := by decide +kernel
theorem dX3_fillPages_42 : decode cX3_fillPages 42 = .ok (.iload_n 2, 1) := by decide +kernel
theorem dX3_fillPages_43 : decode cX3_fillPages 43 = .ok (.aload_n 0, 1) := by decide +kernel
theorem dX3_fillPages_44 : decode cX3_fillPages 44 = .ok (.getfield 28, 3) := by decide +kernel
theorem dX3_fillPages_47 : decode cX3_fillPages 47 = .ok (.iload_n 3, 1) := by decide +kernel
theorem dX3_fillPages_48 : decode cX3_fillPages 48 = .ok (.iaload, 1) := by decide +kernel
theorem dX3_fillPages_49 : decode cX3_fillPages 49 = .ok (.iadd, 1) := by decide +kernel
theorem dX3_fillPages_50 : decode cX3_fillPages 50 = .ok (.invokestatic 94, 3) := by decide +kernel
theorem dX3_fillPages_53 : decode cX3_fillPages 53 = .ok (.iadd, 1) := by decide +kernel
theorem dX3_fillPages_54 : decode cX3_fillPages 54 = .ok (.aload_n 0, 1) := by decide +kernel
theorem dX3_fillPages_55 : decode cX3_fillPages 55 = .ok (.getfield 18, 3) := by decide +kernel
theorem dX3_fillPages_58 : decode cX3_fillPages 58 = .ok (.if_icmp .le 17, 3) := by decide +kernel
theorem dX3_fillPages_61 : decode cX3_fillPages 61 = .ok (.aload_n 0, 1) := by decide +kernel
theorem dX3_fillPages_62 : decode cX3_fillPages 62 = .ok (.dup, 1) := by decide +kernel
theorem dX3_fillPages_63 : decode cX3_fillPages 63 = .ok (.getfield 91, 3) := by decide +kernel
theorem dX3_fillPages_66 : decode cX3_fillPages 66 = .ok (.iconst 1, 1) := by decide +kernel
theorem dX3_fillPages_67 : decode cX3_fillPages 67 = .ok (.iadd, 1) := by decide +kernel
theorem dX3_fillPages_68 : decode cX3_fillPages 68 = .ok (.putfield 91, 3) := by decide +kernel
theorem dX3_fillPages_71 : decode cX3_fillPages 71 = .ok (.iconst 0, 1) := by decide +kernel
theorem dX3_fillPages_72 : decode cX3_fillPages 72 = .ok (.istore_n 1, 1) := by decide +kernel
theorem dX3_fillPages_73 : decode cX3_fillPages 73 = .ok (.iconst 0, 1) := by decide +kernel
theorem dX3_fillPages_74 : decode cX3_fillPages 74 = .ok (.istore_n 2, 1) := by decide +kernel
theorem dX3_fillPages_75 : decode cX3_fillPages 75 = .ok (.aload_n 0, 1) := by decide +kernel
theorem dX3_fillPages_76 : decode cX3_fillPages 76 = .ok (.getfield 31, 3) := by decide +kernel
theorem dX3_fillPages_79 : decode cX3_fillPages 79 = .ok (.iload_n 3, 1) := by decide +kernel
theorem dX3_fillPages_80 : decode cX3_fillPages 80 = .ok (.aload_n 0, 1) := by decide +kernel
theorem dX3_fillPages_81 : decode cX3_fillPages 81 = .ok (.getfield 91, 3) := by decide +kernel
theorem dX3_fillPages_84 : decode cX3_fillPages 84 = .ok (.iconst 1, 1) := by decide +kernel
theorem dX3_fillPages_85 : decode cX3_fillPages 85 = .ok (.isub, 1) := by decide +kernel
theorem dX3_fillPages_86 : decode cX3_fillPages 86 = .ok (.iastore, 1) := by decide +kernel
theorem dX3_fillPages_87 : decode cX3_fillPages 87 = .ok (.aload_n 0, 1) := by decide +kernel
theorem dX3_fillPages_88 : decode cX3_fillPages 88 = .ok (.getfield 34, 3) := by decide +kernel
theorem dX3_fillPages_91 : decode cX3_fillPages 91 = .ok (.iload_n 3, 1) := by decide +kernel
theorem dX3_fillPages_92 : decode cX3_fillPages 92 = .ok (.iload_n 1, 1) := by decide +kernel
theorem dX3_fillPages_93 : decode cX3_fillPages 93 = .ok (.iastore, 1) := by decide +kernel
theorem dX3_fillPages_94 : decode cX3_fillPages 94 = .ok (.iload_n 1, 1) := by decide +kernel
theorem dX3_fillPages_95 : decode cX3_fillPages 95 = .ok (.aload_n 0, 1) := by decide +kernel
theorem dX3_fillPages_96 : decode cX3_fillPages 96 = .ok (.getfield 24, 3) := by decide +kernel
theorem dX3_fillPages_99 : decode cX3_fillPages 99 = .ok (.iload_n 3, 1) := by decide +kernel
theorem dX3_fillPages_100 : decode cX3_fillPages 100 = .ok (.iaload, 1) := by decide +kernel
theorem dX3_fillPages_101 : decode cX3_fillPages 101 = .ok (.iadd, 1) := by decide +kernel
theorem dX3_fillPages_102 : decode cX3_fillPages 102 = .ok (.istore_n 1, 1) := by decide +kernel
theorem dX3_fillPages_103 : decode cX3_fillPages 103 = .ok (.iload_n 2, 1) := by decide +kernel
theorem dX3_fillPages_104 : decode cX3_fillPages 104 = .ok (.aload_n 0, 1) := by decide +kernel
theorem dX3_fillPages_105 : decode cX3_fillPages 105 = .ok (.getfield 28, 3) := by decide +kernel
theorem dX3_fillPages_108 : decode cX3_fillPages 108 = .ok (.iload_n 3, 1) := by decide +kernel
theorem dX3_fillPages_109 : decode cX3_fillPages 109 = .ok (.iaload, 1) := by decide +kernel
theorem dX3_fillPages_110 : decode cX3_fillPages 110 = .ok (.iadd, 1) := by decide +kernel
theorem dX3_fillPages_111 : decode cX3_fillPages 111 = .ok (.istore_n 2, 1) := by decide +kernel
theorem dX3_fillPages_112 : decode cX3_fillPages 112 = .ok (.iinc 3 1, 3) := by decide +kernel
theorem dX3_fillPages_115 : decode cX3_fillPages 115 = .ok (.goto (-93), 3) := by decide +kernel
theorem dX3_fillPages_118 : decode cX3_fillPages 118 = .ok (.return_, 1) := by decide +kernel
theorem dX3_withRule_0 : decode cX3_withRule 0 = .ok (.iload_n 0, 1) := by decide +kernel
theorem dX3_withRule_1 : decode cX3_withRule 1 = .ok (.ifCond .ne 7, 3) := by decide +kernel
theorem dX3_withRule_4 : decode cX3_withRule 4 = .ok (.iconst 0, 1) := by decide +kernel
theorem dX3_withRule_5 : decode cX3_withRule 5 = .ok (.goto 6, 3) := by decide +kernel
theorem dX3_withRule_8 : decode cX3_withRule 8 = .ok (.iload_n 0, 1) := by decide +kernel
theorem dX3_withRule_9 : decode cX3_withRule 9 = .ok (.iconst 1, 1) := by decide +kernel
theorem dX3_withRule_10 : decode cX3_withRule 10 = .ok (.iadd, 1) := by decide +kernel
theorem dX3_withRule_11 : decode cX3_withRule 11 = .ok (.ireturn, 1) := by decide +kernel
set_option maxRecDepth 20000 in
theorem ggX3_heightOf_X9_cellOf : GoodIn wsX3_heightOf wsX9_cellOf := goodIn_r _ [4] (by decide +kernel) (by decide +kernel)
set_option maxRecDepth 20000 in
theorem gX3_heightOf_X9_cellOf_n97 : GoodIn wsX3_heightOf (wsX9_cellOf) := ggX3_heightOf_X9_cellOf
theorem dX3_heightOf_0 : decode cX3_heightOf 0 = .ok (.aload_n 0, 1) := by decide +kernel
theorem dX3_heightOf_1 : decode cX3_heightOf 1 = .ok (.getfield 24, 3) := by decide +kernel
theorem dX3_heightOf_4 : decode cX3_heightOf 4 = .ok (.iload_n 1, 1) := by decide +kernel
theorem dX3_heightOf_5 : decode cX3_heightOf 5 = .ok (.invokestatic 97, 3) := by decide +kernel
theorem dX3_heightOf_8 : decode cX3_heightOf 8 = .ok (.ireturn, 1) := by decide +kernel
set_option maxRecDepth 20000 in
theorem ggX3_pageOf_X9_cellOf : GoodIn wsX3_pageOf wsX9_cellOf := goodIn_r _ [4] (by decide +kernel) (by decide +kernel)
set_option maxRecDepth 20000 in
theorem gX3_pageOf_X9_cellOf_n97 : GoodIn wsX3_pageOf (wsX9_cellOf) := ggX3_pageOf_X9_cellOf
theorem dX3_pageOf_0 : decode cX3_pageOf 0 = .ok (.aload_n 0, 1) := by decide +kernel
theorem dX3_pageOf_1 : decode cX3_pageOf 1 = .ok (.getfield 31, 3) := by decide +kernel
theorem dX3_pageOf_4 : decode cX3_pageOf 4 = .ok (.iload_n 1, 1) := by decide +kernel
theorem dX3_pageOf_5 : decode cX3_pageOf 5 = .ok (.invokestatic 97, 3) := by decide +kernel
theorem dX3_pageOf_8 : decode cX3_pageOf 8 = .ok (.ireturn, 1) := by decide +kernel
set_option maxRecDepth 20000 in
theorem ggX3_lineOf_X9_cellOf : GoodIn wsX3_lineOf wsX9_cellOf := goodIn_r _ [4] (by decide +kernel) (by decide +kernel)
set_option maxRecDepth 20000 in
theorem gX3_lineOf_X9_cellOf_n97 : GoodIn wsX3_lineOf (wsX9_cellOf) := ggX3_lineOf_X9_cellOf
theorem dX3_lineOf_0 : decode cX3_lineOf 0 = .ok (.aload_n 0, 1) := by decide +kernel
theorem dX3_lineOf_1 : decode cX3_lineOf 1 = .ok (.getfield 34, 3) := by decide +kernel
theorem dX3_lineOf_4 : decode cX3_lineOf 4 = .ok (.iload_n 1, 1) := by decide +kernel
theorem dX3_lineOf_5 : decode cX3_lineOf 5 = .ok (.invokestatic 97, 3) := by decide +kernel
theorem dX3_lineOf_8 : decode cX3_lineOf 8 = .ok (.ireturn, 1) := by decide +kernel
set_option maxRecDepth 20000 in
theorem ggX3_notesOf_X9_cellOf : GoodIn wsX3_notesOf wsX9_cellOf := goodIn_r _ [4] (by decide +kernel) (by decide +kernel)
set_option maxRecDepth 20000 in
theorem gX3_notesOf_X9_cellOf_n97 : GoodIn wsX3_notesOf (wsX9_cellOf) := ggX3_notesOf_X9_cellOf
theorem dX3_notesOf_0 : decode cX3_notesOf 0 = .ok (.aload_n 0, 1) := by decide +kernel
theorem dX3_notesOf_1 : decode cX3_notesOf 1 = .ok (.getfield 28, 3) := by decide +kernel
theorem dX3_notesOf_4 : decode cX3_notesOf 4 = .ok (.iload_n 1, 1) := by decide +kernel
theorem dX3_notesOf_5 : decode cX3_notesOf 5 = .ok (.invokestatic 97, 3) := by decide +kernel
theorem dX3_notesOf_8 : decode cX3_notesOf 8 = .ok (.ireturn, 1) := by decide +kernel
set_option maxRecDepth 20000 in
theorem ggX3_firstGroupOf_X3_pageOf : GoodIn wsX3_firstGroupOf wsX3_pageOf := goodIn_r _ [6, 7, 8, 9, 10, 11, 12, 13, 14, 15, 16, 17, 18, 19, 20, 21] (by decide +kernel) (by decide +kernel)
set_option maxRecDepth 20000 in
theorem gX3_firstGroupOf_X3_pageOf : GoodIn wsX3_firstGroupOf (wsV RX3 101 RX3 yX3_pageOf wsX3_pageOf) := goodIn_app (goodIn_of _ (by decide +kernel)) ggX3_firstGroupOf_X3_pageOf
theorem dX3_firstGroupOf_0 : decode cX3_firstGroupOf 0 = .ok (.iconst 0, 1) := by decide +kernel
theorem dX3_firstGroupOf_1 : decode cX3_firstGroupOf 1 = .ok (.istore_n 2, 1) := by decide +kernel
theorem dX3_firstGroupOf_2 : decode cX3_firstGroupOf 2 = .ok (.iload_n 2, 1) := by decide +kernel
theorem dX3_firstGroupOf_3 : decode cX3_firstGroupOf 3 = .ok (.aload_n 0, 1) := by decide +kernel
theorem dX3_firstGroupOf_4 : decode cX3_firstGroupOf 4 = .ok (.getfield 54, 3) := by decide +kernel
theorem dX3_firstGroupOf_7 : decode cX3_firstGroupOf 7 = .ok (.if_icmp .ge 20, 3) := by decide +kernel
theorem dX3_firstGroupOf_10 : decode cX3_firstGroupOf 10 = .ok (.aload_n 0, 1) := by decide +kernel
theorem dX3_firstGroupOf_11 : decode cX3_firstGroupOf 11 = .ok (.iload_n 2, 1) := by decide +kernel
theorem dX3_firstGroupOf_12 : decode cX3_firstGroupOf 12 = .ok (.invokevirtual 101, 3) := by decide +kernel
theorem dX3_firstGroupOf_15 : decode cX3_firstGroupOf 15 = .ok (.iload_n 1, 1) := by decide +kernel
theorem dX3_firstGroupOf_16 : decode cX3_firstGroupOf 16 = .ok (.if_icmp .ne 5, 3) := by decide +kernel
theorem dX3_firstGroupOf_19 : decode cX3_firstGroupOf 19 = .ok (.iload_n 2, 1) := by decide +kernel
theorem dX3_firstGroupOf_20 : decode cX3_firstGroupOf 20 = .ok (.ireturn, 1) := by decide +kernel
theorem dX3_firstGroupOf_21 : decode cX3_firstGroupOf 21 = .ok (.iinc 2 1, 3) := by decide +kernel
theorem dX3_firstGroupOf_24 : decode cX3_firstGroupOf 24 = .ok (.goto (-22), 3) := by decide +kernel
theorem dX3_firstGroupOf_27 : decode cX3_firstGroupOf 27 = .ok (.iconst (-1), 1) := by decide +kernel
theorem dX3_firstGroupOf_28 : decode cX3_firstGroupOf 28 = .ok (.ireturn, 1) := by decide +kernel
set_option maxRecDepth 20000 in
theorem ggX3_lastGroupOf_X3_pageOf : GoodIn wsX3_lastGroupOf wsX3_pageOf := goodIn_r _ [6, 7, 8, 9, 10, 11, 12, 13, 14, 15, 16, 17, 18, 19, 20, 21] (by decide +kernel) (by decide +kernel)
set_option maxRecDepth 20000 in
theorem gX3_lastGroupOf_X3_pageOf : GoodIn wsX3_lastGroupOf (wsV RX3 101 RX3 yX3_pageOf wsX3_pageOf) := goodIn_app (goodIn_of _ (by decide +kernel)) ggX3_lastGroupOf_X3_pageOf
theorem dX3_lastGroupOf_0 : decode cX3_lastGroupOf 0 = .ok (.aload_n 0, 1) := by decide +kernel
theorem dX3_lastGroupOf_1 : decode cX3_lastGroupOf 1 = .ok (.getfield 54, 3) := by decide +kernel
theorem dX3_lastGroupOf_4 : decode cX3_lastGroupOf 4 = .ok (.iconst 1, 1) := by decide +kernel
theorem dX3_lastGroupOf_5 : decode cX3_lastGroupOf 5 = .ok (.isub, 1) := by decide +kernel
theorem dX3_lastGroupOf_6 : decode cX3_lastGroupOf 6 = .ok (.istore_n 2, 1) := by decide +kernel
theorem dX3_lastGroupOf_7 : decode cX3_lastGroupOf 7 = .ok (.iload_n 2, 1) := by decide +kernel
theorem dX3_lastGroupOf_8 : decode cX3_lastGroupOf 8 = .ok (.ifCond .lt 20, 3) := by decide +kernel
theorem dX3_lastGroupOf_11 : decode cX3_lastGroupOf 11 = .ok (.aload_n 0, 1) := by decide +kernel
theorem dX3_lastGroupOf_12 : decode cX3_lastGroupOf 12 = .ok (.iload_n 2, 1) := by decide +kernel
theorem dX3_lastGroupOf_13 : decode cX3_lastGroupOf 13 = .ok (.invokevirtual 101, 3) := by decide +kernel
theorem dX3_lastGroupOf_16 : decode cX3_lastGroupOf 16 = .ok (.iload_n 1, 1) := by decide +kernel
theorem dX3_lastGroupOf_17 : decode cX3_lastGroupOf 17 = .ok (.if_icmp .ne 5, 3) := by decide +kernel
theorem dX3_lastGroupOf_20 : decode cX3_lastGroupOf 20 = .ok (.iload_n 2, 1) := by decide +kernel
theorem dX3_lastGroupOf_21 : decode cX3_lastGroupOf 21 = .ok (.ireturn, 1) := by decide +kernel
theorem dX3_lastGroupOf_22 : decode cX3_lastGroupOf 22 = .ok (.iinc 2 (-1), 3) := by decide +kernel
theorem dX3_lastGroupOf_25 : decode cX3_lastGroupOf 25 = .ok (.goto (-18), 3) := by decide +kernel
theorem dX3_lastGroupOf_28 : decode cX3_lastGroupOf 28 = .ok (.iconst (-1), 1) := by decide +kernel
theorem dX3_lastGroupOf_29 : decode cX3_lastGroupOf 29 = .ok (.ireturn, 1) := by decide +kernel
set_option maxRecDepth 20000 in
theorem ggX3_heightSumOf_X3_pageOf : GoodIn wsX3_heightSumOf wsX3_pageOf := goodIn_r _ [6, 7, 8, 9, 10, 16, 17, 18, 19, 20, 21, 22, 23, 24, 25, 26] (by decide +kernel) (by decide +kernel)
set_option maxRecDepth 20000 in
theorem gX3_heightSumOf_X3_pageOf : GoodIn wsX3_heightSumOf (wsV RX3 101 RX3 yX3_pageOf wsX3_pageOf) := goodIn_app (goodIn_of _ (by decide +kernel)) ggX3_heightSumOf_X3_pageOf
set_option maxRecDepth 20000 in
theorem ggX3_heightSumOf_X3_heightOf : GoodIn wsX3_heightSumOf wsX3_heightOf := goodIn_r _ [14, 15, 8, 9, 10, 16, 17, 18, 19, 20, 21, 22, 23, 24, 25, 26] (by decide +kernel) (by decide +kernel)
set_option maxRecDepth 20000 in
theorem gX3_heightSumOf_X3_heightOf : GoodIn wsX3_heightSumOf (wsV RX3 104 RX3 yX3_heightOf wsX3_heightOf) := goodIn_app (goodIn_of _ (by decide +kernel)) ggX3_heightSumOf_X3_heightOf
theorem dX3_heightSumOf_0 : decode cX3_heightSumOf 0 = .ok (.iconst 0, 1) := by decide +kernel
theorem dX3_heightSumOf_1 : decode cX3_heightSumOf 1 = .ok (.istore_n 2, 1) := by decide +kernel
theorem dX3_heightSumOf_2 : decode cX3_heightSumOf 2 = .ok (.iconst 0, 1) := by decide +kernel
theorem dX3_heightSumOf_3 : decode cX3_heightSumOf 3 = .ok (.istore_n 3, 1) := by decide +kernel
theorem dX3_heightSumOf_4 : decode cX3_heightSumOf 4 = .ok (.iload_n 3, 1) := by decide +kernel
theorem dX3_heightSumOf_5 : decode cX3_heightSumOf 5 = .ok (.aload_n 0, 1) := by decide +kernel
theorem dX3_heightSumOf_6 : decode cX3_heightSumOf 6 = .ok (.getfield 54, 3) := by decide +kernel
theorem dX3_heightSumOf_9 : decode cX3_heightSumOf 9 = .ok (.if_icmp .ge 30, 3) := by decide +kernel
theorem dX3_heightSumOf_12 : decode cX3_heightSumOf 12 = .ok (.iload_n 2, 1) := by decide +kernel
theorem dX3_heightSumOf_13 : decode cX3_heightSumOf 13 = .ok (.aload_n 0, 1) := by decide +kernel
theorem dX3_heightSumOf_14 : decode cX3_heightSumOf 14 = .ok (.iload_n 3, 1) := by decide +kernel
theorem dX3_heightSumOf_15 : decode cX3_heightSumOf 15 = .ok (.invokevirtual 101, 3) := by decide +kernel
theorem dX3_heightSumOf_18 : decode cX3_heightSumOf 18 = .ok (.iload_n 1, 1) := by decide +kernel
theorem dX3_heightSumOf_19 : decode cX3_heightSumOf 19 = .ok (.if_icmp .ne 11, 3) := by decide +kernel
theorem dX3_heightSumOf_22 : decode cX3_heightSumOf 22 = .ok (.aload_n 0, 1) := by decide +kernel
theorem dX3_heightSumOf_23 : decode cX3_heightSumOf 23 = .ok (.iload_n 3, 1) := by decide +kernel
theorem dX3_heightSumOf_24 : decode cX3_heightSumOf 24 = .ok (.invokevirtual 104, 3) := by decide +kernel
theorem dX3_heightSumOf_27 : decode cX3_heightSumOf 27 = .ok (.goto 4, 3) := by decide +kernel
theorem dX3_heightSumOf_30 : decode cX3_heightSumOf 30 = .ok (.iconst 0, 1) := by decide +kernel
theorem dX3_heightSumOf_31 : decode cX3_heightSumOf 31 = .ok (.iadd, 1) := by decide +kernel
theorem dX3_heightSumOf_32 : decode cX3_heightSumOf 32 = .ok (.istore_n 2, 1) := by decide +kernel
theorem dX3_heightSumOf_33 : decode cX3_heightSumOf 33 = .ok (.iinc 3 1, 3) := by decide +kernel
theorem dX3_heightSumOf_36 : decode cX3_heightSumOf 36 = .ok (.goto (-32), 3) := by decide +kernel
theorem dX3_heightSumOf_39 : decode cX3_heightSumOf 39 = .ok (.iload_n 2, 1) := by decide +kernel
theorem dX3_heightSumOf_40 : decode cX3_heightSumOf 40 = .ok (.ireturn, 1) := by decide +kernel
set_option maxRecDepth 20000 in
theorem ggX3_noteLinesOf_X3_pageOf : GoodIn wsX3_noteLinesOf wsX3_pageOf := goodIn_r _ [6, 7, 8, 9, 10, 19, 20, 21, 22, 23, 24, 25, 26, 27, 28, 29] (by decide +kernel) (by decide +kernel)
set_option maxRecDepth 20000 in
theorem gX3_noteLinesOf_X3_pageOf : GoodIn wsX3_noteLinesOf (wsV RX3 101 RX3 yX3_pageOf wsX3_pageOf) := goodIn_app (goodIn_of _ (by decide +kernel)) ggX3_noteLinesOf_X3_pageOf
set_option maxRecDepth 20000 in
theorem ggX3_noteLinesOf_X3_notesOf : GoodIn wsX3_noteLinesOf wsX3_notesOf := goodIn_r _ [14, 15, 8, 9, 10, 19, 20, 21, 22, 23, 24, 25, 26, 27, 28, 29] (by decide +kernel) (by decide +kernel)
set_option maxRecDepth 20000 in
theorem gX3_noteLinesOf_X3_notesOf : GoodIn wsX3_noteLinesOf (wsV RX3 107 RX3 yX3_notesOf wsX3_notesOf) := goodIn_app (goodIn_of _ (by decide +kernel)) ggX3_noteLinesOf_X3_notesOf
set_option maxRecDepth 20000 in
theorem ggX3_noteLinesOf_X3_withRule : GoodIn wsX3_noteLinesOf wsX3_withRule := goodIn_r _ [18] (by decide +kernel) (by decide +kernel)
set_option maxRecDepth 20000 in
theorem gX3_noteLinesOf_X3_withRule : GoodIn wsX3_noteLinesOf (va_wsS RX3 94 yX3_withRule wsX3_withRule) := goodIn_app (goodIn_of _ (by decide +kernel)) ggX3_noteLinesOf_X3_withRule
theorem dX3_noteLinesOf_0 : decode cX3_noteLinesOf 0 = .ok (.iconst 0, 1) := by decide +kernel
theorem dX3_noteLinesOf_1 : decode cX3_noteLinesOf 1 = .ok (.istore_n 2, 1) := by decide +kernel
theorem dX3_noteLinesOf_2 : decode cX3_noteLinesOf 2 = .ok (.iconst 0, 1) := by decide +kernel
theorem dX3_noteLinesOf_3 : decode cX3_noteLinesOf 3 = .ok (.istore_n 3, 1) := by decide +kernel
theorem dX3_noteLinesOf_4 : decode cX3_noteLinesOf 4 = .ok (.iload_n 3, 1) := by decide +kernel
theorem dX3_noteLinesOf_5 : decode cX3_noteLinesOf 5 = .ok (.aload_n 0, 1) := by decide +kernel
theorem dX3_noteLinesOf_6 : decode cX3_noteLinesOf 6 = .ok (.getfield 54, 3) := by decide +kernel
theorem dX3_noteLinesOf_9 : decode cX3_noteLinesOf 9 = .ok (.if_icmp .ge 30, 3) := by decide +kernel
theorem dX3_noteLinesOf_12 : decode cX3_noteLinesOf 12 = .ok (.iload_n 2, 1) := by decide +kernel
theorem dX3_noteLinesOf_13 : decode cX3_noteLinesOf 13 = .ok (.aload_n 0, 1) := by decide +kernel
theorem dX3_noteLinesOf_14 : decode cX3_noteLinesOf 14 = .ok (.iload_n 3, 1) := by decide +kernel
theorem dX3_noteLinesOf_15 : decode cX3_noteLinesOf 15 = .ok (.invokevirtual 101, 3) := by decide +kernel
theorem dX3_noteLinesOf_18 : decode cX3_noteLinesOf 18 = .ok (.iload_n 1, 1) := by decide +kernel
theorem dX3_noteLinesOf_19 : decode cX3_noteLinesOf 19 = .ok (.if_icmp .ne 11, 3) := by decide +kernel
theorem dX3_noteLinesOf_22 : decode cX3_noteLinesOf 22 = .ok (.aload_n 0, 1) := by decide +kernel
theorem dX3_noteLinesOf_23 : decode cX3_noteLinesOf 23 = .ok (.iload_n 3, 1) := by decide +kernel
theorem dX3_noteLinesOf_24 : decode cX3_noteLinesOf 24 = .ok (.invokevirtual 107, 3) := by decide +kernel
theorem dX3_noteLinesOf_27 : decode cX3_noteLinesOf 27 = .ok (.goto 4, 3) := by decide +kernel
theorem dX3_noteLinesOf_30 : decode cX3_noteLinesOf 30 = .ok (.iconst 0, 1) := by decide +kernel
theorem dX3_noteLinesOf_31 : decode cX3_noteLinesOf 31 = .ok (.iadd, 1) := by decide +kernel
theorem dX3_noteLinesOf_32 : decode cX3_noteLinesOf 32 = .ok (.istore_n 2, 1) := by decide +kernel
theorem dX3_noteLinesOf_33 : decode cX3_noteLinesOf 33 = .ok (.iinc 3 1, 3) := by decide +kernel
theorem dX3_noteLinesOf_36 : decode cX3_noteLinesOf 36 = .ok (.goto (-32), 3) := by decide +kernel
theorem dX3_noteLinesOf_39 : decode cX3_noteLinesOf 39 = .ok (.iload_n 2, 1) := by decide +kernel
theorem dX3_noteLinesOf_40 : decode cX3_noteLinesOf 40 = .ok (.invokestatic 94, 3) := by decide +kernel
theorem dX3_noteLinesOf_43 : decode cX3_noteLinesOf 43 = .ok (.ireturn, 1) := by decide +kernel
set_option maxRecDepth 20000 in
theorem ggX3_overflows_X3_heightSumOf : GoodIn wsX3_overflows wsX3_heightSumOf := goodIn_r _ [6, 7, 8, 9, 10, 5, 11, 12, 13, 14, 15, 16, 17, 18, 19, 20, 33, 34, 35, 36, 37, 38, 39, 40, 41, 42, 43] (by decide +kernel) (by decide +kernel)
set_option maxRecDepth 20000 in
theorem gX3_overflows_X3_heightSumOf : GoodIn wsX3_overflows (wsV RX3 110 RX3 yX3_heightSumOf wsX3_heightSumOf) := goodIn_app (goodIn_of _ (by decide +kernel)) ggX3_overflows_X3_heightSumOf
set_option maxRecDepth 20000 in
theorem ggX3_overflows_X3_noteLinesOf : GoodIn wsX3_overflows wsX3_noteLinesOf := goodIn_r _ [24, 7, 8, 9, 10, 5, 11, 12, 13, 14, 15, 25, 26, 27, 28, 29, 30, 31, 32, 33, 34, 35, 36, 37, 38, 39, 40, 41, 42, 43] (by decide +kernel) (by decide +kernel)
set_option maxRecDepth 20000 in
theorem gX3_overflows_X3_noteLinesOf : GoodIn wsX3_overflows (wsV RX3 113 RX3 yX3_noteLinesOf wsX3_noteLinesOf) := goodIn_app (goodIn_of _ (by decide +kernel)) ggX3_overflows_X3_noteLinesOf
theorem dX3_overflows_0 : decode cX3_overflows 0 = .ok (.aload_n 0, 1) := by decide +kernel
theorem dX3_overflows_1 : decode cX3_overflows 1 = .ok (.iload_n 1, 1) := by decide +kernel
theorem dX3_overflows_2 : decode cX3_overflows 2 = .ok (.invokevirtual 110, 3) := by decide +kernel
theorem dX3_overflows_5 : decode cX3_overflows 5 = .ok (.aload_n 0, 1) := by decide +kernel
theorem dX3_overflows_6 : decode cX3_overflows 6 = .ok (.iload_n 1, 1) := by decide +kernel
theorem dX3_overflows_7 : decode cX3_overflows 7 = .ok (.invokevirtual 113, 3) := by decide +kernel
theorem dX3_overflows_10 : decode cX3_overflows 10 = .ok (.iadd, 1) := by decide +kernel
theorem dX3_overflows_11 : decode cX3_overflows 11 = .ok (.aload_n 0, 1) := by decide +kernel
theorem dX3_overflows_12 : decode cX3_overflows 12 = .ok (.getfield 18, 3) := by decide +kernel
theorem dX3_overflows_15 : decode cX3_overflows 15 = .ok (.if_icmp .le 7, 3) := by decide +kernel
theorem dX3_overflows_18 : decode cX3_overflows 18 = .ok (.iconst 1, 1) := by decide +kernel
theorem dX3_overflows_19 : decode cX3_overflows 19 = .ok (.goto 4, 3) := by decide +kernel
theorem dX3_overflows_22 : decode cX3_overflows 22 = .ok (.iconst 0, 1) := by decide +kernel
theorem dX3_overflows_23 : decode cX3_overflows 23 = .ok (.ireturn, 1) := by decide +kernel
set_option maxRecDepth 20000 in
theorem ggX4_init_X1_init : GoodIn wsX4_init wsX1_init := goodIn_r _ [9, 10, 2, 3, 11, 12, 13, 14, 15, 16] (by decide +kernel) (by decide +kernel)
set_option maxRecDepth 20000 in
theorem gX4_init_X1_init_n11 : GoodIn wsX4_init (wsX1_init) := ggX4_init_X1_init
theorem dX4_init_0 : decode cX4_init 0 = .ok (.aload_n 0, 1) := by decide +kernel
theorem dX4_init_1 : decode cX4_init 1 = .ok (.invokespecial 3, 3) := by decide +kernel
theorem dX4_init_4 : decode cX4_init 4 = .ok (.aload_n 0, 1) := by decide +kernel
theorem dX4_init_5 : decode cX4_init 5 = .ok (.new 9, 3) := by decide +kernel
theorem dX4_init_8 : decode cX4_init 8 = .ok (.dup, 1) := by decide +kernel
theorem dX4_init_9 : decode cX4_init 9 = .ok (.invokespecial 11, 3) := by decide +kernel
theorem dX4_init_12 : decode cX4_init 12 = .ok (.putfield 12, 3) := by decide +kernel
theorem dX4_init_15 : decode cX4_init 15 = .ok (.return_, 1) := by decide +kernel
set_option maxRecDepth 20000 in
theorem ggX4_read_X8_restart : GoodIn wsX4_read wsX8_restart := goodIn_r _ [8, 9, 10, 11, 12, 108, 109, 110, 111, 112, 113] (by decide +kernel) (by decide +kernel)
set_option maxRecDepth 20000 in
theorem gX4_read_X8_restart : GoodIn wsX4_read (wsV RX4 18 RX8 yX8_restart wsX8_restart) := goodIn_app (goodIn_of _ (by decide +kernel)) ggX4_read_X8_restart
set_option maxRecDepth 20000 in
theorem ggX4_read_X1_clear : GoodIn wsX4_read wsX1_clear := goodIn_r _ [17, 18, 114, 115, 116] (by decide +kernel) (by decide +kernel)
set_option maxRecDepth 20000 in
theorem gX4_read_X1_clear : GoodIn wsX4_read (wsV RX4 23 RX1 yX1_clear wsX1_clear) := goodIn_app (goodIn_of _ (by decide +kernel)) ggX4_read_X1_clear
set_option maxRecDepth 20000 in
theorem ggX4_read_X4_readItem : GoodIn wsX4_read wsX4_readItem := goodIn_r _ [23, 1, 24, 25, 26, 7, 27, 9, 12, 11, 28, 29, 30, 31, 32, 33, 34, 35, 36, 37, 38, 39, 40, 41, 42, 43, 44, 45, 46, 47, 48, 49, 50, 51, 52, 10, 53, 54, 55, 56, 57, 58, 59, 60, 61, 62, 63, 64, 65, 66, 67, 22, 68, 69, 70, 71, 72, 2, 3, 73, 74, 75, 76, 77, 78, 79, 80, 16, 81, 18, 82, 83, 84, 85, 86, 87, 88, 89, 90, 91, 108, 109, 110, 111, 112, 113, 98, 99, 100, 114, 115, 116] (by decide +kernel) (by decide +kernel)
set_option maxRecDepth 20000 in
theorem gX4_read_X4_readItem : GoodIn wsX4_read (wsV RX4 47 RX4 yX4_readItem wsX4_readItem) := goodIn_app (goodIn_of _ (by decide +kernel)) ggX4_read_X4_readItem
set_option maxRecDepth 20000 in
theorem ggX4_read_X8_goesOn : GoodIn wsX4_read wsX8_goesOn := goodIn_r _ [48, 9, 36, 49, 50, 51, 7, 52, 10, 108, 109, 110, 111, 112, 113] (by decide +kernel) (by decide +kernel)
set_option maxRecDepth 20000 in
theorem gX4_read_X8_goesOn : GoodIn wsX4_read (wsV RX4 51 RX8 yX8_goesOn wsX8_goesOn) := goodIn_app (goodIn_of _ (by decide +kernel)) ggX4_read_X8_goesOn
set_option maxRecDepth 20000 in
theorem ggX4_read_X8_skip : GoodIn wsX4_read wsX8_skip := goodIn_r _ [96, 9, 41, 42, 43, 7, 44, 45, 46, 47, 48, 36, 49, 50, 51, 52, 10, 32, 33, 34, 35, 37, 53, 54, 55, 56, 108, 109, 110, 111, 112, 113] (by decide +kernel) (by decide +kernel)
set_option maxRecDepth 20000 in
theorem gX4_read_X8_skip : GoodIn wsX4_read (wsV RX4 55 RX8 yX8_skip wsX8_skip) := goodIn_app (goodIn_of _ (by decide +kernel)) ggX4_read_X8_skip
set_option maxRecDepth 20000 in
theorem ggX4_read_X8_failAt : GoodIn wsX4_read wsX8_failAt := goodIn_r _ [56, 10, 108, 109, 110, 111, 112, 113] (by decide +kernel) (by decide +kernel)
set_option maxRecDepth 20000 in
theorem gX4_read_X8_failAt : GoodIn wsX4_read (wsV RX4 62 RX8 yX8_failAt wsX8_failAt) := goodIn_app (goodIn_of _ (by decide +kernel)) ggX4_read_X8_failAt
theorem dX4_read_0 : decode cX4_read 0 = .ok (.aload_n 1, 1) := by decide +kernel
theorem dX4_read_1 : decode cX4_read 1 = .ok (.invokevirtual 18, 3) := by decide +kernel
theorem dX4_read_4 : decode cX4_read 4 = .ok (.aload_n 0, 1) := by decide +kernel
theorem dX4_read_5 : decode cX4_read 5 = .ok (.getfield 12, 3) := by decide +kernel
theorem dX4_read_8 : decode cX4_read 8 = .ok (.invokevirtual 23, 3) := by decide +kernel
theorem dX4_read_11 : decode cX4_read 11 = .ok (.aload_n 0, 1) := by decide +kernel
theorem dX4_read_12 : decode cX4_read 12 = .ok (.aload_n 2, 1) := by decide +kernel
theorem dX4_read_13 : decode cX4_read 13 = .ok (.getfield 26, 3) := by decide +kernel
theorem dX4_read_16 : decode cX4_read 16 = .ok (.getfield 32, 3) := by decide +kernel
theorem dX4_read_19 : decode cX4_read 19 = .ok (.putfield 38, 3) := by decide +kernel
theorem dX4_read_22 : decode cX4_read 22 = .ok (.aload_n 0, 1) := by decide +kernel
theorem dX4_read_23 : decode cX4_read 23 = .ok (.aload_n 2, 1) := by decide +kernel
theorem dX4_read_24 : decode cX4_read 24 = .ok (.getfield 41, 3) := by decide +kernel
theorem dX4_read_27 : decode cX4_read 27 = .ok (.getfield 32, 3) := by decide +kernel
theorem dX4_read_30 : decode cX4_read 30 = .ok (.putfield 44, 3) := by decide +kernel
theorem dX4_read_33 : decode cX4_read 33 = .ok (.aload_n 0, 1) := by decide +kernel
theorem dX4_read_34 : decode cX4_read 34 = .ok (.aload_n 1, 1) := by decide +kernel
theorem dX4_read_35 : decode cX4_read 35 = .ok (.invokevirtual 47, 3) := by decide +kernel
theorem dX4_read_38 : decode cX4_read 38 = .ok (.iconst 0, 1) := by decide +kernel
theorem dX4_read_39 : decode cX4_read 39 = .ok (.istore_n 3, 1) := by decide +kernel
theorem dX4_read_40 : decode cX4_read 40 = .ok (.iload_n 3, 1) := by decide +kernel
theorem dX4_read_41 : decode cX4_read 41 = .ok (.bipush 80, 2) := by decide +kernel
theorem dX4_read_43 : decode cX4_read 43 = .ok (.if_icmp .ge 27, 3) := by decide +kernel
theorem dX4_read_46 : decode cX4_read 46 = .ok (.aload_n 1, 1) := by decide +kernel
theorem dX4_read_47 : decode cX4_read 47 = .ok (.invokevirtual 51, 3) := by decide +kernel
theorem dX4_read_50 : decode cX4_read 50 = .ok (.ifCond .eq 20, 3) := by decide +kernel
theorem dX4_read_53 : decode cX4_read 53 = .ok (.aload_n 1, 1) := by decide +kernel
theorem dX4_read_54 : decode cX4_read 54 = .ok (.bipush 44, 2) := by decide +kernel
theorem dX4_read_56 : decode cX4_read 56 = .ok (.invokevirtual 55, 3) := by decide +kernel
theorem dX4_read_59 : decode cX4_read 59 = .ok (.aload_n 0, 1) := by decide +kernel
theorem dX4_read_60 : decode cX4_read 60 = .ok (.aload_n 1, 1) := by decide +kernel
theorem dX4_read_61 : decode cX4_read 61 = .ok (.invokevirtual 47, 3) := by decide +kernel
theorem dX4_read_64 : decode cX4_read 64 = .ok (.iinc 3 1, 3) := by decide +kernel
theorem dX4_read_67 : decode cX4_read 67 = .ok (.goto (-27), 3) := by decide +kernel
theorem dX4_read_70 : decode cX4_read 70 = .ok (.aload_n 0, 1) := by decide +kernel
theorem dX4_read_71 : decode cX4_read 71 = .ok (.getfield 38, 3) := by decide +kernel
theorem dX4_read_74 : decode cX4_read 74 = .ok (.ifCond .gt 10, 3) := by decide +kernel
theorem dX4_read_77 : decode cX4_read 77 = .ok (.aload_n 0, 1) := by decide +kernel
theorem dX4_read_78 : decode cX4_read 78 = .ok (.getfield 44, 3) := by decide +kernel
theorem dX4_read_81 : decode cX4_read 81 = .ok (.ifCond .le 11, 3) := by decide +kernel
theorem dX4_read_84 : decode cX4_read 84 = .ok (.aload_n 1, 1) := by decide +kernel
theorem dX4_read_85 : decode cX4_read 85 = .ok (.aload_n 1, 1) := by decide +kernel
theorem dX4_read_86 : decode cX4_read 86 = .ok (.getfield 59, 3) := by decide +kernel
theorem dX4_read_89 : decode cX4_read 89 = .ok (.invokevirtual 62, 3) := by decide +kernel
theorem dX4_read_92 : decode cX4_read 92 = .ok (.aload_n 1, 1) := by decide +kernel
theorem dX4_read_93 : decode cX4_read 93 = .ok (.getfield 66, 3) := by decide +kernel
theorem dX4_read_96 : decode cX4_read 96 = .ok (.ireturn, 1) := by decide +kernel
set_option maxRecDepth 20000 in
theorem ggX4_readItem_X8_readNumber : GoodIn wsX4_readItem wsX8_readNumber := goodIn_r _ [6, 7, 8, 9, 10, 11, 12, 5, 13, 14, 15, 16, 17, 18, 19, 20, 21, 22, 23, 24, 25, 26, 27, 28, 29, 30, 31, 32, 33, 34, 35, 36, 37, 38, 39, 40, 41, 42, 43, 80, 81, 82, 83, 84, 85] (by decide +kernel) (by decide +kernel)
set_option maxRecDepth 20000 in
theorem gX4_readItem_X8_readNumber : GoodIn wsX4_readItem (wsV RX4 69 RX8 yX8_readNumber wsX8_readNumber) := goodIn_app (goodIn_of _ (by decide +kernel)) ggX4_readItem_X8_readNumber
set_option maxRecDepth 20000 in
theorem ggX4_readItem_X8_readSign : GoodIn wsX4_readItem wsX8_readSign := goodIn_r _ [47, 7, 23, 24, 25, 5, 26, 27, 28, 29, 30, 18, 31, 32, 33, 34, 35, 14, 15, 16, 17, 19, 36, 37, 38, 39, 80, 81, 82, 83, 84, 85] (by decide +kernel) (by decide +kernel)
set_option maxRecDepth 20000 in
theorem gX4_readItem_X8_readSign : GoodIn wsX4_readItem (wsV RX4 75 RX8 yX8_readSign wsX8_readSign) := goodIn_app (goodIn_of _ (by decide +kernel)) ggX4_readItem_X8_readSign
set_option maxRecDepth 20000 in
theorem ggX4_readItem_X4_addGroups : GoodIn wsX4_readItem wsX4_addGroups := goodIn_r _ [52, 1, 53, 54, 55, 51, 56, 57, 58, 59, 60, 61, 5, 62, 8, 36, 37, 38, 39, 35, 63, 32, 33, 34, 64, 65, 66, 67, 68, 69, 70, 71, 72, 73, 74, 75, 76, 77, 78, 79, 86, 87, 88, 80, 81, 82, 83, 84, 85, 89, 90, 91] (by decide +kernel) (by decide +kernel)
set_option maxRecDepth 20000 in
theorem gX4_readItem_X4_addGroups : GoodIn wsX4_readItem (wsV RX4 79 RX4 yX4_addGroups wsX4_addGroups) := goodIn_app (goodIn_of _ (by decide +kernel)) ggX4_readItem_X4_addGroups
