set_option maxRecDepth 20000 in
theorem ggX4_init_X0_init : GoodIn wsX4_init wsX0_init := goodIn_r _ [15, 16, 2, 3, 17, 18, 19, 20, 32, 33, 34] (by decide +kernel) (by decide +kernel)
set_option maxRecDepth 20000 in
theorem gX4_init_X0_init : GoodIn wsX4_init (wsX0_init) := ggX4_init_X0_init
set_option maxRecDepth 20000 in
theorem ggX4_init_X1_init : GoodIn wsX4_init wsX1_init := goodIn_r _ [23, 24, 2, 3, 25, 26, 27, 28, 29, 30, 31, 38, 39, 40, 41, 42, 43] (by decide +kernel) (by decide +kernel)
set_option maxRecDepth 20000 in
theorem gX4_init_X1_init : GoodIn wsX4_init (wsX1_init) := ggX4_init_X1_init
theorem dX4_init_0 : decode cX4_init 0 = .ok (.aload_n 0, 1) := by decide +kernel
theorem dX4_init_1 : decode cX4_init 1 = .ok (.invokespecial 1, 3) := by decide +kernel
theorem dX4_init_4 : decode cX4_init 4 = .ok (.aload_n 0, 1) := by decide +kernel
theorem dX4_init_5 : decode cX4_init 5 = .ok (.new 7, 3) := by decide +kernel
theorem dX4_init_8 : decode cX4_init 8 = .ok (.dup, 1) := by decide +kernel
theorem dX4_init_9 : decode cX4_init 9 = .ok (.invokespecial 9, 3) := by decide +kernel
theorem dX4_init_12 : decode cX4_init 12 = .ok (.putfield 10, 3) := by decide +kernel
theorem dX4_init_15 : decode cX4_init 15 = .ok (.aload_n 0, 1) := by decide +kernel
theorem dX4_init_16 : decode cX4_init 16 = .ok (.new 16, 3) := by decide +kernel
theorem dX4_init_19 : decode cX4_init 19 = .ok (.dup, 1) := by decide +kernel
theorem dX4_init_20 : decode cX4_init 20 = .ok (.invokespecial 18, 3) := by decide +kernel
theorem dX4_init_23 : decode cX4_init 23 = .ok (.putfield 19, 3) := by decide +kernel
theorem dX4_init_26 : decode cX4_init 26 = .ok (.aload_n 0, 1) := by decide +kernel
theorem dX4_init_27 : decode cX4_init 27 = .ok (.lconst 0, 1) := by decide +kernel
theorem dX4_init_28 : decode cX4_init 28 = .ok (.putfield 25, 3) := by decide +kernel
theorem dX4_init_31 : decode cX4_init 31 = .ok (.return_, 1) := by decide +kernel
set_option maxRecDepth 20000 in
theorem ggX4_write_X4_isLetter : GoodIn wsX4_write wsX4_isLetter := goodIn_r _ [9] (by decide +kernel) (by decide +kernel)
set_option maxRecDepth 20000 in
theorem gX4_write_X4_isLetter : GoodIn wsX4_write (va_wsS RX4 29 yX4_isLetter wsX4_isLetter) := goodIn_app (goodIn_of _ (by decide +kernel)) ggX4_write_X4_isLetter
set_option maxRecDepth 20000 in
theorem ggX4_write_X2_isFull : GoodIn wsX4_write wsX2_isFull := goodIn_r _ [13, 14, 15, 12, 16] (by decide +kernel) (by decide +kernel)
set_option maxRecDepth 20000 in
theorem gX4_write_X2_isFull : GoodIn wsX4_write (va_wsS RX4 40 yX2_isFull wsX2_isFull) := goodIn_app (goodIn_of _ (by decide +kernel)) ggX4_write_X2_isFull
set_option maxRecDepth 20000 in
theorem ggX4_write_X2_with : GoodIn wsX4_write wsX2_with := goodIn_r _ [19, 20, 14, 15, 12, 16, 21, 22, 23] (by decide +kernel) (by decide +kernel)
set_option maxRecDepth 20000 in
theorem gX4_write_X2_with : GoodIn wsX4_write (va_wsS RX4 49 yX2_with wsX2_with) := goodIn_app (goodIn_of _ (by decide +kernel)) ggX4_write_X2_with
set_option maxRecDepth 20000 in
theorem ggX4_write_X2_lengthOf : GoodIn wsX4_write wsX2_lengthOf := goodIn_r _ [16] (by decide +kernel) (by decide +kernel)
set_option maxRecDepth 20000 in
theorem gX4_write_X2_lengthOf : GoodIn wsX4_write (va_wsS RX4 53 yX2_lengthOf wsX2_lengthOf) := goodIn_app (goodIn_of _ (by decide +kernel)) ggX4_write_X2_lengthOf
theorem dX4_write_0 : decode cX4_write 0 = .ok (.iload_n 1, 1) := by decide +kernel
theorem dX4_write_1 : decode cX4_write 1 = .ok (.invokestatic 29, 3) := by decide +kernel
theorem dX4_write_4 : decode cX4_write 4 = .ok (.ifCond .ne 13, 3) := by decide +kernel
theorem dX4_write_7 : decode cX4_write 7 = .ok (.new 33, 3) := by decide +kernel
theorem dX4_write_10 : decode cX4_write 10 = .ok (.dup, 1) := by decide +kernel
theorem dX4_write_11 : decode cX4_write 11 = .ok (.ldc 35, 2) := by decide +kernel
theorem dX4_write_13 : decode cX4_write 13 = .ok (.invokespecial 37, 3) := by decide +kernel
theorem dX4_write_16 : decode cX4_write 16 = .ok (.athrow, 1) := by decide +kernel
theorem dX4_write_17 : decode cX4_write 17 = .ok (.aload_n 0, 1) := by decide +kernel
theorem dX4_write_18 : decode cX4_write 18 = .ok (.getfield 25, 3) := by decide +kernel
theorem dX4_write_21 : decode cX4_write 21 = .ok (.invokestatic 40, 3) := by decide +kernel
theorem dX4_write_24 : decode cX4_write 24 = .ok (.ifCond .eq 13, 3) := by decide +kernel
theorem dX4_write_27 : decode cX4_write 27 = .ok (.new 44, 3) := by decide +kernel
theorem dX4_write_30 : decode cX4_write 30 = .ok (.dup, 1) := by decide +kernel
theorem dX4_write_31 : decode cX4_write 31 = .ok (.ldc 46, 2) := by decide +kernel
theorem dX4_write_33 : decode cX4_write 33 = .ok (.invokespecial 48, 3) := by decide +kernel
theorem dX4_write_36 : decode cX4_write 36 = .ok (.athrow, 1) := by decide +kernel
theorem dX4_write_37 : decode cX4_write 37 = .ok (.aload_n 0, 1) := by decide +kernel
theorem dX4_write_38 : decode cX4_write 38 = .ok (.aload_n 0, 1) := by decide +kernel
theorem dX4_write_39 : decode cX4_write 39 = .ok (.getfield 25, 3) := by decide +kernel
theorem dX4_write_42 : decode cX4_write 42 = .ok (.iload_n 1, 1) := by decide +kernel
theorem dX4_write_43 : decode cX4_write 43 = .ok (.invokestatic 49, 3) := by decide +kernel
theorem dX4_write_46 : decode cX4_write 46 = .ok (.putfield 25, 3) := by decide +kernel
theorem dX4_write_49 : decode cX4_write 49 = .ok (.aload_n 0, 1) := by decide +kernel
theorem dX4_write_50 : decode cX4_write 50 = .ok (.getfield 25, 3) := by decide +kernel
theorem dX4_write_53 : decode cX4_write 53 = .ok (.invokestatic 53, 3) := by decide +kernel
theorem dX4_write_56 : decode cX4_write 56 = .ok (.ireturn, 1) := by decide +kernel
set_option maxRecDepth 20000 in
theorem ggX4_wipe_X2_lengthOf : GoodIn wsX4_wipe wsX2_lengthOf := goodIn_r _ [5] (by decide +kernel) (by decide +kernel)
set_option maxRecDepth 20000 in
theorem gX4_wipe_X2_lengthOf : GoodIn wsX4_wipe (va_wsS RX4 53 yX2_lengthOf wsX2_lengthOf) := goodIn_app (goodIn_of _ (by decide +kernel)) ggX4_wipe_X2_lengthOf
theorem dX4_wipe_0 : decode cX4_wipe 0 = .ok (.aload_n 0, 1) := by decide +kernel
theorem dX4_wipe_1 : decode cX4_wipe 1 = .ok (.getfield 25, 3) := by decide +kernel
theorem dX4_wipe_4 : decode cX4_wipe 4 = .ok (.invokestatic 53, 3) := by decide +kernel
theorem dX4_wipe_7 : decode cX4_wipe 7 = .ok (.istore_n 1, 1) := by decide +kernel
theorem dX4_wipe_8 : decode cX4_wipe 8 = .ok (.aload_n 0, 1) := by decide +kernel
theorem dX4_wipe_9 : decode cX4_wipe 9 = .ok (.lconst 0, 1) := by decide +kernel
theorem dX4_wipe_10 : decode cX4_wipe 10 = .ok (.putfield 25, 3) := by decide +kernel
theorem dX4_wipe_13 : decode cX4_wipe 13 = .ok (.iload_n 1, 1) := by decide +kernel
theorem dX4_wipe_14 : decode cX4_wipe 14 = .ok (.ireturn, 1) := by decide +kernel
set_option maxRecDepth 20000 in
theorem ggX4_slipLength_X2_lengthOf : GoodIn wsX4_slipLength wsX2_lengthOf := goodIn_r _ [5] (by decide +kernel) (by decide +kernel)
set_option maxRecDepth 20000 in
theorem gX4_slipLength_X2_lengthOf : GoodIn wsX4_slipLength (va_wsS RX4 53 yX2_lengthOf wsX2_lengthOf) := goodIn_app (goodIn_of _ (by decide +kernel)) ggX4_slipLength_X2_lengthOf
theorem dX4_slipLength_0 : decode cX4_slipLength 0 = .ok (.aload_n 0, 1) := by decide +kernel
theorem dX4_slipLength_1 : decode cX4_slipLength 1 = .ok (.getfield 25, 3) := by decide +kernel
theorem dX4_slipLength_4 : decode cX4_slipLength 4 = .ok (.invokestatic 53, 3) := by decide +kernel
theorem dX4_slipLength_7 : decode cX4_slipLength 7 = .ok (.ireturn, 1) := by decide +kernel
set_option maxRecDepth 20000 in
theorem ggX4_slipAt_X2_letterAt : GoodIn wsX4_slipAt wsX2_letterAt := goodIn_r _ [7, 8, 9, 6, 10] (by decide +kernel) (by decide +kernel)
set_option maxRecDepth 20000 in
theorem gX4_slipAt_X2_letterAt : GoodIn wsX4_slipAt (va_wsS RX4 57 yX2_letterAt wsX2_letterAt) := goodIn_app (goodIn_of _ (by decide +kernel)) ggX4_slipAt_X2_letterAt
theorem dX4_slipAt_0 : decode cX4_slipAt 0 = .ok (.aload_n 0, 1) := by decide +kernel
theorem dX4_slipAt_1 : decode cX4_slipAt 1 = .ok (.getfield 25, 3) := by decide +kernel
theorem dX4_slipAt_4 : decode cX4_slipAt 4 = .ok (.iload_n 1, 1) := by decide +kernel
theorem dX4_slipAt_5 : decode cX4_slipAt 5 = .ok (.invokestatic 57, 3) := by decide +kernel
theorem dX4_slipAt_8 : decode cX4_slipAt 8 = .ok (.istore_n 2, 1) := by decide +kernel
theorem dX4_slipAt_9 : decode cX4_slipAt 9 = .ok (.iload_n 2, 1) := by decide +kernel
theorem dX4_slipAt_10 : decode cX4_slipAt 10 = .ok (.iconst (-1), 1) := by decide +kernel
theorem dX4_slipAt_11 : decode cX4_slipAt 11 = .ok (.if_icmp .ne 13, 3) := by decide +kernel
theorem dX4_slipAt_14 : decode cX4_slipAt 14 = .ok (.new 61, 3) := by decide +kernel
theorem dX4_slipAt_17 : decode cX4_slipAt 17 = .ok (.dup, 1) := by decide +kernel
theorem dX4_slipAt_18 : decode cX4_slipAt 18 = .ok (.ldc 63, 2) := by decide +kernel
theorem dX4_slipAt_20 : decode cX4_slipAt 20 = .ok (.invokespecial 65, 3) := by decide +kernel
theorem dX4_slipAt_23 : decode cX4_slipAt 23 = .ok (.athrow, 1) := by decide +kernel
theorem dX4_slipAt_24 : decode cX4_slipAt 24 = .ok (.iload_n 2, 1) := by decide +kernel
theorem dX4_slipAt_25 : decode cX4_slipAt 25 = .ok (.ireturn, 1) := by decide +kernel
set_option maxRecDepth 20000 in
theorem ggX4_addWord_X2_lengthOf : GoodIn wsX4_addWord wsX2_lengthOf := goodIn_r _ [10] (by decide +kernel) (by decide +kernel)
set_option maxRecDepth 20000 in
theorem gX4_addWord_X2_lengthOf : GoodIn wsX4_addWord (va_wsS RX4 53 yX2_lengthOf wsX2_lengthOf) := goodIn_app (goodIn_of _ (by decide +kernel)) ggX4_addWord_X2_lengthOf
set_option maxRecDepth 20000 in
theorem ggX4_addWord_X0_add : GoodIn wsX4_addWord wsX0_add := goodIn_r _ [15, 16, 17, 18, 19, 20, 14, 21, 22, 23, 24, 25, 33, 34, 35] (by decide +kernel) (by decide +kernel)
set_option maxRecDepth 20000 in
theorem gX4_addWord_X0_add : GoodIn wsX4_addWord (wsV RX4 68 RX0 yX0_add wsX0_add) := goodIn_app (goodIn_of _ (by decide +kernel)) ggX4_addWord_X0_add
set_option maxRecDepth 20000 in
theorem ggX4_addWord_X0_size : GoodIn wsX4_addWord wsX0_size := goodIn_r _ [29, 16, 33, 34, 35] (by decide +kernel) (by decide +kernel)
set_option maxRecDepth 20000 in
theorem gX4_addWord_X0_size : GoodIn wsX4_addWord (wsV RX4 73 RX0 yX0_size wsX0_size) := goodIn_app (goodIn_of _ (by decide +kernel)) ggX4_addWord_X0_size
theorem dX4_addWord_0 : decode cX4_addWord 0 = .ok (.aload_n 0, 1) := by decide +kernel
theorem dX4_addWord_1 : decode cX4_addWord 1 = .ok (.getfield 25, 3) := by decide +kernel
theorem dX4_addWord_4 : decode cX4_addWord 4 = .ok (.invokestatic 53, 3) := by decide +kernel
theorem dX4_addWord_7 : decode cX4_addWord 7 = .ok (.iconst 2, 1) := by decide +kernel
theorem dX4_addWord_8 : decode cX4_addWord 8 = .ok (.if_icmp .ge 13, 3) := by decide +kernel
theorem dX4_addWord_11 : decode cX4_addWord 11 = .ok (.new 33, 3) := by decide +kernel
theorem dX4_addWord_14 : decode cX4_addWord 14 = .ok (.dup, 1) := by decide +kernel
theorem dX4_addWord_15 : decode cX4_addWord 15 = .ok (.ldc 66, 2) := by decide +kernel
theorem dX4_addWord_17 : decode cX4_addWord 17 = .ok (.invokespecial 37, 3) := by decide +kernel
theorem dX4_addWord_20 : decode cX4_addWord 20 = .ok (.athrow, 1) := by decide +kernel
theorem dX4_addWord_21 : decode cX4_addWord 21 = .ok (.aload_n 0, 1) := by decide +kernel
theorem dX4_addWord_22 : decode cX4_addWord 22 = .ok (.getfield 10, 3) := by decide +kernel
theorem dX4_addWord_25 : decode cX4_addWord 25 = .ok (.aload_n 0, 1) := by decide +kernel
theorem dX4_addWord_26 : decode cX4_addWord 26 = .ok (.getfield 25, 3) := by decide +kernel
theorem dX4_addWord_29 : decode cX4_addWord 29 = .ok (.invokevirtual 68, 3) := by decide +kernel
theorem dX4_addWord_32 : decode cX4_addWord 32 = .ok (.ifCond .ne 13, 3) := by decide +kernel
theorem dX4_addWord_35 : decode cX4_addWord 35 = .ok (.new 44, 3) := by decide +kernel
theorem dX4_addWord_38 : decode cX4_addWord 38 = .ok (.dup, 1) := by decide +kernel
theorem dX4_addWord_39 : decode cX4_addWord 39 = .ok (.ldc 71, 2) := by decide +kernel
theorem dX4_addWord_41 : decode cX4_addWord 41 = .ok (.invokespecial 48, 3) := by decide +kernel
theorem dX4_addWord_44 : decode cX4_addWord 44 = .ok (.athrow, 1) := by decide +kernel
theorem dX4_addWord_45 : decode cX4_addWord 45 = .ok (.aload_n 0, 1) := by decide +kernel
theorem dX4_addWord_46 : decode cX4_addWord 46 = .ok (.getfield 10, 3) := by decide +kernel
theorem dX4_addWord_49 : decode cX4_addWord 49 = .ok (.invokevirtual 73, 3) := by decide +kernel
theorem dX4_addWord_52 : decode cX4_addWord 52 = .ok (.ireturn, 1) := by decide +kernel
set_option maxRecDepth 20000 in
theorem ggX4_removeWord_X0_remove : GoodIn wsX4_removeWord wsX0_remove := goodIn_r _ [9, 10, 11, 12, 13, 14, 8, 15, 23, 24, 25] (by decide +kernel) (by decide +kernel)
set_option maxRecDepth 20000 in
theorem gX4_removeWord_X0_remove : GoodIn wsX4_removeWord (wsV RX4 77 RX0 yX0_remove wsX0_remove) := goodIn_app (goodIn_of _ (by decide +kernel)) ggX4_removeWord_X0_remove
set_option maxRecDepth 20000 in
theorem ggX4_removeWord_X0_size : GoodIn wsX4_removeWord wsX0_size := goodIn_r _ [19, 10, 23, 24, 25] (by decide +kernel) (by decide +kernel)
set_option maxRecDepth 20000 in
theorem gX4_removeWord_X0_size : GoodIn wsX4_removeWord (wsV RX4 73 RX0 yX0_size wsX0_size) := goodIn_app (goodIn_of _ (by decide +kernel)) ggX4_removeWord_X0_size
theorem dX4_removeWord_0 : decode cX4_removeWord 0 = .ok (.aload_n 0, 1) := by decide +kernel
theorem dX4_removeWord_1 : decode cX4_removeWord 1 = .ok (.getfield 10, 3) := by decide +kernel
theorem dX4_removeWord_4 : decode cX4_removeWord 4 = .ok (.aload_n 0, 1) := by decide +kernel
theorem dX4_removeWord_5 : decode cX4_removeWord 5 = .ok (.getfield 25, 3) := by decide +kernel
theorem dX4_removeWord_8 : decode cX4_removeWord 8 = .ok (.invokevirtual 77, 3) := by decide +kernel
theorem dX4_removeWord_11 : decode cX4_removeWord 11 = .ok (.ifCond .ne 13, 3) := by decide +kernel
theorem dX4_removeWord_14 : decode cX4_removeWord 14 = .ok (.new 44, 3) := by decide +kernel
theorem dX4_removeWord_17 : decode cX4_removeWord 17 = .ok (.dup, 1) := by decide +kernel
theorem dX4_removeWord_18 : decode cX4_removeWord 18 = .ok (.ldc 80, 2) := by decide +kernel
theorem dX4_removeWord_20 : decode cX4_removeWord 20 = .ok (.invokespecial 48, 3) := by decide +kernel
theorem dX4_removeWord_23 : decode cX4_removeWord 23 = .ok (.athrow, 1) := by decide +kernel
theorem dX4_removeWord_24 : decode cX4_removeWord 24 = .ok (.aload_n 0, 1) := by decide +kernel
theorem dX4_removeWord_25 : decode cX4_removeWord 25 = .ok (.getfield 10, 3) := by decide +kernel
theorem dX4_removeWord_28 : decode cX4_removeWord 28 = .ok (.invokevirtual 73, 3) := by decide +kernel
theorem dX4_removeWord_31 : decode cX4_removeWord 31 = .ok (.ireturn, 1) := by decide +kernel
set_option maxRecDepth 20000 in
theorem ggX4_isWord_X0_has : GoodIn wsX4_isWord wsX0_has := goodIn_r _ [7, 8, 9, 10, 6, 11, 12, 13, 17, 18, 19] (by decide +kernel) (by decide +kernel)
set_option maxRecDepth 20000 in
theorem gX4_isWord_X0_has : GoodIn wsX4_isWord (wsV RX4 82 RX0 yX0_has wsX0_has) := goodIn_app (goodIn_of _ (by decide +kernel)) ggX4_isWord_X0_has
theorem dX4_isWord_0 : decode cX4_isWord 0 = .ok (.aload_n 0, 1) := by decide +kernel
theorem dX4_isWord_1 : decode cX4_isWord 1 = .ok (.getfield 10, 3) := by decide +kernel
theorem dX4_isWord_4 : decode cX4_isWord 4 = .ok (.aload_n 0, 1) := by decide +kernel
theorem dX4_isWord_5 : decode cX4_isWord 5 = .ok (.getfield 25, 3) := by decide +kernel
theorem dX4_isWord_8 : decode cX4_isWord 8 = .ok (.invokevirtual 82, 3) := by decide +kernel
theorem dX4_isWord_11 : decode cX4_isWord 11 = .ok (.ireturn, 1) := by decide +kernel
set_option maxRecDepth 20000 in
theorem ggX4_words_X0_size : GoodIn wsX4_words wsX0_size := goodIn_r _ [6, 7, 11, 12, 13] (by decide +kernel) (by decide +kernel)
set_option maxRecDepth 20000 in
theorem gX4_words_X0_size : GoodIn wsX4_words (wsV RX4 73 RX0 yX0_size wsX0_size) := goodIn_app (goodIn_of _ (by decide +kernel)) ggX4_words_X0_size
theorem dX4_words_0 : decode cX4_words 0 = .ok (.aload_n 0, 1) := by decide +kernel
theorem dX4_words_1 : decode cX4_words 1 = .ok (.getfield 10, 3) := by decide +kernel
theorem dX4_words_4 : decode cX4_words 4 = .ok (.invokevirtual 73, 3) := by decide +kernel
theorem dX4_words_7 : decode cX4_words 7 = .ok (.ireturn, 1) := by decide +kernel
set_option maxRecDepth 20000 in
theorem ggX4_wordsFromSlip_X0_countFrom : GoodIn wsX4_wordsFromSlip wsX0_countFrom := goodIn_r _ [7, 8, 9, 10, 11, 12, 13, 14, 15, 16, 17, 21, 22, 23] (by decide +kernel) (by decide +kernel)
set_option maxRecDepth 20000 in
theorem gX4_wordsFromSlip_X0_countFrom : GoodIn wsX4_wordsFromSlip (wsV RX4 85 RX0 yX0_countFrom wsX0_countFrom) := goodIn_app (goodIn_of _ (by decide +kernel)) ggX4_wordsFromSlip_X0_countFrom
theorem dX4_wordsFromSlip_0 : decode cX4_wordsFromSlip 0 = .ok (.aload_n 0, 1) := by decide +kernel
theorem dX4_wordsFromSlip_1 : decode cX4_wordsFromSlip 1 = .ok (.getfield 10, 3) := by decide +kernel
theorem dX4_wordsFromSlip_4 : decode cX4_wordsFromSlip 4 = .ok (.aload_n 0, 1) := by decide +kernel
theorem dX4_wordsFromSlip_5 : decode cX4_wordsFromSlip 5 = .ok (.getfield 25, 3) := by decide +kernel
theorem dX4_wordsFromSlip_8 : decode cX4_wordsFromSlip 8 = .ok (.invokevirtual 85, 3) := by decide +kernel
theorem dX4_wordsFromSlip_11 : decode cX4_wordsFromSlip 11 = .ok (.ireturn, 1) := by decide +kernel
set_option maxRecDepth 20000 in
theorem ggX4_beginnings_X0_countBeginnings : GoodIn wsX4_beginnings wsX0_countBeginnings := goodIn_r _ [6, 7, 8, 9, 10, 11, 12, 13, 14, 15, 5, 16, 17, 18, 19, 20, 21, 22, 23, 24, 25, 26, 27, 28, 29, 30, 31, 32, 33, 34, 38, 39, 40] (by decide +kernel) (by decide +kernel)
set_option maxRecDepth 20000 in
theorem gX4_beginnings_X0_countBeginnings : GoodIn wsX4_beginnings (wsV RX4 88 RX0 yX0_countBeginnings wsX0_countBeginnings) := goodIn_app (goodIn_of _ (by decide +kernel)) ggX4_beginnings_X0_countBeginnings
theorem dX4_beginnings_0 : decode cX4_beginnings 0 = .ok (.aload_n 0, 1) := by decide +kernel
theorem dX4_beginnings_1 : decode cX4_beginnings 1 = .ok (.getfield 10, 3) := by decide +kernel
theorem dX4_beginnings_4 : decode cX4_beginnings 4 = .ok (.invokevirtual 88, 3) := by decide +kernel
theorem dX4_beginnings_7 : decode cX4_beginnings 7 = .ok (.ireturn, 1) := by decide +kernel
set_option maxRecDepth 20000 in
theorem ggX4_copyWord_X0_wordAt : GoodIn wsX4_copyWord wsX0_wordAt := goodIn_r _ [9, 10, 11, 19, 20, 21] (by decide +kernel) (by decide +kernel)
set_option maxRecDepth 20000 in
theorem gX4_copyWord_X0_wordAt : GoodIn wsX4_copyWord (wsV RX4 91 RX0 yX0_wordAt wsX0_wordAt) := goodIn_app (goodIn_of _ (by decide +kernel)) ggX4_copyWord_X0_wordAt
set_option maxRecDepth 20000 in
theorem ggX4_copyWord_X2_lengthOf : GoodIn wsX4_copyWord wsX2_lengthOf := goodIn_r _ [15] (by decide +kernel) (by decide +kernel)
set_option maxRecDepth 20000 in
theorem gX4_copyWord_X2_lengthOf : GoodIn wsX4_copyWord (va_wsS RX4 53 yX2_lengthOf wsX2_lengthOf) := goodIn_app (goodIn_of _ (by decide +kernel)) ggX4_copyWord_X2_lengthOf
theorem dX4_copyWord_0 : decode cX4_copyWord 0 = .ok (.aload_n 0, 1) := by decide +kernel
theorem dX4_copyWord_1 : decode cX4_copyWord 1 = .ok (.getfield 10, 3) := by decide +kernel
theorem dX4_copyWord_4 : decode cX4_copyWord 4 = .ok (.iload_n 1, 1) := by decide +kernel
theorem dX4_copyWord_5 : decode cX4_copyWord 5 = .ok (.invokevirtual 91, 3) := by decide +kernel
theorem dX4_copyWord_8 : decode cX4_copyWord 8 = .ok (.lstore_n 2, 1) := by decide +kernel
theorem dX4_copyWord_9 : decode cX4_copyWord 9 = .ok (.lload_n 2, 1) := by decide +kernel
theorem dX4_copyWord_10 : decode cX4_copyWord 10 = .ok (.lconst 0, 1) := by decide +kernel
theorem dX4_copyWord_11 : decode cX4_copyWord 11 = .ok (.lcmp, 1) := by decide +kernel
theorem dX4_copyWord_12 : decode cX4_copyWord 12 = .ok (.ifCond .ne 13, 3) := by decide +kernel
theorem dX4_copyWord_15 : decode cX4_copyWord 15 = .ok (.new 61, 3) := by decide +kernel
theorem dX4_copyWord_18 : decode cX4_copyWord 18 = .ok (.dup, 1) := by decide +kernel
theorem dX4_copyWord_19 : decode cX4_copyWord 19 = .ok (.ldc 95, 2) := by decide +kernel
theorem dX4_copyWord_21 : decode cX4_copyWord 21 = .ok (.invokespecial 65, 3) := by decide +kernel
theorem dX4_copyWord_24 : decode cX4_copyWord 24 = .ok (.athrow, 1) := by decide +kernel
theorem dX4_copyWord_25 : decode cX4_copyWord 25 = .ok (.aload_n 0, 1) := by decide +kernel
theorem dX4_copyWord_26 : decode cX4_copyWord 26 = .ok (.lload_n 2, 1) := by decide +kernel
theorem dX4_copyWord_27 : decode cX4_copyWord 27 = .ok (.putfield 25, 3) := by decide +kernel
theorem dX4_copyWord_30 : decode cX4_copyWord 30 = .ok (.aload_n 0, 1) := by decide +kernel
theorem dX4_copyWord_31 : decode cX4_copyWord 31 = .ok (.getfield 25, 3) := by decide +kernel
theorem dX4_copyWord_34 : decode cX4_copyWord 34 = .ok (.invokestatic 53, 3) := by decide +kernel
theorem dX4_copyWord_37 : decode cX4_copyWord 37 = .ok (.ireturn, 1) := by decide +kernel
set_option maxRecDepth 20000 in
theorem ggX4_setLeastLength_X0_changeLeastLength : GoodIn wsX4_setLeastLength wsX0_changeLeastLength := goodIn_r _ [8, 9, 13, 14, 15] (by decide +kernel) (by decide +kernel)
set_option maxRecDepth 20000 in
theorem gX4_setLeastLength_X0_changeLeastLength : GoodIn wsX4_setLeastLength (wsV RX4 99 RX0 yX0_changeLeastLength wsX0_changeLeastLength) := goodIn_app (goodIn_of _ (by decide +kernel)) ggX4_setLeastLength_X0_changeLeastLength
theorem dX4_setLeastLength_0 : decode cX4_setLeastLength 0 = .ok (.iload_n 1, 1) := by decide +kernel
theorem dX4_setLeastLength_1 : decode cX4_setLeastLength 1 = .ok (.iconst 2, 1) := by decide +kernel
theorem dX4_setLeastLength_2 : decode cX4_setLeastLength 2 = .ok (.if_icmp .lt 9, 3) := by decide +kernel
theorem dX4_setLeastLength_5 : decode cX4_setLeastLength 5 = .ok (.iload_n 1, 1) := by decide +kernel
theorem dX4_setLeastLength_6 : decode cX4_setLeastLength 6 = .ok (.bipush 10, 2) := by decide +kernel
theorem dX4_setLeastLength_8 : decode cX4_setLeastLength 8 = .ok (.if_icmp .le 13, 3) := by decide +kernel
theorem dX4_setLeastLength_11 : decode cX4_setLeastLength 11 = .ok (.new 33, 3) := by decide +kernel
theorem dX4_setLeastLength_14 : decode cX4_setLeastLength 14 = .ok (.dup, 1) := by decide +kernel
theorem dX4_setLeastLength_15 : decode cX4_setLeastLength 15 = .ok (.ldc 97, 2) := by decide +kernel
theorem dX4_setLeastLength_17 : decode cX4_setLeastLength 17 = .ok (.invokespecial 37, 3) := by decide +kernel
theorem dX4_setLeastLength_20 : decode cX4_setLeastLength 20 = .ok (.athrow, 1) := by decide +kernel
theorem dX4_setLeastLength_21 : decode cX4_setLeastLength 21 = .ok (.aload_n 0, 1) := by decide +kernel
theorem dX4_setLeastLength_22 : decode cX4_setLeastLength 22 = .ok (.getfield 10, 3) := by decide +kernel
theorem dX4_setLeastLength_25 : decode cX4_setLeastLength 25 = .ok (.iload_n 1, 1) := by decide +kernel
theorem dX4_setLeastLength_26 : decode cX4_setLeastLength 26 = .ok (.invokevirtual 99, 3) := by decide +kernel
theorem dX4_setLeastLength_29 : decode cX4_setLeastLength 29 = .ok (.ireturn, 1) := by decide +kernel
set_option maxRecDepth 20000 in
theorem ggX4_start_X1_begin : GoodIn wsX4_start wsX1_begin := goodIn_r _ [8, 9, 10, 11, 12, 13, 14, 18, 19, 20, 21, 22, 23] (by decide +kernel) (by decide +kernel)
set_option maxRecDepth 20000 in
theorem gX4_start_X1_begin : GoodIn wsX4_start (wsV RX4 105 RX1 yX1_begin wsX1_begin) := goodIn_app (goodIn_of _ (by decide +kernel)) ggX4_start_X1_begin
theorem dX4_start_0 : decode cX4_start 0 = .ok (.iload_n 1, 1) := by decide +kernel
theorem dX4_start_1 : decode cX4_start 1 = .ok (.iconst 2, 1) := by decide +kernel
theorem dX4_start_2 : decode cX4_start 2 = .ok (.if_icmp .lt 8, 3) := by decide +kernel
theorem dX4_start_5 : decode cX4_start 5 = .ok (.iload_n 1, 1) := by decide +kernel
theorem dX4_start_6 : decode cX4_start 6 = .ok (.iconst 4, 1) := by decide +kernel
theorem dX4_start_7 : decode cX4_start 7 = .ok (.if_icmp .le 13, 3) := by decide +kernel
theorem dX4_start_10 : decode cX4_start 10 = .ok (.new 33, 3) := by decide +kernel
theorem dX4_start_13 : decode cX4_start 13 = .ok (.dup, 1) := by decide +kernel
theorem dX4_start_14 : decode cX4_start 14 = .ok (.ldc 103, 2) := by decide +kernel
theorem dX4_start_16 : decode cX4_start 16 = .ok (.invokespecial 37, 3) := by decide +kernel
theorem dX4_start_19 : decode cX4_start 19 = .ok (.athrow, 1) := by decide +kernel
theorem dX4_start_20 : decode cX4_start 20 = .ok (.aload_n 0, 1) := by decide +kernel
theorem dX4_start_21 : decode cX4_start 21 = .ok (.getfield 19, 3) := by decide +kernel
theorem dX4_start_24 : decode cX4_start 24 = .ok (.iload_n 1, 1) := by decide +kernel
theorem dX4_start_25 : decode cX4_start 25 = .ok (.invokevirtual 105, 3) := by decide +kernel
theorem dX4_start_28 : decode cX4_start 28 = .ok (.return_, 1) := by decide +kernel
set_option maxRecDepth 20000 in
theorem ggX4_play_X4_isLetter : GoodIn wsX4_play wsX4_isLetter := goodIn_r _ [10] (by decide +kernel) (by decide +kernel)
set_option maxRecDepth 20000 in
theorem gX4_play_X4_isLetter : GoodIn wsX4_play (va_wsS RX4 29 yX4_isLetter wsX4_isLetter) := goodIn_app (goodIn_of _ (by decide +kernel)) ggX4_play_X4_isLetter
set_option maxRecDepth 20000 in
theorem ggX4_play_X1_isOn : GoodIn wsX4_play wsX1_isOn := goodIn_r _ [15, 16, 92, 93, 94, 95, 96, 97] (by decide +kernel) (by decide +kernel)
set_option maxRecDepth 20000 in
theorem gX4_play_X1_isOn : GoodIn wsX4_play (wsV RX4 109 RX1 yX1_isOn wsX1_isOn) := goodIn_app (goodIn_of _ (by decide +kernel)) ggX4_play_X1_isOn
set_option maxRecDepth 20000 in
theorem ggX4_play_X1_fragment : GoodIn wsX4_play wsX1_fragment := goodIn_r _ [20, 21, 92, 93, 94, 95, 96, 97] (by decide +kernel) (by decide +kernel)
set_option maxRecDepth 20000 in
theorem gX4_play_X1_fragment : GoodIn wsX4_play (wsV RX4 113 RX1 yX1_fragment wsX1_fragment) := goodIn_app (goodIn_of _ (by decide +kernel)) ggX4_play_X1_fragment
set_option maxRecDepth 20000 in
theorem ggX4_play_X2_isFull : GoodIn wsX4_play wsX2_isFull := goodIn_r _ [25, 26, 27, 24, 28] (by decide +kernel) (by decide +kernel)
set_option maxRecDepth 20000 in
theorem gX4_play_X2_isFull : GoodIn wsX4_play (va_wsS RX4 40 yX2_isFull wsX2_isFull) := goodIn_app (goodIn_of _ (by decide +kernel)) ggX4_play_X2_isFull
set_option maxRecDepth 20000 in
theorem ggX4_play_X1_addLetter : GoodIn wsX4_play wsX1_addLetter := goodIn_r _ [32, 21, 16, 33, 34, 35, 24, 36, 37, 26, 27, 28, 38, 39, 40, 41, 42, 43, 44, 45, 46, 47, 48, 49, 50, 51, 52, 53, 54, 55, 56, 57, 58, 59, 60, 61, 62, 63, 64, 14, 65, 66, 67, 68, 69, 70, 71, 72, 73, 74, 75, 76, 77, 78, 79, 80, 81, 82, 83, 84, 85, 86, 87, 88, 92, 93, 94, 95, 96, 97, 98, 99, 100] (by decide +kernel) (by decide +kernel)
set_option maxRecDepth 20000 in
theorem gX4_play_X1_addLetter : GoodIn wsX4_play (wsV RX4 119 RX1 yX1_addLetter wsX1_addLetter) := goodIn_app (goodIn_of _ (by decide +kernel)) ggX4_play_X1_addLetter
theorem dX4_play_0 : decode cX4_play 0 = .ok (.iload_n 1, 1) := by decide +kernel
theorem dX4_play_1 : decode cX4_play 1 = .ok (.invokestatic 29, 3) := by decide +kernel
theorem dX4_play_4 : decode cX4_play 4 = .ok (.ifCond .ne 13, 3) := by decide +kernel
theorem dX4_play_7 : decode cX4_play 7 = .ok (.new 33, 3) := by decide +kernel
theorem dX4_play_10 : decode cX4_play 10 = .ok (.dup, 1) := by decide +kernel
theorem dX4_play_11 : decode cX4_play 11 = .ok (.ldc 35, 2) := by decide +kernel
theorem dX4_play_13 : decode cX4_play 13 = .ok (.invokespecial 37, 3) := by decide +kernel
theorem dX4_play_16 : decode cX4_play 16 = .ok (.athrow, 1) := by decide +kernel
theorem dX4_play_17 : decode cX4_play 17 = .ok (.aload_n 0, 1) := by decide +kernel
theorem dX4_play_18 : decode cX4_play 18 = .ok (.getfield 19, 3) := by decide +kernel
theorem dX4_play_21 : decode cX4_play 21 = .ok (.invokevirtual 109, 3) := by decide +kernel
theorem dX4_play_24 : decode cX4_play 24 = .ok (.ifCond .eq 16, 3) := by decide +kernel
theorem dX4_play_27 : decode cX4_play 27 = .ok (.aload_n 0, 1) := by decide +kernel
theorem dX4_play_28 : decode cX4_play 28 = .ok (.getfield 19, 3) := by decide +kernel
theorem dX4_play_31 : decode cX4_play 31 = .ok (.invokevirtual 113, 3) := by decide +kernel
theorem dX4_play_34 : decode cX4_play 34 = .ok (.invokestatic 40, 3) := by decide +kernel
theorem dX4_play_37 : decode cX4_play 37 = .ok (.ifCond .eq 13, 3) := by decide +kernel
theorem dX4_play_40 : decode cX4_play 40 = .ok (.new 44, 3) := by decide +kernel
theorem dX4_play_43 : decode cX4_play 43 = .ok (.dup, 1) := by decide +kernel
theorem dX4_play_44 : decode cX4_play 44 = .ok (.ldc 117, 2) := by decide +kernel
theorem dX4_play_46 : decode cX4_play 46 = .ok (.invokespecial 48, 3) := by decide +kernel
theorem dX4_play_49 : decode cX4_play 49 = .ok (.athrow, 1) := by decide +kernel
theorem dX4_play_50 : decode cX4_play 50 = .ok (.aload_n 0, 1) := by decide +kernel
theorem dX4_play_51 : decode cX4_play 51 = .ok (.getfield 19, 3) := by decide +kernel
theorem dX4_play_54 : decode cX4_play 54 = .ok (.iload_n 1, 1) := by decide +kernel
theorem dX4_play_55 : decode cX4_play 55 = .ok (.aload_n 0, 1) := by decide +kernel
theorem dX4_play_56 : decode cX4_play 56 = .ok (.getfield 10, 3) := by decide +kernel
theorem dX4_play_59 : decode cX4_play 59 = .ok (.invokevirtual 119, 3) := by decide +kernel
theorem dX4_play_62 : decode cX4_play 62 = .ok (.ireturn, 1) := by decide +kernel
set_option maxRecDepth 20000 in
theorem ggX4_challenge_X1_isOn : GoodIn wsX4_challenge wsX1_isOn := goodIn_r _ [9, 10, 72, 73, 74, 75, 76, 77] (by decide +kernel) (by decide +kernel)
set_option maxRecDepth 20000 in
theorem gX4_challenge_X1_isOn : GoodIn wsX4_challenge (wsV RX4 109 RX1 yX1_isOn wsX1_isOn) := goodIn_app (goodIn_of _ (by decide +kernel)) ggX4_challenge_X1_isOn
set_option maxRecDepth 20000 in
theorem ggX4_challenge_X1_fragment : GoodIn wsX4_challenge wsX1_fragment := goodIn_r _ [14, 15, 72, 73, 74, 75, 76, 77] (by decide +kernel) (by decide +kernel)
set_option maxRecDepth 20000 in
theorem gX4_challenge_X1_fragment : GoodIn wsX4_challenge (wsV RX4 113 RX1 yX1_fragment wsX1_fragment) := goodIn_app (goodIn_of _ (by decide +kernel)) ggX4_challenge_X1_fragment
set_option maxRecDepth 20000 in
theorem ggX4_challenge_X1_settleChallenge : GoodIn wsX4_challenge wsX1_settleChallenge := goodIn_r _ [19, 15, 10, 20, 21, 22, 23, 24, 25, 26, 27, 28, 29, 30, 31, 32, 33, 34, 35, 36, 37, 38, 39, 40, 41, 42, 43, 44, 8, 45, 46, 47, 48, 49, 50, 51, 52, 53, 54, 55, 56, 57, 58, 59, 60, 61, 62, 63, 64, 65, 66, 67, 68, 72, 73, 74, 75, 76, 77, 78, 79, 80] (by decide +kernel) (by decide +kernel)
set_option maxRecDepth 20000 in
theorem gX4_challenge_X1_settleChallenge : GoodIn wsX4_challenge (wsV RX4 125 RX1 yX1_settleChallenge wsX1_settleChallenge) := goodIn_app (goodIn_of _ (by decide +kernel)) ggX4_challenge_X1_settleChallenge
theorem dX4_challenge_0 : decode cX4_challenge 0 = .ok (.aload_n 0, 1) := by decide +kernel
theorem dX4_challenge_1 : decode cX4_challenge 1 = .ok (.getfield 19, 3) := by decide +kernel
theorem dX4_challenge_4 : decode cX4_challenge 4 = .ok (.invokevirtual 109, 3) := by decide +kernel
theorem dX4_challenge_7 : decode cX4_challenge 7 = .ok (.ifCond .eq 15, 3) := by decide +kernel
theorem dX4_challenge_10 : decode cX4_challenge 10 = .ok (.aload_n 0, 1) := by decide +kernel
theorem dX4_challenge_11 : decode cX4_challenge 11 = .ok (.getfield 19, 3) := by decide +kernel
theorem dX4_challenge_14 : decode cX4_challenge 14 = .ok (.invokevirtual 113, 3) := by decide +kernel
theorem dX4_challenge_17 : decode cX4_challenge 17 = .ok (.lconst 0, 1) := by decide +kernel
theorem dX4_challenge_18 : decode cX4_challenge 18 = .ok (.lcmp, 1) := by decide +kernel
theorem dX4_challenge_19 : decode cX4_challenge 19 = .ok (.ifCond .ne 13, 3) := by decide +kernel
theorem dX4_challenge_22 : decode cX4_challenge 22 = .ok (.new 44, 3) := by decide +kernel
theorem dX4_challenge_25 : decode cX4_challenge 25 = .ok (.dup, 1) := by decide +kernel
theorem dX4_challenge_26 : decode cX4_challenge 26 = .ok (.ldc 123, 2) := by decide +kernel
theorem dX4_challenge_28 : decode cX4_challenge 28 = .ok (.invokespecial 48, 3) := by decide +kernel
theorem dX4_challenge_31 : decode cX4_challenge 31 = .ok (.athrow, 1) := by decide +kernel
theorem dX4_challenge_32 : decode cX4_challenge 32 = .ok (.aload_n 0, 1) := by decide +kernel
theorem dX4_challenge_33 : decode cX4_challenge 33 = .ok (.getfield 19, 3) := by decide +kernel
theorem dX4_challenge_36 : decode cX4_challenge 36 = .ok (.aload_n 0, 1) := by decide +kernel
theorem dX4_challenge_37 : decode cX4_challenge 37 = .ok (.getfield 10, 3) := by decide +kernel
theorem dX4_challenge_40 : decode cX4_challenge 40 = .ok (.invokevirtual 125, 3) := by decide +kernel
theorem dX4_challenge_43 : decode cX4_challenge 43 = .ok (.ireturn, 1) := by decide +kernel
set_option maxRecDepth 20000 in
theorem ggX4_turn_X1_mover : GoodIn wsX4_turn wsX1_mover := goodIn_r _ [6, 7, 11, 12, 13, 14, 15, 16] (by decide +kernel) (by decide +kernel)
set_option maxRecDepth 20000 in
theorem gX4_turn_X1_mover : GoodIn wsX4_turn (wsV RX4 129 RX1 yX1_mover wsX1_mover) := goodIn_app (goodIn_of _ (by decide +kernel)) ggX4_turn_X1_mover
theorem dX4_turn_0 : decode cX4_turn 0 = .ok (.aload_n 0, 1) := by decide +kernel
theorem dX4_turn_1 : decode cX4_turn 1 = .ok (.getfield 19, 3) := by decide +kernel
theorem dX4_turn_4 : decode cX4_turn 4 = .ok (.invokevirtual 129, 3) := by decide +kernel
theorem dX4_turn_7 : decode cX4_turn 7 = .ok (.ireturn, 1) := by decide +kernel
set_option maxRecDepth 20000 in
theorem ggX4_winner_X1_champion : GoodIn wsX4_winner wsX1_champion := goodIn_r _ [6, 7, 11, 12, 13, 14, 15, 16] (by decide +kernel) (by decide +kernel)
set_option maxRecDepth 20000 in
theorem gX4_winner_X1_champion : GoodIn wsX4_winner (wsV RX4 132 RX1 yX1_champion wsX1_champion) := goodIn_app (goodIn_of _ (by decide +kernel)) ggX4_winner_X1_champion
theorem dX4_winner_0 : decode cX4_winner 0 = .ok (.aload_n 0, 1) := by decide +kernel
theorem dX4_winner_1 : decode cX4_winner 1 = .ok (.getfield 19, 3) := by decide +kernel
theorem dX4_winner_4 : decode cX4_winner 4 = .ok (.invokevirtual 132, 3) := by decide +kernel
theorem dX4_winner_7 : decode cX4_winner 7 = .ok (.ireturn, 1) := by decide +kernel
set_option maxRecDepth 20000 in
theorem ggX4_players_X1_playerCount : GoodIn wsX4_players wsX1_playerCount := goodIn_r _ [6, 7, 11, 12, 13, 14, 15, 16] (by decide +kernel) (by decide +kernel)
set_option maxRecDepth 20000 in
theorem gX4_players_X1_playerCount : GoodIn wsX4_players (wsV RX4 135 RX1 yX1_playerCount wsX1_playerCount) := goodIn_app (goodIn_of _ (by decide +kernel)) ggX4_players_X1_playerCount
theorem dX4_players_0 : decode cX4_players 0 = .ok (.aload_n 0, 1) := by decide +kernel
theorem dX4_players_1 : decode cX4_players 1 = .ok (.getfield 19, 3) := by decide +kernel
theorem dX4_players_4 : decode cX4_players 4 = .ok (.invokevirtual 135, 3) := by decide +kernel
theorem dX4_players_7 : decode cX4_players 7 = .ok (.ireturn, 1) := by decide +kernel
set_option maxRecDepth 20000 in
theorem ggX4_strikes_X1_strikesOf : GoodIn wsX4_strikes wsX1_strikesOf := goodIn_r _ [8, 9, 10, 11, 12, 7, 13, 14, 18, 19, 20, 21, 22, 23] (by decide +kernel) (by decide +kernel)
set_option maxRecDepth 20000 in
theorem gX4_strikes_X1_strikesOf : GoodIn wsX4_strikes (wsV RX4 138 RX1 yX1_strikesOf wsX1_strikesOf) := goodIn_app (goodIn_of _ (by decide +kernel)) ggX4_strikes_X1_strikesOf
theorem dX4_strikes_0 : decode cX4_strikes 0 = .ok (.aload_n 0, 1) := by decide +kernel
theorem dX4_strikes_1 : decode cX4_strikes 1 = .ok (.getfield 19, 3) := by decide +kernel
theorem dX4_strikes_4 : decode cX4_strikes 4 = .ok (.iload_n 1, 1) := by decide +kernel
theorem dX4_strikes_5 : decode cX4_strikes 5 = .ok (.invokevirtual 138, 3) := by decide +kernel
theorem dX4_strikes_8 : decode cX4_strikes 8 = .ok (.istore_n 2, 1) := by decide +kernel
theorem dX4_strikes_9 : decode cX4_strikes 9 = .ok (.iload_n 2, 1) := by decide +kernel
theorem dX4_strikes_10 : decode cX4_strikes 10 = .ok (.iconst (-1), 1) := by decide +kernel
theorem dX4_strikes_11 : decode cX4_strikes 11 = .ok (.if_icmp .ne 13, 3) := by decide +kernel
theorem dX4_strikes_14 : decode cX4_strikes 14 = .ok (.new 61, 3) := by decide +kernel
theorem dX4_strikes_17 : decode cX4_strikes 17 = .ok (.dup, 1) := by decide +kernel
theorem dX4_strikes_18 : decode cX4_strikes 18 = .ok (.ldc 141, 2) := by decide +kernel
theorem dX4_strikes_20 : decode cX4_strikes 20 = .ok (.invokespecial 65, 3) := by decide +kernel
theorem dX4_strikes_23 : decode cX4_strikes 23 = .ok (.athrow, 1) := by decide +kernel
theorem dX4_strikes_24 : decode cX4_strikes 24 = .ok (.iload_n 2, 1) := by decide +kernel
theorem dX4_strikes_25 : decode cX4_strikes 25 = .ok (.ireturn, 1) := by decide +kernel
set_option maxRecDepth 20000 in
theorem ggX4_fragmentLength_X1_fragment : GoodIn wsX4_fragmentLength wsX1_fragment := goodIn_r _ [6, 7, 15, 16, 17, 18, 19, 20] (by decide +kernel) (by decide +kernel)
set_option maxRecDepth 20000 in
theorem gX4_fragmentLength_X1_fragment : GoodIn wsX4_fragmentLength (wsV RX4 113 RX1 yX1_fragment wsX1_fragment) := goodIn_app (goodIn_of _ (by decide +kernel)) ggX4_fragmentLength_X1_fragment
set_option maxRecDepth 20000 in
theorem ggX4_fragmentLength_X2_lengthOf : GoodIn wsX4_fragmentLength wsX2_lengthOf := goodIn_r _ [11] (by decide +kernel) (by decide +kernel)
set_option maxRecDepth 20000 in
theorem gX4_fragmentLength_X2_lengthOf : GoodIn wsX4_fragmentLength (va_wsS RX4 53 yX2_lengthOf wsX2_lengthOf) := goodIn_app (goodIn_of _ (by decide +kernel)) ggX4_fragmentLength_X2_lengthOf
theorem dX4_fragmentLength_0 : decode cX4_fragmentLength 0 = .ok (.aload_n 0, 1) := by decide +kernel
theorem dX4_fragmentLength_1 : decode cX4_fragmentLength 1 = .ok (.getfield 19, 3) := by decide +kernel
theorem dX4_fragmentLength_4 : decode cX4_fragmentLength 4 = .ok (.invokevirtual 113, 3) := by decide +kernel
theorem dX4_fragmentLength_7 : decode cX4_fragmentLength 7 = .ok (.invokestatic 53, 3) := by decide +kernel
theorem dX4_fragmentLength_10 : decode cX4_fragmentLength 10 = .ok (.ireturn, 1) := by decide +kernel
set_option maxRecDepth 20000 in
theorem ggX4_fragmentAt_X1_fragment : GoodIn wsX4_fragmentAt wsX1_fragment := goodIn_r _ [8, 9, 20, 21, 22, 23, 24, 25] (by decide +kernel) (by decide +kernel)
set_option maxRecDepth 20000 in
theorem gX4_fragmentAt_X1_fragment : GoodIn wsX4_fragmentAt (wsV RX4 113 RX1 yX1_fragment wsX1_fragment) := goodIn_app (goodIn_of _ (by decide +kernel)) ggX4_fragmentAt_X1_fragment
set_option maxRecDepth 20000 in
theorem ggX4_fragmentAt_X2_letterAt : GoodIn wsX4_fragmentAt wsX2_letterAt := goodIn_r _ [13, 14, 15, 12, 16] (by decide +kernel) (by decide +kernel)
set_option maxRecDepth 20000 in
theorem gX4_fragmentAt_X2_letterAt : GoodIn wsX4_fragmentAt (va_wsS RX4 57 yX2_letterAt wsX2_letterAt) := goodIn_app (goodIn_of _ (by decide +kernel)) ggX4_fragmentAt_X2_letterAt
theorem dX4_fragmentAt_0 : decode cX4_fragmentAt 0 = .ok (.aload_n 0, 1) := by decide +kernel
theorem dX4_fragmentAt_1 : decode cX4_fragmentAt 1 = .ok (.getfield 19, 3) := by decide +kernel
theorem dX4_fragmentAt_4 : decode cX4_fragmentAt 4 = .ok (.invokevirtual 113, 3) := by decide +kernel
theorem dX4_fragmentAt_7 : decode cX4_fragmentAt 7 = .ok (.iload_n 1, 1) := by decide +kernel
theorem dX4_fragmentAt_8 : decode cX4_fragmentAt 8 = .ok (.invokestatic 57, 3) := by decide +kernel
theorem dX4_fragmentAt_11 : decode cX4_fragmentAt 11 = .ok (.istore_n 2, 1) := by decide +kernel
theorem dX4_fragmentAt_12 : decode cX4_fragmentAt 12 = .ok (.iload_n 2, 1) := by decide +kernel
theorem dX4_fragmentAt_13 : decode cX4_fragmentAt 13 = .ok (.iconst (-1), 1) := by decide +kernel
theorem dX4_fragmentAt_14 : decode cX4_fragmentAt 14 = .ok (.if_icmp .ne 13, 3) := by decide +kernel
theorem dX4_fragmentAt_17 : decode cX4_fragmentAt 17 = .ok (.new 61, 3) := by decide +kernel
theorem dX4_fragmentAt_20 : decode cX4_fragmentAt 20 = .ok (.dup, 1) := by decide +kernel
theorem dX4_fragmentAt_21 : decode cX4_fragmentAt 21 = .ok (.ldc 143, 2) := by decide +kernel
theorem dX4_fragmentAt_23 : decode cX4_fragmentAt 23 = .ok (.invokespecial 65, 3) := by decide +kernel
theorem dX4_fragmentAt_26 : decode cX4_fragmentAt 26 = .ok (.athrow, 1) := by decide +kernel
theorem dX4_fragmentAt_27 : decode cX4_fragmentAt 27 = .ok (.iload_n 2, 1) := by decide +kernel
theorem dX4_fragmentAt_28 : decode cX4_fragmentAt 28 = .ok (.ireturn, 1) := by decide +kernel
set_option maxRecDepth 20000 in
theorem ggX4_openLetters_X1_fragment : GoodIn wsX4_openLetters wsX1_fragment := goodIn_r _ [7, 8, 48, 49, 50, 51, 52, 53] (by decide +kernel) (by decide +kernel)
set_option maxRecDepth 20000 in
theorem gX4_openLetters_X1_fragment : GoodIn wsX4_openLetters (wsV RX4 113 RX1 yX1_fragment wsX1_fragment) := goodIn_app (goodIn_of _ (by decide +kernel)) ggX4_openLetters_X1_fragment
set_option maxRecDepth 20000 in
theorem ggX4_openLetters_X3_lettersOpenBehind : GoodIn wsX4_openLetters wsX3_lettersOpenBehind := goodIn_r _ [12, 13, 14, 15, 16, 17, 18, 19, 20, 21, 22, 23, 24, 25, 11, 26, 27, 28, 29, 30, 31, 32, 33, 34, 35, 36, 37, 38, 39, 40, 41, 42, 43, 44, 54, 55, 56] (by decide +kernel) (by decide +kernel)
set_option maxRecDepth 20000 in
theorem gX4_openLetters_X3_lettersOpenBehind : GoodIn wsX4_openLetters (va_wsS RX4 145 yX3_lettersOpenBehind wsX3_lettersOpenBehind) := goodIn_app (goodIn_of _ (by decide +kernel)) ggX4_openLetters_X3_lettersOpenBehind
theorem dX4_openLetters_0 : decode cX4_openLetters 0 = .ok (.aload_n 0, 1) := by decide +kernel
theorem dX4_openLetters_1 : decode cX4_openLetters 1 = .ok (.getfield 10, 3) := by decide +kernel
theorem dX4_openLetters_4 : decode cX4_openLetters 4 = .ok (.aload_n 0, 1) := by decide +kernel
theorem dX4_openLetters_5 : decode cX4_openLetters 5 = .ok (.getfield 19, 3) := by decide +kernel
theorem dX4_openLetters_8 : decode cX4_openLetters 8 = .ok (.invokevirtual 113, 3) := by decide +kernel
theorem dX4_openLetters_11 : decode cX4_openLetters 11 = .ok (.invokestatic 145, 3) := by decide +kernel
theorem dX4_openLetters_14 : decode cX4_openLetters 14 = .ok (.ireturn, 1) := by decide +kernel
set_option maxRecDepth 20000 in
theorem ggX4_winningLetters_X1_fragment : GoodIn wsX4_winningLetters wsX1_fragment := goodIn_r _ [7, 8, 86, 87, 88, 89, 90, 91] (by decide +kernel) (by decide +kernel)
set_option maxRecDepth 20000 in
theorem gX4_winningLetters_X1_fragment : GoodIn wsX4_winningLetters (wsV RX4 113 RX1 yX1_fragment wsX1_fragment) := goodIn_app (goodIn_of _ (by decide +kernel)) ggX4_winningLetters_X1_fragment
set_option maxRecDepth 20000 in
theorem ggX4_winningLetters_X3_lettersWinningBehind : GoodIn wsX4_winningLetters wsX3_lettersWinningBehind := goodIn_r _ [12, 13, 14, 11, 15, 16, 17, 18, 19, 20, 21, 22, 23, 24, 25, 26, 27, 28, 29, 30, 31, 32, 33, 34, 35, 36, 37, 38, 39, 40, 41, 42, 43, 44, 45, 46, 47, 48, 49, 50, 51, 52, 53, 54, 55, 56, 57, 58, 59, 60, 61, 62, 63, 64, 65, 66, 67, 68, 69, 70, 71, 72, 73, 74, 75, 76, 77, 78, 79, 80, 81, 82, 92, 93, 94] (by decide +kernel) (by decide +kernel)
set_option maxRecDepth 20000 in
theorem gX4_winningLetters_X3_lettersWinningBehind : GoodIn wsX4_winningLetters (va_wsS RX4 151 yX3_lettersWinningBehind wsX3_lettersWinningBehind) := goodIn_app (goodIn_of _ (by decide +kernel)) ggX4_winningLetters_X3_lettersWinningBehind
theorem dX4_winningLetters_0 : decode cX4_winningLetters 0 = .ok (.aload_n 0, 1) := by decide +kernel
theorem dX4_winningLetters_1 : decode cX4_winningLetters 1 = .ok (.getfield 10, 3) := by decide +kernel
theorem dX4_winningLetters_4 : decode cX4_winningLetters 4 = .ok (.aload_n 0, 1) := by decide +kernel
theorem dX4_winningLetters_5 : decode cX4_winningLetters 5 = .ok (.getfield 19, 3) := by decide +kernel
theorem dX4_winningLetters_8 : decode cX4_winningLetters 8 = .ok (.invokevirtual 113, 3) := by decide +kernel
theorem dX4_winningLetters_11 : decode cX4_winningLetters 11 = .ok (.invokestatic 151, 3) := by decide +kernel
theorem dX4_winningLetters_14 : decode cX4_winningLetters 14 = .ok (.ireturn, 1) := by decide +kernel
set_option maxRecDepth 20000 in
theorem ggX4_canWin_X1_fragment : GoodIn wsX4_canWin wsX1_fragment := goodIn_r _ [7, 8, 86, 87, 88, 89, 90, 91] (by decide +kernel) (by decide +kernel)
set_option maxRecDepth 20000 in
theorem gX4_canWin_X1_fragment : GoodIn wsX4_canWin (wsV RX4 113 RX1 yX1_fragment wsX1_fragment) := goodIn_app (goodIn_of _ (by decide +kernel)) ggX4_canWin_X1_fragment
set_option maxRecDepth 20000 in
theorem ggX4_canWin_X3_moverWins : GoodIn wsX4_canWin wsX3_moverWins := goodIn_r _ [12, 13, 14, 11, 15, 16, 17, 18, 19, 20, 21, 22, 23, 24, 25, 26, 27, 28, 29, 30, 31, 32, 33, 34, 35, 36, 37, 38, 39, 40, 41, 42, 43, 44, 45, 46, 47, 48, 49, 50, 51, 52, 53, 54, 55, 56, 57, 58, 59, 60, 61, 62, 63, 64, 65, 66, 67, 68, 69, 70, 71, 72, 73, 74, 75, 76, 77, 78, 79, 80, 81, 82, 92, 93, 94] (by decide +kernel) (by decide +kernel)
set_option maxRecDepth 20000 in
theorem gX4_canWin_X3_moverWins : GoodIn wsX4_canWin (va_wsS RX4 154 yX3_moverWins wsX3_moverWins) := goodIn_app (goodIn_of _ (by decide +kernel)) ggX4_canWin_X3_moverWins
theorem dX4_canWin_0 : decode cX4_canWin 0 = .ok (.aload_n 0, 1) := by decide +kernel
theorem dX4_canWin_1 : decode cX4_canWin 1 = .ok (.getfield 10, 3) := by decide +kernel
theorem dX4_canWin_4 : decode cX4_canWin 4 = .ok (.aload_n 0, 1) := by decide +kernel
theorem dX4_canWin_5 : decode cX4_canWin 5 = .ok (.getfield 19, 3) := by decide +kernel
theorem dX4_canWin_8 : decode cX4_canWin 8 = .ok (.invokevirtual 113, 3) := by decide +kernel
theorem dX4_canWin_11 : decode cX4_canWin 11 = .ok (.invokestatic 154, 3) := by decide +kernel
theorem dX4_canWin_14 : decode cX4_canWin 14 = .ok (.ireturn, 1) := by decide +kernel
set_option maxRecDepth 20000 in
theorem ggX4_end_X1_fragment : GoodIn wsX4_end wsX1_fragment := goodIn_r _ [7, 8, 89, 90, 91, 92, 93, 94] (by decide +kernel) (by decide +kernel)
set_option maxRecDepth 20000 in
theorem gX4_end_X1_fragment : GoodIn wsX4_end (wsV RX4 113 RX1 yX1_fragment wsX1_fragment) := goodIn_app (goodIn_of _ (by decide +kernel)) ggX4_end_X1_fragment
set_option maxRecDepth 20000 in
theorem ggX4_end_X3_endBehind : GoodIn wsX4_end wsX3_endBehind := goodIn_r _ [12, 13, 14, 15, 16, 17, 18, 11, 19, 20, 21, 22, 23, 24, 25, 26, 27, 28, 29, 30, 31, 32, 33, 34, 35, 36, 37, 38, 39, 40, 41, 42, 43, 44, 45, 46, 47, 48, 49, 50, 51, 52, 53, 54, 55, 56, 57, 58, 59, 60, 61, 62, 63, 64, 65, 66, 67, 68, 69, 70, 71, 72, 73, 74, 75, 76, 77, 78, 79, 80, 81, 82, 83, 84, 85, 95, 96, 97] (by decide +kernel) (by decide +kernel)
set_option maxRecDepth 20000 in
theorem gX4_end_X3_endBehind : GoodIn wsX4_end (va_wsS RX4 158 yX3_endBehind wsX3_endBehind) := goodIn_app (goodIn_of _ (by decide +kernel)) ggX4_end_X3_endBehind
theorem dX4_end_0 : decode cX4_end 0 = .ok (.aload_n 0, 1) := by decide +kernel
theorem dX4_end_1 : decode cX4_end 1 = .ok (.getfield 10, 3) := by decide +kernel
theorem dX4_end_4 : decode cX4_end 4 = .ok (.aload_n 0, 1) := by decide +kernel
theorem dX4_end_5 : decode cX4_end 5 = .ok (.getfield 19, 3) := by decide +kernel
theorem dX4_end_8 : decode cX4_end 8 = .ok (.invokevirtual 113, 3) := by decide +kernel
theorem dX4_end_11 : decode cX4_end 11 = .ok (.invokestatic 158, 3) := by decide +kernel
theorem dX4_end_14 : decode cX4_end 14 = .ok (.ireturn, 1) := by decide +kernel
set_option maxRecDepth 20000 in
theorem ggX4_bestLetter_X1_fragment : GoodIn wsX4_bestLetter wsX1_fragment := goodIn_r _ [7, 8, 86, 87, 88, 89, 90, 91] (by decide +kernel) (by decide +kernel)
set_option maxRecDepth 20000 in
theorem gX4_bestLetter_X1_fragment : GoodIn wsX4_bestLetter (wsV RX4 113 RX1 yX1_fragment wsX1_fragment) := goodIn_app (goodIn_of _ (by decide +kernel)) ggX4_bestLetter_X1_fragment
set_option maxRecDepth 20000 in
theorem ggX4_bestLetter_X3_letterChosenBehind : GoodIn wsX4_bestLetter wsX3_letterChosenBehind := goodIn_r _ [12, 13, 14, 11, 15, 16, 17, 18, 19, 20, 21, 22, 23, 24, 25, 26, 27, 28, 29, 30, 31, 32, 33, 34, 35, 36, 37, 38, 39, 40, 41, 42, 43, 44, 45, 46, 47, 48, 49, 50, 51, 52, 53, 54, 55, 56, 57, 58, 59, 60, 61, 62, 63, 64, 65, 66, 67, 68, 69, 70, 71, 72, 73, 74, 75, 76, 77, 78, 79, 80, 81, 82, 92, 93, 94] (by decide +kernel) (by decide +kernel)
set_option maxRecDepth 20000 in
theorem gX4_bestLetter_X3_letterChosenBehind : GoodIn wsX4_bestLetter (va_wsS RX4 161 yX3_letterChosenBehind wsX3_letterChosenBehind) := goodIn_app (goodIn_of _ (by decide +kernel)) ggX4_bestLetter_X3_letterChosenBehind
theorem dX4_bestLetter_0 : decode cX4_bestLetter 0 = .ok (.aload_n 0, 1) := by decide +kernel
theorem dX4_bestLetter_1 : decode cX4_bestLetter 1 = .ok (.getfield 10, 3) := by decide +kernel
theorem dX4_bestLetter_4 : decode cX4_bestLetter 4 = .ok (.aload_n 0, 1) := by decide +kernel
theorem dX4_bestLetter_5 : decode cX4_bestLetter 5 = .ok (.getfield 19, 3) := by decide +kernel
theorem dX4_bestLetter_8 : decode cX4_bestLetter 8 = .ok (.invokevirtual 113, 3) := by decide +kernel
theorem dX4_bestLetter_11 : decode cX4_bestLetter 11 = .ok (.invokestatic 161, 3) := by decide +kernel
theorem dX4_bestLetter_14 : decode cX4_bestLetter 14 = .ok (.ireturn, 1) := by decide +kernel
set_option maxRecDepth 20000 in
theorem ggX4_waysToPlay_X1_fragment : GoodIn wsX4_waysToPlay wsX1_fragment := goodIn_r _ [7, 8, 67, 68, 69, 70, 71, 72] (by decide +kernel) (by decide +kernel)
set_option maxRecDepth 20000 in
theorem gX4_waysToPlay_X1_fragment : GoodIn wsX4_waysToPlay (wsV RX4 113 RX1 yX1_fragment wsX1_fragment) := goodIn_app (goodIn_of _ (by decide +kernel)) ggX4_waysToPlay_X1_fragment
set_option maxRecDepth 20000 in
theorem ggX4_waysToPlay_X3_countWays : GoodIn wsX4_waysToPlay wsX3_countWays := goodIn_r _ [12, 13, 14, 15, 16, 17, 18, 19, 20, 21, 22, 23, 24, 25, 11, 26, 27, 28, 29, 30, 31, 32, 33, 34, 35, 36, 37, 38, 39, 40, 41, 42, 43, 44, 45, 46, 47, 48, 49, 50, 51, 52, 53, 54, 55, 56, 57, 58, 59, 60, 61, 62, 63, 73, 74, 75] (by decide +kernel) (by decide +kernel)
set_option maxRecDepth 20000 in
theorem gX4_waysToPlay_X3_countWays : GoodIn wsX4_waysToPlay (va_wsS RX4 164 yX3_countWays wsX3_countWays) := goodIn_app (goodIn_of _ (by decide +kernel)) ggX4_waysToPlay_X3_countWays
theorem dX4_waysToPlay_0 : decode cX4_waysToPlay 0 = .ok (.aload_n 0, 1) := by decide +kernel
theorem dX4_waysToPlay_1 : decode cX4_waysToPlay 1 = .ok (.getfield 10, 3) := by decide +kernel
theorem dX4_waysToPlay_4 : decode cX4_waysToPlay 4 = .ok (.aload_n 0, 1) := by decide +kernel
theorem dX4_waysToPlay_5 : decode cX4_waysToPlay 5 = .ok (.getfield 19, 3) := by decide +kernel
theorem dX4_waysToPlay_8 : decode cX4_waysToPlay 8 = .ok (.invokevirtual 113, 3) := by decide +kernel
theorem dX4_waysToPlay_11 : decode cX4_waysToPlay 11 = .ok (.invokestatic 164, 3) := by decide +kernel
theorem dX4_waysToPlay_14 : decode cX4_waysToPlay 14 = .ok (.ireturn, 1) := by decide +kernel
set_option maxRecDepth 20000 in
theorem ggX4_waysToWin_X1_fragment : GoodIn wsX4_waysToWin wsX1_fragment := goodIn_r _ [7, 8, 70, 71, 72, 73, 74, 75] (by decide +kernel) (by decide +kernel)
set_option maxRecDepth 20000 in
theorem gX4_waysToWin_X1_fragment : GoodIn wsX4_waysToWin (wsV RX4 113 RX1 yX1_fragment wsX1_fragment) := goodIn_app (goodIn_of _ (by decide +kernel)) ggX4_waysToWin_X1_fragment
set_option maxRecDepth 20000 in
theorem ggX4_waysToWin_X3_countWonWays : GoodIn wsX4_waysToWin wsX3_countWonWays := goodIn_r _ [12, 13, 14, 15, 16, 17, 18, 19, 20, 21, 22, 23, 24, 25, 11, 26, 27, 28, 29, 30, 31, 32, 33, 34, 35, 36, 37, 38, 39, 40, 41, 42, 43, 44, 45, 46, 47, 48, 49, 50, 51, 52, 53, 54, 55, 56, 57, 58, 59, 60, 61, 62, 63, 64, 65, 66, 76, 77, 78] (by decide +kernel) (by decide +kernel)
set_option maxRecDepth 20000 in
theorem gX4_waysToWin_X3_countWonWays : GoodIn wsX4_waysToWin (va_wsS RX4 167 yX3_countWonWays wsX3_countWonWays) := goodIn_app (goodIn_of _ (by decide +kernel)) ggX4_waysToWin_X3_countWonWays
theorem dX4_waysToWin_0 : decode cX4_waysToWin 0 = .ok (.aload_n 0, 1) := by decide +kernel
theorem dX4_waysToWin_1 : decode cX4_waysToWin 1 = .ok (.getfield 10, 3) := by decide +kernel
theorem dX4_waysToWin_4 : decode cX4_waysToWin 4 = .ok (.aload_n 0, 1) := by decide +kernel
theorem dX4_waysToWin_5 : decode cX4_waysToWin 5 = .ok (.getfield 19, 3) := by decide +kernel
theorem dX4_waysToWin_8 : decode cX4_waysToWin 8 = .ok (.invokevirtual 113, 3) := by decide +kernel
theorem dX4_waysToWin_11 : decode cX4_waysToWin 11 = .ok (.invokestatic 167, 3) := by decide +kernel
theorem dX4_waysToWin_14 : decode cX4_waysToWin 14 = .ok (.ireturn, 1) := by decide +kernel
theorem dX4_isLetter_0 : decode cX4_isLetter 0 = .ok (.iload_n 0, 1) := by decide +kernel
theorem dX4_isLetter_1 : decode cX4_isLetter 1 = .ok (.ifCond .lt 13, 3) := by decide +kernel
theorem dX4_isLetter_4 : decode cX4_isLetter 4 = .ok (.iload_n 0, 1) := by decide +kernel
theorem dX4_isLetter_5 : decode cX4_isLetter 5 = .ok (.bipush 26, 2) := by decide +kernel
theorem dX4_isLetter_7 : decode cX4_isLetter 7 = .ok (.if_icmp .ge 7, 3) := by decide +kernel
theorem dX4_isLetter_10 : decode cX4_isLetter 10 = .ok (.iconst 1, 1) := by decide +kernel
theorem dX4_isLetter_11 : decode cX4_isLetter 11 = .ok (.goto 4, 3) := by decide +kernel
theorem dX4_isLetter_14 : decode cX4_isLetter 14 = .ok (.iconst 0, 1) := by decide +kernel
theorem dX4_isLetter_15 : decode cX4_isLetter 15 = .ok (.ireturn, 1) := by decide +kernel
