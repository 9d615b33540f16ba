set_option maxRecDepth 20000 in
theorem ggX3_lettersOpenBehind_X0_size : GoodIn wsX3_lettersOpenBehind wsX0_size := goodIn_r _ [5, 6, 34, 35, 36] (by decide +kernel) (by decide +kernel)
set_option maxRecDepth 20000 in
theorem gX3_lettersOpenBehind_X0_size : GoodIn wsX3_lettersOpenBehind (wsV RX3 9 RX0 yX0_size wsX0_size) := goodIn_app (goodIn_of _ (by decide +kernel)) ggX3_lettersOpenBehind_X0_size
set_option maxRecDepth 20000 in
theorem ggX3_lettersOpenBehind_X0_wordAt : GoodIn wsX3_lettersOpenBehind wsX0_wordAt := goodIn_r _ [10, 6, 11, 34, 35, 36] (by decide +kernel) (by decide +kernel)
set_option maxRecDepth 20000 in
theorem gX3_lettersOpenBehind_X0_wordAt : GoodIn wsX3_lettersOpenBehind (wsV RX3 15 RX0 yX0_wordAt wsX0_wordAt) := goodIn_app (goodIn_of _ (by decide +kernel)) ggX3_lettersOpenBehind_X0_wordAt
set_option maxRecDepth 20000 in
theorem ggX3_lettersOpenBehind_X3_leadsOn : GoodIn wsX3_lettersOpenBehind wsX3_leadsOn := goodIn_r _ [15, 16, 17, 18, 4, 19, 20, 21, 22, 23, 24, 25, 26, 27, 28, 29, 34, 35, 36] (by decide +kernel) (by decide +kernel)
set_option maxRecDepth 20000 in
theorem gX3_lettersOpenBehind_X3_leadsOn : GoodIn wsX3_lettersOpenBehind (va_wsS RX3 19 yX3_leadsOn wsX3_leadsOn) := goodIn_app (goodIn_of _ (by decide +kernel)) ggX3_lettersOpenBehind_X3_leadsOn
set_option maxRecDepth 20000 in
theorem ggX3_lettersOpenBehind_X2_lengthOf : GoodIn wsX3_lettersOpenBehind wsX2_lengthOf := goodIn_r _ [24] (by decide +kernel) (by decide +kernel)
set_option maxRecDepth 20000 in
theorem gX3_lettersOpenBehind_X2_lengthOf : GoodIn wsX3_lettersOpenBehind (va_wsS RX3 25 yX2_lengthOf wsX2_lengthOf) := goodIn_app (goodIn_of _ (by decide +kernel)) ggX3_lettersOpenBehind_X2_lengthOf
set_option maxRecDepth 20000 in
theorem ggX3_lettersOpenBehind_X2_letterAt : GoodIn wsX3_lettersOpenBehind wsX2_letterAt := goodIn_r _ [33, 29, 22, 23, 24] (by decide +kernel) (by decide +kernel)
set_option maxRecDepth 20000 in
theorem gX3_lettersOpenBehind_X2_letterAt : GoodIn wsX3_lettersOpenBehind (va_wsS RX3 31 yX2_letterAt wsX2_letterAt) := goodIn_app (goodIn_of _ (by decide +kernel)) ggX3_lettersOpenBehind_X2_letterAt
theorem dX3_lettersOpenBehind_0 : decode cX3_lettersOpenBehind 0 = .ok (.iconst 0, 1) := by decide +kernel
theorem dX3_lettersOpenBehind_1 : decode cX3_lettersOpenBehind 1 = .ok (.istore_n 3, 1) := by decide +kernel
theorem dX3_lettersOpenBehind_2 : decode cX3_lettersOpenBehind 2 = .ok (.iconst 0, 1) := by decide +kernel
theorem dX3_lettersOpenBehind_3 : decode cX3_lettersOpenBehind 3 = .ok (.istore 4, 2) := by decide +kernel
theorem dX3_lettersOpenBehind_5 : decode cX3_lettersOpenBehind 5 = .ok (.iload 4, 2) := by decide +kernel
theorem dX3_lettersOpenBehind_7 : decode cX3_lettersOpenBehind 7 = .ok (.aload_n 0, 1) := by decide +kernel
theorem dX3_lettersOpenBehind_8 : decode cX3_lettersOpenBehind 8 = .ok (.invokevirtual 9, 3) := by decide +kernel
theorem dX3_lettersOpenBehind_11 : decode cX3_lettersOpenBehind 11 = .ok (.if_icmp .ge 41, 3) := by decide +kernel
theorem dX3_lettersOpenBehind_14 : decode cX3_lettersOpenBehind 14 = .ok (.aload_n 0, 1) := by decide +kernel
theorem dX3_lettersOpenBehind_15 : decode cX3_lettersOpenBehind 15 = .ok (.iload 4, 2) := by decide +kernel
theorem dX3_lettersOpenBehind_17 : decode cX3_lettersOpenBehind 17 = .ok (.invokevirtual 15, 3) := by decide +kernel
theorem dX3_lettersOpenBehind_20 : decode cX3_lettersOpenBehind 20 = .ok (.lstore 5, 2) := by decide +kernel
theorem dX3_lettersOpenBehind_22 : decode cX3_lettersOpenBehind 22 = .ok (.aload_n 0, 1) := by decide +kernel
theorem dX3_lettersOpenBehind_23 : decode cX3_lettersOpenBehind 23 = .ok (.lload 5, 2) := by decide +kernel
theorem dX3_lettersOpenBehind_25 : decode cX3_lettersOpenBehind 25 = .ok (.lload_n 1, 1) := by decide +kernel
theorem dX3_lettersOpenBehind_26 : decode cX3_lettersOpenBehind 26 = .ok (.invokestatic 19, 3) := by decide +kernel
theorem dX3_lettersOpenBehind_29 : decode cX3_lettersOpenBehind 29 = .ok (.ifCond .eq 17, 3) := by decide +kernel
theorem dX3_lettersOpenBehind_32 : decode cX3_lettersOpenBehind 32 = .ok (.iload_n 3, 1) := by decide +kernel
theorem dX3_lettersOpenBehind_33 : decode cX3_lettersOpenBehind 33 = .ok (.iconst 1, 1) := by decide +kernel
theorem dX3_lettersOpenBehind_34 : decode cX3_lettersOpenBehind 34 = .ok (.lload 5, 2) := by decide +kernel
theorem dX3_lettersOpenBehind_36 : decode cX3_lettersOpenBehind 36 = .ok (.lload_n 1, 1) := by decide +kernel
theorem dX3_lettersOpenBehind_37 : decode cX3_lettersOpenBehind 37 = .ok (.invokestatic 25, 3) := by decide +kernel
theorem dX3_lettersOpenBehind_40 : decode cX3_lettersOpenBehind 40 = .ok (.invokestatic 31, 3) := by decide +kernel
theorem dX3_lettersOpenBehind_43 : decode cX3_lettersOpenBehind 43 = .ok (.ishl, 1) := by decide +kernel
theorem dX3_lettersOpenBehind_44 : decode cX3_lettersOpenBehind 44 = .ok (.ior, 1) := by decide +kernel
theorem dX3_lettersOpenBehind_45 : decode cX3_lettersOpenBehind 45 = .ok (.istore_n 3, 1) := by decide +kernel
theorem dX3_lettersOpenBehind_46 : decode cX3_lettersOpenBehind 46 = .ok (.iinc 4 1, 3) := by decide +kernel
theorem dX3_lettersOpenBehind_49 : decode cX3_lettersOpenBehind 49 = .ok (.goto (-44), 3) := by decide +kernel
theorem dX3_lettersOpenBehind_52 : decode cX3_lettersOpenBehind 52 = .ok (.iload_n 3, 1) := by decide +kernel
theorem dX3_lettersOpenBehind_53 : decode cX3_lettersOpenBehind 53 = .ok (.ireturn, 1) := by decide +kernel
set_option maxRecDepth 20000 in
theorem ggX3_lettersWinningBehind_X3_lettersOpenBehind : GoodIn wsX3_lettersWinningBehind wsX3_lettersOpenBehind := goodIn_r _ [4, 5, 6, 7, 8, 9, 10, 11, 12, 13, 14, 15, 16, 17, 3, 18, 19, 20, 21, 22, 23, 24, 25, 26, 27, 28, 29, 30, 31, 32, 33, 34, 35, 36, 72, 73, 74] (by decide +kernel) (by decide +kernel)
set_option maxRecDepth 20000 in
theorem gX3_lettersWinningBehind_X3_lettersOpenBehind : GoodIn wsX3_lettersWinningBehind (va_wsS RX3 35 yX3_lettersOpenBehind wsX3_lettersOpenBehind) := goodIn_app (goodIn_of _ (by decide +kernel)) ggX3_lettersWinningBehind_X3_lettersOpenBehind
set_option maxRecDepth 20000 in
theorem ggX3_lettersWinningBehind_X3_isIn : GoodIn wsX3_lettersWinningBehind wsX3_isIn := goodIn_r _ [39] (by decide +kernel) (by decide +kernel)
set_option maxRecDepth 20000 in
theorem gX3_lettersWinningBehind_X3_isIn : GoodIn wsX3_lettersWinningBehind (va_wsS RX3 39 yX3_isIn wsX3_isIn) := goodIn_app (goodIn_of _ (by decide +kernel)) ggX3_lettersWinningBehind_X3_isIn
set_option maxRecDepth 20000 in
theorem ggX3_lettersWinningBehind_X3_scoreOfLetter : GoodIn wsX3_lettersWinningBehind wsX3_scoreOfLetter := goodIn_r _ [42, 43, 44, 26, 45, 31, 32, 25, 27, 46, 47, 48, 49, 50, 51, 8, 52, 53, 20, 21, 22, 23, 24, 54, 55, 56, 57, 58, 59, 60, 61, 10, 15, 62, 63, 3, 64, 65, 66, 67, 68, 69, 70, 71, 1, 2, 4, 5, 6, 7, 9, 11, 12, 13, 14, 16, 17, 18, 19, 28, 29, 30, 33, 34, 35, 36, 37, 38, 39, 40, 41, 72, 73, 74] (by decide +kernel) (by decide +kernel)
set_option maxRecDepth 20000 in
theorem gX3_lettersWinningBehind_X3_scoreOfLetter : GoodIn wsX3_lettersWinningBehind (va_wsS RX3 43 yX3_scoreOfLetter wsX3_scoreOfLetter) := goodIn_app (goodIn_of _ (by decide +kernel)) ggX3_lettersWinningBehind_X3_scoreOfLetter
theorem dX3_lettersWinningBehind_0 : decode cX3_lettersWinningBehind 0 = .ok (.aload_n 0, 1) := by decide +kernel
theorem dX3_lettersWinningBehind_1 : decode cX3_lettersWinningBehind 1 = .ok (.lload_n 1, 1) := by decide +kernel
theorem dX3_lettersWinningBehind_2 : decode cX3_lettersWinningBehind 2 = .ok (.invokestatic 35, 3) := by decide +kernel
theorem dX3_lettersWinningBehind_5 : decode cX3_lettersWinningBehind 5 = .ok (.istore_n 3, 1) := by decide +kernel
theorem dX3_lettersWinningBehind_6 : decode cX3_lettersWinningBehind 6 = .ok (.iconst 0, 1) := by decide +kernel
theorem dX3_lettersWinningBehind_7 : decode cX3_lettersWinningBehind 7 = .ok (.istore 4, 2) := by decide +kernel
theorem dX3_lettersWinningBehind_9 : decode cX3_lettersWinningBehind 9 = .ok (.iconst 0, 1) := by decide +kernel
theorem dX3_lettersWinningBehind_10 : decode cX3_lettersWinningBehind 10 = .ok (.istore 5, 2) := by decide +kernel
theorem dX3_lettersWinningBehind_12 : decode cX3_lettersWinningBehind 12 = .ok (.iload 5, 2) := by decide +kernel
theorem dX3_lettersWinningBehind_14 : decode cX3_lettersWinningBehind 14 = .ok (.bipush 26, 2) := by decide +kernel
theorem dX3_lettersWinningBehind_16 : decode cX3_lettersWinningBehind 16 = .ok (.if_icmp .ge 37, 3) := by decide +kernel
theorem dX3_lettersWinningBehind_19 : decode cX3_lettersWinningBehind 19 = .ok (.iload_n 3, 1) := by decide +kernel
theorem dX3_lettersWinningBehind_20 : decode cX3_lettersWinningBehind 20 = .ok (.iload 5, 2) := by decide +kernel
theorem dX3_lettersWinningBehind_22 : decode cX3_lettersWinningBehind 22 = .ok (.invokestatic 39, 3) := by decide +kernel
theorem dX3_lettersWinningBehind_25 : decode cX3_lettersWinningBehind 25 = .ok (.ifCond .eq 22, 3) := by decide +kernel
theorem dX3_lettersWinningBehind_28 : decode cX3_lettersWinningBehind 28 = .ok (.aload_n 0, 1) := by decide +kernel
theorem dX3_lettersWinningBehind_29 : decode cX3_lettersWinningBehind 29 = .ok (.lload_n 1, 1) := by decide +kernel
theorem dX3_lettersWinningBehind_30 : decode cX3_lettersWinningBehind 30 = .ok (.iload 5, 2) := by decide +kernel
theorem dX3_lettersWinningBehind_32 : decode cX3_lettersWinningBehind 32 = .ok (.invokestatic 43, 3) := by decide +kernel
theorem dX3_lettersWinningBehind_35 : decode cX3_lettersWinningBehind 35 = .ok (.ifCond .le 12, 3) := by decide +kernel
theorem dX3_lettersWinningBehind_38 : decode cX3_lettersWinningBehind 38 = .ok (.iload 4, 2) := by decide +kernel
theorem dX3_lettersWinningBehind_40 : decode cX3_lettersWinningBehind 40 = .ok (.iconst 1, 1) := by decide +kernel
theorem dX3_lettersWinningBehind_41 : decode cX3_lettersWinningBehind 41 = .ok (.iload 5, 2) := by decide +kernel
theorem dX3_lettersWinningBehind_43 : decode cX3_lettersWinningBehind 43 = .ok (.ishl, 1) := by decide +kernel
theorem dX3_lettersWinningBehind_44 : decode cX3_lettersWinningBehind 44 = .ok (.ior, 1) := by decide +kernel
theorem dX3_lettersWinningBehind_45 : decode cX3_lettersWinningBehind 45 = .ok (.istore 4, 2) := by decide +kernel
theorem dX3_lettersWinningBehind_47 : decode cX3_lettersWinningBehind 47 = .ok (.iinc 5 1, 3) := by decide +kernel
theorem dX3_lettersWinningBehind_50 : decode cX3_lettersWinningBehind 50 = .ok (.goto (-38), 3) := by decide +kernel
theorem dX3_lettersWinningBehind_53 : decode cX3_lettersWinningBehind 53 = .ok (.iload 4, 2) := by decide +kernel
theorem dX3_lettersWinningBehind_55 : decode cX3_lettersWinningBehind 55 = .ok (.ireturn, 1) := by decide +kernel
set_option maxRecDepth 20000 in
theorem ggX3_moverWins_X3_score : GoodIn wsX3_moverWins wsX3_score := goodIn_r _ [4, 5, 6, 7, 8, 9, 10, 11, 12, 13, 14, 15, 16, 17, 3, 18, 19, 20, 21, 22, 23, 24, 25, 26, 27, 28, 29, 30, 31, 32, 33, 34, 35, 36, 37, 38, 39, 40, 41, 42, 43, 44, 45, 46, 47, 48, 49, 50, 51, 52, 53, 54, 55, 56, 57, 58, 59, 60, 61, 62, 63, 64, 65, 66, 67, 68, 69, 70, 71, 1, 2, 72, 73, 74] (by decide +kernel) (by decide +kernel)
set_option maxRecDepth 20000 in
theorem gX3_moverWins_X3_score : GoodIn wsX3_moverWins (va_wsS RX3 47 yX3_score wsX3_score) := goodIn_app (goodIn_of _ (by decide +kernel)) ggX3_moverWins_X3_score
theorem dX3_moverWins_0 : decode cX3_moverWins 0 = .ok (.aload_n 0, 1) := by decide +kernel
theorem dX3_moverWins_1 : decode cX3_moverWins 1 = .ok (.lload_n 1, 1) := by decide +kernel
theorem dX3_moverWins_2 : decode cX3_moverWins 2 = .ok (.invokestatic 47, 3) := by decide +kernel
theorem dX3_moverWins_5 : decode cX3_moverWins 5 = .ok (.ifCond .le 7, 3) := by decide +kernel
theorem dX3_moverWins_8 : decode cX3_moverWins 8 = .ok (.iconst 1, 1) := by decide +kernel
theorem dX3_moverWins_9 : decode cX3_moverWins 9 = .ok (.goto 4, 3) := by decide +kernel
theorem dX3_moverWins_12 : decode cX3_moverWins 12 = .ok (.iconst 0, 1) := by decide +kernel
theorem dX3_moverWins_13 : decode cX3_moverWins 13 = .ok (.ireturn, 1) := by decide +kernel
set_option maxRecDepth 20000 in
theorem ggX3_endBehind_X3_score : GoodIn wsX3_endBehind wsX3_score := goodIn_r _ [8, 9, 10, 3, 11, 12, 13, 14, 15, 16, 17, 18, 19, 20, 7, 21, 22, 23, 24, 25, 26, 27, 28, 29, 30, 31, 32, 33, 34, 35, 36, 37, 38, 39, 40, 41, 42, 43, 44, 45, 46, 47, 48, 49, 50, 51, 52, 53, 54, 55, 56, 57, 58, 59, 60, 61, 62, 63, 64, 65, 66, 67, 68, 69, 70, 71, 72, 73, 74, 5, 6, 75, 76, 77] (by decide +kernel) (by decide +kernel)
set_option maxRecDepth 20000 in
theorem gX3_endBehind_X3_score : GoodIn wsX3_endBehind (va_wsS RX3 47 yX3_score wsX3_score) := goodIn_app (goodIn_of _ (by decide +kernel)) ggX3_endBehind_X3_score
theorem dX3_endBehind_0 : decode cX3_endBehind 0 = .ok (.bipush 100, 2) := by decide +kernel
theorem dX3_endBehind_2 : decode cX3_endBehind 2 = .ok (.aload_n 0, 1) := by decide +kernel
theorem dX3_endBehind_3 : decode cX3_endBehind 3 = .ok (.lload_n 1, 1) := by decide +kernel
theorem dX3_endBehind_4 : decode cX3_endBehind 4 = .ok (.invokestatic 47, 3) := by decide +kernel
theorem dX3_endBehind_7 : decode cX3_endBehind 7 = .ok (.invokestatic 50, 3) := by decide +kernel
theorem dX3_endBehind_10 : decode cX3_endBehind 10 = .ok (.isub, 1) := by decide +kernel
theorem dX3_endBehind_11 : decode cX3_endBehind 11 = .ok (.ireturn, 1) := by decide +kernel
set_option maxRecDepth 20000 in
theorem ggX3_letterChosenBehind_X3_lettersOpenBehind : GoodIn wsX3_letterChosenBehind wsX3_lettersOpenBehind := goodIn_r _ [4, 5, 6, 7, 8, 9, 10, 11, 12, 13, 14, 15, 16, 17, 3, 18, 19, 20, 21, 22, 23, 24, 25, 26, 27, 28, 29, 30, 31, 32, 33, 34, 35, 36, 72, 73, 74] (by decide +kernel) (by decide +kernel)
set_option maxRecDepth 20000 in
theorem gX3_letterChosenBehind_X3_lettersOpenBehind : GoodIn wsX3_letterChosenBehind (va_wsS RX3 35 yX3_lettersOpenBehind wsX3_lettersOpenBehind) := goodIn_app (goodIn_of _ (by decide +kernel)) ggX3_letterChosenBehind_X3_lettersOpenBehind
set_option maxRecDepth 20000 in
theorem ggX3_letterChosenBehind_X3_score : GoodIn wsX3_letterChosenBehind wsX3_score := goodIn_r _ [39, 40, 41, 42, 43, 44, 45, 26, 46, 32, 25, 27, 1, 2, 3, 4, 5, 6, 7, 8, 9, 10, 11, 12, 13, 14, 15, 16, 17, 18, 19, 20, 21, 22, 23, 24, 28, 29, 30, 31, 33, 34, 35, 36, 47, 48, 49, 50, 51, 52, 53, 54, 55, 56, 57, 58, 59, 60, 61, 62, 63, 64, 65, 66, 67, 68, 69, 70, 71, 37, 38, 72, 73, 74] (by decide +kernel) (by decide +kernel)
set_option maxRecDepth 20000 in
theorem gX3_letterChosenBehind_X3_score : GoodIn wsX3_letterChosenBehind (va_wsS RX3 47 yX3_score wsX3_score) := goodIn_app (goodIn_of _ (by decide +kernel)) ggX3_letterChosenBehind_X3_score
set_option maxRecDepth 20000 in
theorem ggX3_letterChosenBehind_X3_isIn : GoodIn wsX3_letterChosenBehind wsX3_isIn := goodIn_r _ [49] (by decide +kernel) (by decide +kernel)
set_option maxRecDepth 20000 in
theorem gX3_letterChosenBehind_X3_isIn : GoodIn wsX3_letterChosenBehind (va_wsS RX3 39 yX3_isIn wsX3_isIn) := goodIn_app (goodIn_of _ (by decide +kernel)) ggX3_letterChosenBehind_X3_isIn
set_option maxRecDepth 20000 in
theorem ggX3_letterChosenBehind_X3_scoreOfLetter : GoodIn wsX3_letterChosenBehind wsX3_scoreOfLetter := goodIn_r _ [52, 53, 54, 26, 55, 31, 32, 25, 27, 56, 57, 58, 59, 60, 61, 8, 62, 63, 20, 21, 22, 23, 24, 64, 65, 66, 67, 68, 69, 70, 71, 10, 15, 37, 38, 3, 39, 40, 41, 42, 43, 44, 45, 46, 1, 2, 4, 5, 6, 7, 9, 11, 12, 13, 14, 16, 17, 18, 19, 28, 29, 30, 33, 34, 35, 36, 47, 48, 49, 50, 51, 72, 73, 74] (by decide +kernel) (by decide +kernel)
set_option maxRecDepth 20000 in
theorem gX3_letterChosenBehind_X3_scoreOfLetter : GoodIn wsX3_letterChosenBehind (va_wsS RX3 43 yX3_scoreOfLetter wsX3_scoreOfLetter) := goodIn_app (goodIn_of _ (by decide +kernel)) ggX3_letterChosenBehind_X3_scoreOfLetter
theorem dX3_letterChosenBehind_0 : decode cX3_letterChosenBehind 0 = .ok (.aload_n 0, 1) := by decide +kernel
theorem dX3_letterChosenBehind_1 : decode cX3_letterChosenBehind 1 = .ok (.lload_n 1, 1) := by decide +kernel
theorem dX3_letterChosenBehind_2 : decode cX3_letterChosenBehind 2 = .ok (.invokestatic 35, 3) := by decide +kernel
theorem dX3_letterChosenBehind_5 : decode cX3_letterChosenBehind 5 = .ok (.istore_n 3, 1) := by decide +kernel
theorem dX3_letterChosenBehind_6 : decode cX3_letterChosenBehind 6 = .ok (.aload_n 0, 1) := by decide +kernel
theorem dX3_letterChosenBehind_7 : decode cX3_letterChosenBehind 7 = .ok (.lload_n 1, 1) := by decide +kernel
theorem dX3_letterChosenBehind_8 : decode cX3_letterChosenBehind 8 = .ok (.invokestatic 47, 3) := by decide +kernel
theorem dX3_letterChosenBehind_11 : decode cX3_letterChosenBehind 11 = .ok (.istore 4, 2) := by decide +kernel
theorem dX3_letterChosenBehind_13 : decode cX3_letterChosenBehind 13 = .ok (.iconst 0, 1) := by decide +kernel
theorem dX3_letterChosenBehind_14 : decode cX3_letterChosenBehind 14 = .ok (.istore 5, 2) := by decide +kernel
theorem dX3_letterChosenBehind_16 : decode cX3_letterChosenBehind 16 = .ok (.iload 5, 2) := by decide +kernel
theorem dX3_letterChosenBehind_18 : decode cX3_letterChosenBehind 18 = .ok (.bipush 26, 2) := by decide +kernel
theorem dX3_letterChosenBehind_20 : decode cX3_letterChosenBehind 20 = .ok (.if_icmp .ge 33, 3) := by decide +kernel
theorem dX3_letterChosenBehind_23 : decode cX3_letterChosenBehind 23 = .ok (.iload_n 3, 1) := by decide +kernel
theorem dX3_letterChosenBehind_24 : decode cX3_letterChosenBehind 24 = .ok (.iload 5, 2) := by decide +kernel
theorem dX3_letterChosenBehind_26 : decode cX3_letterChosenBehind 26 = .ok (.invokestatic 39, 3) := by decide +kernel
theorem dX3_letterChosenBehind_29 : decode cX3_letterChosenBehind 29 = .ok (.ifCond .eq 18, 3) := by decide +kernel
theorem dX3_letterChosenBehind_32 : decode cX3_letterChosenBehind 32 = .ok (.aload_n 0, 1) := by decide +kernel
theorem dX3_letterChosenBehind_33 : decode cX3_letterChosenBehind 33 = .ok (.lload_n 1, 1) := by decide +kernel
theorem dX3_letterChosenBehind_34 : decode cX3_letterChosenBehind 34 = .ok (.iload 5, 2) := by decide +kernel
theorem dX3_letterChosenBehind_36 : decode cX3_letterChosenBehind 36 = .ok (.invokestatic 43, 3) := by decide +kernel
theorem dX3_letterChosenBehind_39 : decode cX3_letterChosenBehind 39 = .ok (.iload 4, 2) := by decide +kernel
theorem dX3_letterChosenBehind_41 : decode cX3_letterChosenBehind 41 = .ok (.if_icmp .ne 6, 3) := by decide +kernel
theorem dX3_letterChosenBehind_44 : decode cX3_letterChosenBehind 44 = .ok (.iload 5, 2) := by decide +kernel
theorem dX3_letterChosenBehind_46 : decode cX3_letterChosenBehind 46 = .ok (.ireturn, 1) := by decide +kernel
theorem dX3_letterChosenBehind_47 : decode cX3_letterChosenBehind 47 = .ok (.iinc 5 1, 3) := by decide +kernel
theorem dX3_letterChosenBehind_50 : decode cX3_letterChosenBehind 50 = .ok (.goto (-34), 3) := by decide +kernel
theorem dX3_letterChosenBehind_53 : decode cX3_letterChosenBehind 53 = .ok (.iconst (-1), 1) := by decide +kernel
theorem dX3_letterChosenBehind_54 : decode cX3_letterChosenBehind 54 = .ok (.ireturn, 1) := by decide +kernel
set_option maxRecDepth 20000 in
theorem ggX3_countWays_X0_size : GoodIn wsX3_countWays wsX0_size := goodIn_r _ [5, 6, 53, 54, 55] (by decide +kernel) (by decide +kernel)
set_option maxRecDepth 20000 in
theorem gX3_countWays_X0_size : GoodIn wsX3_countWays (wsV RX3 9 RX0 yX0_size wsX0_size) := goodIn_app (goodIn_of _ (by decide +kernel)) ggX3_countWays_X0_size
set_option maxRecDepth 20000 in
theorem ggX3_countWays_X0_wordAt : GoodIn wsX3_countWays wsX0_wordAt := goodIn_r _ [10, 6, 11, 53, 54, 55] (by decide +kernel) (by decide +kernel)
set_option maxRecDepth 20000 in
theorem gX3_countWays_X0_wordAt : GoodIn wsX3_countWays (wsV RX3 15 RX0 yX0_wordAt wsX0_wordAt) := goodIn_app (goodIn_of _ (by decide +kernel)) ggX3_countWays_X0_wordAt
set_option maxRecDepth 20000 in
theorem ggX3_countWays_X3_isWay : GoodIn wsX3_countWays wsX3_isWay := goodIn_r _ [15, 16, 17, 14, 18, 19, 20, 21, 4, 22, 23, 24, 25, 26, 27, 28, 29, 30, 31, 32, 33, 34, 35, 36, 37, 38, 39, 40, 41, 42, 43, 44, 45, 46, 47, 48, 49, 50, 51, 52, 6, 11, 53, 54, 55] (by decide +kernel) (by decide +kernel)
set_option maxRecDepth 20000 in
theorem gX3_countWays_X3_isWay : GoodIn wsX3_countWays (va_wsS RX3 56 yX3_isWay wsX3_isWay) := goodIn_app (goodIn_of _ (by decide +kernel)) ggX3_countWays_X3_isWay
theorem dX3_countWays_0 : decode cX3_countWays 0 = .ok (.iconst 0, 1) := by decide +kernel
theorem dX3_countWays_1 : decode cX3_countWays 1 = .ok (.istore_n 3, 1) := by decide +kernel
theorem dX3_countWays_2 : decode cX3_countWays 2 = .ok (.iconst 0, 1) := by decide +kernel
theorem dX3_countWays_3 : decode cX3_countWays 3 = .ok (.istore 4, 2) := by decide +kernel
theorem dX3_countWays_5 : decode cX3_countWays 5 = .ok (.iload 4, 2) := by decide +kernel
theorem dX3_countWays_7 : decode cX3_countWays 7 = .ok (.aload_n 0, 1) := by decide +kernel
theorem dX3_countWays_8 : decode cX3_countWays 8 = .ok (.invokevirtual 9, 3) := by decide +kernel
theorem dX3_countWays_11 : decode cX3_countWays 11 = .ok (.if_icmp .ge 26, 3) := by decide +kernel
theorem dX3_countWays_14 : decode cX3_countWays 14 = .ok (.aload_n 0, 1) := by decide +kernel
theorem dX3_countWays_15 : decode cX3_countWays 15 = .ok (.aload_n 0, 1) := by decide +kernel
theorem dX3_countWays_16 : decode cX3_countWays 16 = .ok (.iload 4, 2) := by decide +kernel
theorem dX3_countWays_18 : decode cX3_countWays 18 = .ok (.invokevirtual 15, 3) := by decide +kernel
theorem dX3_countWays_21 : decode cX3_countWays 21 = .ok (.lload_n 1, 1) := by decide +kernel
theorem dX3_countWays_22 : decode cX3_countWays 22 = .ok (.invokestatic 56, 3) := by decide +kernel
theorem dX3_countWays_25 : decode cX3_countWays 25 = .ok (.ifCond .eq 6, 3) := by decide +kernel
theorem dX3_countWays_28 : decode cX3_countWays 28 = .ok (.iinc 3 1, 3) := by decide +kernel
theorem dX3_countWays_31 : decode cX3_countWays 31 = .ok (.iinc 4 1, 3) := by decide +kernel
theorem dX3_countWays_34 : decode cX3_countWays 34 = .ok (.goto (-29), 3) := by decide +kernel
theorem dX3_countWays_37 : decode cX3_countWays 37 = .ok (.iload_n 3, 1) := by decide +kernel
theorem dX3_countWays_38 : decode cX3_countWays 38 = .ok (.ireturn, 1) := by decide +kernel
set_option maxRecDepth 20000 in
theorem ggX3_countWonWays_X0_size : GoodIn wsX3_countWonWays wsX0_size := goodIn_r _ [5, 6, 56, 57, 58] (by decide +kernel) (by decide +kernel)
set_option maxRecDepth 20000 in
theorem gX3_countWonWays_X0_size : GoodIn wsX3_countWonWays (wsV RX3 9 RX0 yX0_size wsX0_size) := goodIn_app (goodIn_of _ (by decide +kernel)) ggX3_countWonWays_X0_size
set_option maxRecDepth 20000 in
theorem ggX3_countWonWays_X0_wordAt : GoodIn wsX3_countWonWays wsX0_wordAt := goodIn_r _ [10, 6, 11, 56, 57, 58] (by decide +kernel) (by decide +kernel)
set_option maxRecDepth 20000 in
theorem gX3_countWonWays_X0_wordAt : GoodIn wsX3_countWonWays (wsV RX3 15 RX0 yX0_wordAt wsX0_wordAt) := goodIn_app (goodIn_of _ (by decide +kernel)) ggX3_countWonWays_X0_wordAt
set_option maxRecDepth 20000 in
theorem ggX3_countWonWays_X3_isWay : GoodIn wsX3_countWonWays wsX3_isWay := goodIn_r _ [15, 16, 17, 14, 18, 19, 20, 21, 4, 22, 23, 24, 25, 26, 27, 28, 29, 30, 31, 32, 33, 34, 35, 36, 37, 38, 39, 40, 41, 42, 43, 44, 45, 46, 47, 48, 49, 50, 51, 52, 6, 11, 56, 57, 58] (by decide +kernel) (by decide +kernel)
set_option maxRecDepth 20000 in
theorem gX3_countWonWays_X3_isWay : GoodIn wsX3_countWonWays (va_wsS RX3 56 yX3_isWay wsX3_isWay) := goodIn_app (goodIn_of _ (by decide +kernel)) ggX3_countWonWays_X3_isWay
set_option maxRecDepth 20000 in
theorem ggX3_countWonWays_X3_otherSideCompletes : GoodIn wsX3_countWonWays wsX3_otherSideCompletes := goodIn_r _ [55, 33, 25, 26, 27] (by decide +kernel) (by decide +kernel)
set_option maxRecDepth 20000 in
theorem gX3_countWonWays_X3_otherSideCompletes : GoodIn wsX3_countWonWays (va_wsS RX3 59 yX3_otherSideCompletes wsX3_otherSideCompletes) := goodIn_app (goodIn_of _ (by decide +kernel)) ggX3_countWonWays_X3_otherSideCompletes
theorem dX3_countWonWays_0 : decode cX3_countWonWays 0 = .ok (.iconst 0, 1) := by decide +kernel
theorem dX3_countWonWays_1 : decode cX3_countWonWays 1 = .ok (.istore_n 3, 1) := by decide +kernel
theorem dX3_countWonWays_2 : decode cX3_countWonWays 2 = .ok (.iconst 0, 1) := by decide +kernel
theorem dX3_countWonWays_3 : decode cX3_countWonWays 3 = .ok (.istore 4, 2) := by decide +kernel
theorem dX3_countWonWays_5 : decode cX3_countWonWays 5 = .ok (.iload 4, 2) := by decide +kernel
theorem dX3_countWonWays_7 : decode cX3_countWonWays 7 = .ok (.aload_n 0, 1) := by decide +kernel
theorem dX3_countWonWays_8 : decode cX3_countWonWays 8 = .ok (.invokevirtual 9, 3) := by decide +kernel
theorem dX3_countWonWays_11 : decode cX3_countWonWays 11 = .ok (.if_icmp .ge 39, 3) := by decide +kernel
theorem dX3_countWonWays_14 : decode cX3_countWonWays 14 = .ok (.aload_n 0, 1) := by decide +kernel
theorem dX3_countWonWays_15 : decode cX3_countWonWays 15 = .ok (.iload 4, 2) := by decide +kernel
theorem dX3_countWonWays_17 : decode cX3_countWonWays 17 = .ok (.invokevirtual 15, 3) := by decide +kernel
theorem dX3_countWonWays_20 : decode cX3_countWonWays 20 = .ok (.lstore 5, 2) := by decide +kernel
theorem dX3_countWonWays_22 : decode cX3_countWonWays 22 = .ok (.aload_n 0, 1) := by decide +kernel
theorem dX3_countWonWays_23 : decode cX3_countWonWays 23 = .ok (.lload 5, 2) := by decide +kernel
theorem dX3_countWonWays_25 : decode cX3_countWonWays 25 = .ok (.lload_n 1, 1) := by decide +kernel
theorem dX3_countWonWays_26 : decode cX3_countWonWays 26 = .ok (.invokestatic 56, 3) := by decide +kernel
theorem dX3_countWonWays_29 : decode cX3_countWonWays 29 = .ok (.ifCond .eq 15, 3) := by decide +kernel
theorem dX3_countWonWays_32 : decode cX3_countWonWays 32 = .ok (.lload 5, 2) := by decide +kernel
theorem dX3_countWonWays_34 : decode cX3_countWonWays 34 = .ok (.lload_n 1, 1) := by decide +kernel
theorem dX3_countWonWays_35 : decode cX3_countWonWays 35 = .ok (.invokestatic 59, 3) := by decide +kernel
theorem dX3_countWonWays_38 : decode cX3_countWonWays 38 = .ok (.ifCond .eq 6, 3) := by decide +kernel
theorem dX3_countWonWays_41 : decode cX3_countWonWays 41 = .ok (.iinc 3 1, 3) := by decide +kernel
theorem dX3_countWonWays_44 : decode cX3_countWonWays 44 = .ok (.iinc 4 1, 3) := by decide +kernel
theorem dX3_countWonWays_47 : decode cX3_countWonWays 47 = .ok (.goto (-42), 3) := by decide +kernel
theorem dX3_countWonWays_50 : decode cX3_countWonWays 50 = .ok (.iload_n 3, 1) := by decide +kernel
theorem dX3_countWonWays_51 : decode cX3_countWonWays 51 = .ok (.ireturn, 1) := by decide +kernel
set_option maxRecDepth 20000 in
theorem ggX3_score_X2_isFull : GoodIn wsX3_score wsX2_isFull := goodIn_r _ [8, 9, 10, 7, 11] (by decide +kernel) (by decide +kernel)
set_option maxRecDepth 20000 in
theorem gX3_score_X2_isFull : GoodIn wsX3_score (va_wsS RX3 63 yX2_isFull wsX2_isFull) := goodIn_app (goodIn_of _ (by decide +kernel)) ggX3_score_X2_isFull
set_option maxRecDepth 20000 in
theorem ggX3_score_X3_lettersOpenBehind : GoodIn wsX3_score wsX3_lettersOpenBehind := goodIn_r _ [15, 16, 17, 18, 19, 20, 21, 22, 23, 24, 25, 26, 27, 28, 14, 29, 30, 31, 32, 33, 34, 35, 10, 7, 11, 36, 37, 38, 39, 9, 40, 41, 42, 43, 71, 72, 73] (by decide +kernel) (by decide +kernel)
set_option maxRecDepth 20000 in
theorem gX3_score_X3_lettersOpenBehind : GoodIn wsX3_score (va_wsS RX3 35 yX3_lettersOpenBehind wsX3_lettersOpenBehind) := goodIn_app (goodIn_of _ (by decide +kernel)) ggX3_score_X3_lettersOpenBehind
set_option maxRecDepth 20000 in
theorem ggX3_score_X3_isIn : GoodIn wsX3_score wsX3_isIn := goodIn_r _ [46] (by decide +kernel) (by decide +kernel)
set_option maxRecDepth 20000 in
theorem gX3_score_X3_isIn : GoodIn wsX3_score (va_wsS RX3 39 yX3_isIn wsX3_isIn) := goodIn_app (goodIn_of _ (by decide +kernel)) ggX3_score_X3_isIn
set_option maxRecDepth 20000 in
theorem ggX3_score_X3_scoreOfLetter : GoodIn wsX3_score wsX3_scoreOfLetter := goodIn_r _ [49, 50, 51, 7, 52, 39, 9, 10, 11, 53, 54, 55, 56, 57, 58, 19, 59, 60, 31, 32, 33, 34, 35, 61, 62, 63, 64, 65, 66, 67, 68, 21, 26, 69, 70, 14, 0, 1, 2, 3, 4, 5, 6, 8, 12, 13, 15, 16, 17, 18, 20, 22, 23, 24, 25, 27, 28, 29, 30, 36, 37, 38, 40, 41, 42, 43, 44, 45, 46, 47, 48, 71, 72, 73] (by decide +kernel) (by decide +kernel)
set_option maxRecDepth 20000 in
theorem gX3_score_X3_scoreOfLetter : GoodIn wsX3_score (va_wsS RX3 43 yX3_scoreOfLetter wsX3_scoreOfLetter) := goodIn_app (goodIn_of _ (by decide +kernel)) ggX3_score_X3_scoreOfLetter
theorem dX3_score_0 : decode cX3_score 0 = .ok (.lload_n 1, 1) := by decide +kernel
theorem dX3_score_1 : decode cX3_score 1 = .ok (.invokestatic 63, 3) := by decide +kernel
theorem dX3_score_4 : decode cX3_score 4 = .ok (.ifCond .eq 7, 3) := by decide +kernel
theorem dX3_score_7 : decode cX3_score 7 = .ok (.iconst 0, 1) := by decide +kernel
theorem dX3_score_8 : decode cX3_score 8 = .ok (.goto 8, 3) := by decide +kernel
theorem dX3_score_11 : decode cX3_score 11 = .ok (.aload_n 0, 1) := by decide +kernel
theorem dX3_score_12 : decode cX3_score 12 = .ok (.lload_n 1, 1) := by decide +kernel
theorem dX3_score_13 : decode cX3_score 13 = .ok (.invokestatic 35, 3) := by decide +kernel
theorem dX3_score_16 : decode cX3_score 16 = .ok (.istore_n 3, 1) := by decide +kernel
theorem dX3_score_17 : decode cX3_score 17 = .ok (.iload_n 3, 1) := by decide +kernel
theorem dX3_score_18 : decode cX3_score 18 = .ok (.ifCond .ne 6, 3) := by decide +kernel
theorem dX3_score_21 : decode cX3_score 21 = .ok (.bipush 100, 2) := by decide +kernel
theorem dX3_score_23 : decode cX3_score 23 = .ok (.ireturn, 1) := by decide +kernel
theorem dX3_score_24 : decode cX3_score 24 = .ok (.bipush (-100), 2) := by decide +kernel
theorem dX3_score_26 : decode cX3_score 26 = .ok (.istore 4, 2) := by decide +kernel
theorem dX3_score_28 : decode cX3_score 28 = .ok (.iconst 0, 1) := by decide +kernel
theorem dX3_score_29 : decode cX3_score 29 = .ok (.istore 5, 2) := by decide +kernel
theorem dX3_score_31 : decode cX3_score 31 = .ok (.iload 5, 2) := by decide +kernel
theorem dX3_score_33 : decode cX3_score 33 = .ok (.bipush 26, 2) := by decide +kernel
theorem dX3_score_35 : decode cX3_score 35 = .ok (.if_icmp .ge 32, 3) := by decide +kernel
theorem dX3_score_38 : decode cX3_score 38 = .ok (.iload_n 3, 1) := by decide +kernel
theorem dX3_score_39 : decode cX3_score 39 = .ok (.iload 5, 2) := by decide +kernel
theorem dX3_score_41 : decode cX3_score 41 = .ok (.invokestatic 39, 3) := by decide +kernel
theorem dX3_score_44 : decode cX3_score 44 = .ok (.ifCond .eq 17, 3) := by decide +kernel
theorem dX3_score_47 : decode cX3_score 47 = .ok (.iload 4, 2) := by decide +kernel
theorem dX3_score_49 : decode cX3_score 49 = .ok (.aload_n 0, 1) := by decide +kernel
theorem dX3_score_50 : decode cX3_score 50 = .ok (.lload_n 1, 1) := by decide +kernel
theorem dX3_score_51 : decode cX3_score 51 = .ok (.iload 5, 2) := by decide +kernel
theorem dX3_score_53 : decode cX3_score 53 = .ok (.invokestatic 43, 3) := by decide +kernel
theorem dX3_score_56 : decode cX3_score 56 = .ok (.invokestatic 67, 3) := by decide +kernel
theorem dX3_score_59 : decode cX3_score 59 = .ok (.istore 4, 2) := by decide +kernel
theorem dX3_score_61 : decode cX3_score 61 = .ok (.iinc 5 1, 3) := by decide +kernel
theorem dX3_score_64 : decode cX3_score 64 = .ok (.goto (-33), 3) := by decide +kernel
theorem dX3_score_67 : decode cX3_score 67 = .ok (.iload 4, 2) := by decide +kernel
theorem dX3_score_69 : decode cX3_score 69 = .ok (.ireturn, 1) := by decide +kernel
set_option maxRecDepth 20000 in
theorem ggX3_scoreOfLetter_X2_with : GoodIn wsX3_scoreOfLetter wsX2_with := goodIn_r _ [4, 5, 6, 7, 3, 8, 9, 10, 11] (by decide +kernel) (by decide +kernel)
set_option maxRecDepth 20000 in
theorem gX3_scoreOfLetter_X2_with : GoodIn wsX3_scoreOfLetter (va_wsS RX3 71 yX2_with wsX2_with) := goodIn_app (goodIn_of _ (by decide +kernel)) ggX3_scoreOfLetter_X2_with
set_option maxRecDepth 20000 in
theorem ggX3_scoreOfLetter_X0_hasCounting : GoodIn wsX3_scoreOfLetter wsX0_hasCounting := goodIn_r _ [16, 17, 18, 19, 15, 20, 21, 22, 7, 3, 8, 23, 24, 25, 26, 27, 28, 29, 30, 31, 32, 71, 72, 73] (by decide +kernel) (by decide +kernel)
set_option maxRecDepth 20000 in
theorem gX3_scoreOfLetter_X0_hasCounting : GoodIn wsX3_scoreOfLetter (wsV RX3 75 RX0 yX0_hasCounting wsX0_hasCounting) := goodIn_app (goodIn_of _ (by decide +kernel)) ggX3_scoreOfLetter_X0_hasCounting
set_option maxRecDepth 20000 in
theorem ggX3_scoreOfLetter_X3_score : GoodIn wsX3_scoreOfLetter wsX3_score := goodIn_r _ [36, 37, 38, 39, 40, 41, 42, 3, 43, 6, 7, 8, 44, 45, 35, 46, 47, 48, 49, 15, 50, 31, 51, 52, 53, 54, 32, 55, 56, 57, 58, 18, 19, 20, 21, 22, 59, 60, 61, 5, 62, 63, 64, 65, 66, 67, 68, 69, 70, 0, 1, 2, 4, 9, 10, 11, 12, 13, 14, 16, 17, 23, 24, 25, 26, 27, 28, 29, 30, 33, 34, 71, 72, 73] (by decide +kernel) (by decide +kernel)
set_option maxRecDepth 20000 in
theorem gX3_scoreOfLetter_X3_score : GoodIn wsX3_scoreOfLetter (va_wsS RX3 47 yX3_score wsX3_score) := goodIn_app (goodIn_of _ (by decide +kernel)) ggX3_scoreOfLetter_X3_score
theorem dX3_scoreOfLetter_0 : decode cX3_scoreOfLetter 0 = .ok (.lload_n 1, 1) := by decide +kernel
theorem dX3_scoreOfLetter_1 : decode cX3_scoreOfLetter 1 = .ok (.iload_n 3, 1) := by decide +kernel
theorem dX3_scoreOfLetter_2 : decode cX3_scoreOfLetter 2 = .ok (.invokestatic 71, 3) := by decide +kernel
theorem dX3_scoreOfLetter_5 : decode cX3_scoreOfLetter 5 = .ok (.lstore 4, 2) := by decide +kernel
theorem dX3_scoreOfLetter_7 : decode cX3_scoreOfLetter 7 = .ok (.aload_n 0, 1) := by decide +kernel
theorem dX3_scoreOfLetter_8 : decode cX3_scoreOfLetter 8 = .ok (.lload 4, 2) := by decide +kernel
theorem dX3_scoreOfLetter_10 : decode cX3_scoreOfLetter 10 = .ok (.invokevirtual 75, 3) := by decide +kernel
theorem dX3_scoreOfLetter_13 : decode cX3_scoreOfLetter 13 = .ok (.ifCond .eq 8, 3) := by decide +kernel
theorem dX3_scoreOfLetter_16 : decode cX3_scoreOfLetter 16 = .ok (.bipush 100, 2) := by decide +kernel
theorem dX3_scoreOfLetter_18 : decode cX3_scoreOfLetter 18 = .ok (.goto 9, 3) := by decide +kernel
theorem dX3_scoreOfLetter_21 : decode cX3_scoreOfLetter 21 = .ok (.aload_n 0, 1) := by decide +kernel
theorem dX3_scoreOfLetter_22 : decode cX3_scoreOfLetter 22 = .ok (.lload 4, 2) := by decide +kernel
theorem dX3_scoreOfLetter_24 : decode cX3_scoreOfLetter 24 = .ok (.invokestatic 47, 3) := by decide +kernel
theorem dX3_scoreOfLetter_27 : decode cX3_scoreOfLetter 27 = .ok (.istore 6, 2) := by decide +kernel
theorem dX3_scoreOfLetter_29 : decode cX3_scoreOfLetter 29 = .ok (.iload 6, 2) := by decide +kernel
theorem dX3_scoreOfLetter_31 : decode cX3_scoreOfLetter 31 = .ok (.ifCond .le 10, 3) := by decide +kernel
theorem dX3_scoreOfLetter_34 : decode cX3_scoreOfLetter 34 = .ok (.iconst 1, 1) := by decide +kernel
theorem dX3_scoreOfLetter_35 : decode cX3_scoreOfLetter 35 = .ok (.iload 6, 2) := by decide +kernel
theorem dX3_scoreOfLetter_37 : decode cX3_scoreOfLetter 37 = .ok (.isub, 1) := by decide +kernel
theorem dX3_scoreOfLetter_38 : decode cX3_scoreOfLetter 38 = .ok (.goto 7, 3) := by decide +kernel
theorem dX3_scoreOfLetter_41 : decode cX3_scoreOfLetter 41 = .ok (.iconst (-1), 1) := by decide +kernel
theorem dX3_scoreOfLetter_42 : decode cX3_scoreOfLetter 42 = .ok (.iload 6, 2) := by decide +kernel
theorem dX3_scoreOfLetter_44 : decode cX3_scoreOfLetter 44 = .ok (.isub, 1) := by decide +kernel
theorem dX3_scoreOfLetter_45 : decode cX3_scoreOfLetter 45 = .ok (.ireturn, 1) := by decide +kernel
set_option maxRecDepth 20000 in
theorem ggX3_leadsOn_X0_isLongEnough : GoodIn wsX3_leadsOn wsX0_isLongEnough := goodIn_r _ [5, 6, 7, 8, 9, 10, 16, 17, 18] (by decide +kernel) (by decide +kernel)
set_option maxRecDepth 20000 in
theorem gX3_leadsOn_X0_isLongEnough : GoodIn wsX3_leadsOn (wsV RX3 78 RX0 yX0_isLongEnough wsX0_isLongEnough) := goodIn_app (goodIn_of _ (by decide +kernel)) ggX3_leadsOn_X0_isLongEnough
set_option maxRecDepth 20000 in
theorem ggX3_leadsOn_X2_beginsWith : GoodIn wsX3_leadsOn wsX2_beginsWith := goodIn_r _ [13, 14, 15, 8, 9, 10] (by decide +kernel) (by decide +kernel)
set_option maxRecDepth 20000 in
theorem gX3_leadsOn_X2_beginsWith : GoodIn wsX3_leadsOn (va_wsS RX3 81 yX2_beginsWith wsX2_beginsWith) := goodIn_app (goodIn_of _ (by decide +kernel)) ggX3_leadsOn_X2_beginsWith
theorem dX3_leadsOn_0 : decode cX3_leadsOn 0 = .ok (.aload_n 0, 1) := by decide +kernel
theorem dX3_leadsOn_1 : decode cX3_leadsOn 1 = .ok (.lload_n 1, 1) := by decide +kernel
theorem dX3_leadsOn_2 : decode cX3_leadsOn 2 = .ok (.invokevirtual 78, 3) := by decide +kernel
theorem dX3_leadsOn_5 : decode cX3_leadsOn 5 = .ok (.ifCond .eq 21, 3) := by decide +kernel
theorem dX3_leadsOn_8 : decode cX3_leadsOn 8 = .ok (.lload_n 1, 1) := by decide +kernel
theorem dX3_leadsOn_9 : decode cX3_leadsOn 9 = .ok (.lload_n 3, 1) := by decide +kernel
theorem dX3_leadsOn_10 : decode cX3_leadsOn 10 = .ok (.lcmp, 1) := by decide +kernel
theorem dX3_leadsOn_11 : decode cX3_leadsOn 11 = .ok (.ifCond .eq 15, 3) := by decide +kernel
theorem dX3_leadsOn_14 : decode cX3_leadsOn 14 = .ok (.lload_n 1, 1) := by decide +kernel
theorem dX3_leadsOn_15 : decode cX3_leadsOn 15 = .ok (.lload_n 3, 1) := by decide +kernel
theorem dX3_leadsOn_16 : decode cX3_leadsOn 16 = .ok (.invokestatic 81, 3) := by decide +kernel
theorem dX3_leadsOn_19 : decode cX3_leadsOn 19 = .ok (.ifCond .eq 7, 3) := by decide +kernel
theorem dX3_leadsOn_22 : decode cX3_leadsOn 22 = .ok (.iconst 1, 1) := by decide +kernel
theorem dX3_leadsOn_23 : decode cX3_leadsOn 23 = .ok (.goto 4, 3) := by decide +kernel
theorem dX3_leadsOn_26 : decode cX3_leadsOn 26 = .ok (.iconst 0, 1) := by decide +kernel
theorem dX3_leadsOn_27 : decode cX3_leadsOn 27 = .ok (.ireturn, 1) := by decide +kernel
set_option maxRecDepth 20000 in
theorem ggX3_isWay_X3_leadsOn : GoodIn wsX3_isWay wsX3_leadsOn := goodIn_r _ [4, 5, 6, 7, 8, 9, 10, 11, 12, 13, 14, 15, 16, 17, 18, 19, 42, 43, 44] (by decide +kernel) (by decide +kernel)
set_option maxRecDepth 20000 in
theorem gX3_isWay_X3_leadsOn : GoodIn wsX3_isWay (va_wsS RX3 19 yX3_leadsOn wsX3_leadsOn) := goodIn_app (goodIn_of _ (by decide +kernel)) ggX3_isWay_X3_leadsOn
set_option maxRecDepth 20000 in
theorem ggX3_isWay_X2_lengthOf : GoodIn wsX3_isWay wsX2_lengthOf := goodIn_r _ [14] (by decide +kernel) (by decide +kernel)
set_option maxRecDepth 20000 in
theorem gX3_isWay_X2_lengthOf : GoodIn wsX3_isWay (va_wsS RX3 25 yX2_lengthOf wsX2_lengthOf) := goodIn_app (goodIn_of _ (by decide +kernel)) ggX3_isWay_X2_lengthOf
set_option maxRecDepth 20000 in
theorem ggX3_isWay_X2_beginning : GoodIn wsX3_isWay wsX2_beginning := goodIn_r _ [23, 18, 19, 12, 13, 14, 24, 25, 26] (by decide +kernel) (by decide +kernel)
set_option maxRecDepth 20000 in
theorem gX3_isWay_X2_beginning : GoodIn wsX3_isWay (va_wsS RX3 84 yX2_beginning wsX2_beginning) := goodIn_app (goodIn_of _ (by decide +kernel)) ggX3_isWay_X2_beginning
set_option maxRecDepth 20000 in
theorem ggX3_isWay_X0_hasCounting : GoodIn wsX3_isWay wsX0_hasCounting := goodIn_r _ [30, 31, 6, 7, 8, 9, 10, 11, 12, 13, 14, 32, 33, 34, 35, 36, 37, 38, 39, 40, 41, 42, 43, 44] (by decide +kernel) (by decide +kernel)
set_option maxRecDepth 20000 in
theorem gX3_isWay_X0_hasCounting : GoodIn wsX3_isWay (wsV RX3 75 RX0 yX0_hasCounting wsX0_hasCounting) := goodIn_app (goodIn_of _ (by decide +kernel)) ggX3_isWay_X0_hasCounting
theorem dX3_isWay_0 : decode cX3_isWay 0 = .ok (.aload_n 0, 1) := by decide +kernel
theorem dX3_isWay_1 : decode cX3_isWay 1 = .ok (.lload_n 1, 1) := by decide +kernel
theorem dX3_isWay_2 : decode cX3_isWay 2 = .ok (.lload_n 3, 1) := by decide +kernel
theorem dX3_isWay_3 : decode cX3_isWay 3 = .ok (.invokestatic 19, 3) := by decide +kernel
theorem dX3_isWay_6 : decode cX3_isWay 6 = .ok (.ifCond .ne 5, 3) := by decide +kernel
theorem dX3_isWay_9 : decode cX3_isWay 9 = .ok (.iconst 0, 1) := by decide +kernel
theorem dX3_isWay_10 : decode cX3_isWay 10 = .ok (.ireturn, 1) := by decide +kernel
theorem dX3_isWay_11 : decode cX3_isWay 11 = .ok (.lload_n 3, 1) := by decide +kernel
theorem dX3_isWay_12 : decode cX3_isWay 12 = .ok (.invokestatic 25, 3) := by decide +kernel
theorem dX3_isWay_15 : decode cX3_isWay 15 = .ok (.iconst 1, 1) := by decide +kernel
theorem dX3_isWay_16 : decode cX3_isWay 16 = .ok (.iadd, 1) := by decide +kernel
theorem dX3_isWay_17 : decode cX3_isWay 17 = .ok (.istore 5, 2) := by decide +kernel
theorem dX3_isWay_19 : decode cX3_isWay 19 = .ok (.iload 5, 2) := by decide +kernel
theorem dX3_isWay_21 : decode cX3_isWay 21 = .ok (.lload_n 1, 1) := by decide +kernel
theorem dX3_isWay_22 : decode cX3_isWay 22 = .ok (.invokestatic 25, 3) := by decide +kernel
theorem dX3_isWay_25 : decode cX3_isWay 25 = .ok (.if_icmp .ge 24, 3) := by decide +kernel
theorem dX3_isWay_28 : decode cX3_isWay 28 = .ok (.aload_n 0, 1) := by decide +kernel
theorem dX3_isWay_29 : decode cX3_isWay 29 = .ok (.lload_n 1, 1) := by decide +kernel
theorem dX3_isWay_30 : decode cX3_isWay 30 = .ok (.iload 5, 2) := by decide +kernel
theorem dX3_isWay_32 : decode cX3_isWay 32 = .ok (.invokestatic 84, 3) := by decide +kernel
theorem dX3_isWay_35 : decode cX3_isWay 35 = .ok (.invokevirtual 75, 3) := by decide +kernel
theorem dX3_isWay_38 : decode cX3_isWay 38 = .ok (.ifCond .eq 5, 3) := by decide +kernel
theorem dX3_isWay_41 : decode cX3_isWay 41 = .ok (.iconst 0, 1) := by decide +kernel
theorem dX3_isWay_42 : decode cX3_isWay 42 = .ok (.ireturn, 1) := by decide +kernel
theorem dX3_isWay_43 : decode cX3_isWay 43 = .ok (.iinc 5 1, 3) := by decide +kernel
theorem dX3_isWay_46 : decode cX3_isWay 46 = .ok (.goto (-27), 3) := by decide +kernel
theorem dX3_isWay_49 : decode cX3_isWay 49 = .ok (.iconst 1, 1) := by decide +kernel
theorem dX3_isWay_50 : decode cX3_isWay 50 = .ok (.ireturn, 1) := by decide +kernel
set_option maxRecDepth 20000 in
theorem ggX3_otherSideCompletes_X2_lengthOf : GoodIn wsX3_otherSideCompletes wsX2_lengthOf := goodIn_r _ [4] (by decide +kernel) (by decide +kernel)
set_option maxRecDepth 20000 in
theorem gX3_otherSideCompletes_X2_lengthOf : GoodIn wsX3_otherSideCompletes (va_wsS RX3 25 yX2_lengthOf wsX2_lengthOf) := goodIn_app (goodIn_of _ (by decide +kernel)) ggX3_otherSideCompletes_X2_lengthOf
theorem dX3_otherSideCompletes_0 : decode cX3_otherSideCompletes 0 = .ok (.lload_n 0, 1) := by decide +kernel
theorem dX3_otherSideCompletes_1 : decode cX3_otherSideCompletes 1 = .ok (.invokestatic 25, 3) := by decide +kernel
theorem dX3_otherSideCompletes_4 : decode cX3_otherSideCompletes 4 = .ok (.lload_n 2, 1) := by decide +kernel
theorem dX3_otherSideCompletes_5 : decode cX3_otherSideCompletes 5 = .ok (.invokestatic 25, 3) := by decide +kernel
theorem dX3_otherSideCompletes_8 : decode cX3_otherSideCompletes 8 = .ok (.isub, 1) := by decide +kernel
theorem dX3_otherSideCompletes_9 : decode cX3_otherSideCompletes 9 = .ok (.iconst 2, 1) := by decide +kernel
theorem dX3_otherSideCompletes_10 : decode cX3_otherSideCompletes 10 = .ok (.irem, 1) := by decide +kernel
theorem dX3_otherSideCompletes_11 : decode cX3_otherSideCompletes 11 = .ok (.ifCond .ne 7, 3) := by decide +kernel
theorem dX3_otherSideCompletes_14 : decode cX3_otherSideCompletes 14 = .ok (.iconst 1, 1) := by decide +kernel
theorem dX3_otherSideCompletes_15 : decode cX3_otherSideCompletes 15 = .ok (.goto 4, 3) := by decide +kernel
theorem dX3_otherSideCompletes_18 : decode cX3_otherSideCompletes 18 = .ok (.iconst 0, 1) := by decide +kernel
theorem dX3_otherSideCompletes_19 : decode cX3_otherSideCompletes 19 = .ok (.ireturn, 1) := by decide +kernel
theorem dX3_isIn_0 : decode cX3_isIn 0 = .ok (.iload_n 0, 1) := by decide +kernel
theorem dX3_isIn_1 : decode cX3_isIn 1 = .ok (.iload_n 1, 1) := by decide +kernel
theorem dX3_isIn_2 : decode cX3_isIn 2 = .ok (.ishr, 1) := by decide +kernel
theorem dX3_isIn_3 : decode cX3_isIn 3 = .ok (.iconst 1, 1) := by decide +kernel
theorem dX3_isIn_4 : decode cX3_isIn 4 = .ok (.iand, 1) := by decide +kernel
theorem dX3_isIn_5 : decode cX3_isIn 5 = .ok (.ifCond .eq 7, 3) := by decide +kernel
theorem dX3_isIn_8 : decode cX3_isIn 8 = .ok (.iconst 1, 1) := by decide +kernel
theorem dX3_isIn_9 : decode cX3_isIn 9 = .ok (.goto 4, 3) := by decide +kernel
theorem dX3_isIn_12 : decode cX3_isIn 12 = .ok (.iconst 0, 1) := by decide +kernel
theorem dX3_isIn_13 : decode cX3_isIn 13 = .ok (.ireturn, 1) := by decide +kernel
