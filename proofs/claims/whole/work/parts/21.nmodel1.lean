theorem dX5_addWord_93 : decode cX5_addWord 93 = .ok (.aload_n 0, 1) := by decide +kernel
theorem dX5_addWord_94 : decode cX5_addWord 94 = .ok (.dup, 1) := by decide +kernel
theorem dX5_addWord_95 : decode cX5_addWord 95 = .ok (.getfield 51, 3) := by decide +kernel
theorem dX5_addWord_98 : decode cX5_addWord 98 = .ok (.iconst 1, 1) := by decide +kernel
theorem dX5_addWord_99 : decode cX5_addWord 99 = .ok (.iadd, 1) := by decide +kernel
theorem dX5_addWord_100 : decode cX5_addWord 100 = .ok (.putfield 51, 3) := by decide +kernel
theorem dX5_addWord_103 : decode cX5_addWord 103 = .ok (.aload_n 0, 1) := by decide +kernel
theorem dX5_addWord_104 : decode cX5_addWord 104 = .ok (.getfield 51, 3) := by decide +kernel
theorem dX5_addWord_107 : decode cX5_addWord 107 = .ok (.ireturn, 1) := by decide +kernel
set_option maxRecDepth 20000 in
theorem ggX5_removeWord_X5_found : GoodIn wsX5_removeWord wsX5_found := goodIn_r _ [8, 1, 2, 9, 10, 11, 12, 13, 7, 14, 3, 20, 21, 22, 23, 24, 25, 26, 27, 28, 29, 30, 31, 32, 33, 34, 35, 36, 37, 38] (by decide +kernel) (by decide +kernel)
set_option maxRecDepth 20000 in
theorem gX5_removeWord_X5_found : GoodIn wsX5_removeWord (wsV RX5 76 RX5 yX5_found wsX5_found) := goodIn_app (goodIn_of _ (by decide +kernel)) ggX5_removeWord_X5_found
set_option maxRecDepth 20000 in
theorem ggX5_removeWord_X5_asked : GoodIn wsX5_removeWord wsX5_asked := goodIn_r _ [18, 19, 20, 21, 22, 23, 24, 25, 26, 27, 28, 29, 30, 31, 32, 33, 34, 35, 36, 37, 38] (by decide +kernel) (by decide +kernel)
set_option maxRecDepth 20000 in
theorem gX5_removeWord_X5_asked : GoodIn wsX5_removeWord (wsV RX5 73 RX5 yX5_asked wsX5_asked) := goodIn_app (goodIn_of _ (by decide +kernel)) ggX5_removeWord_X5_asked
theorem dX5_removeWord_0 : decode cX5_removeWord 0 = .ok (.aload_n 0, 1) := by decide +kernel
theorem dX5_removeWord_1 : decode cX5_removeWord 1 = .ok (.invokevirtual 76, 3) := by decide +kernel
theorem dX5_removeWord_4 : decode cX5_removeWord 4 = .ok (.istore_n 1, 1) := by decide +kernel
theorem dX5_removeWord_5 : decode cX5_removeWord 5 = .ok (.aload_n 0, 1) := by decide +kernel
theorem dX5_removeWord_6 : decode cX5_removeWord 6 = .ok (.iload_n 1, 1) := by decide +kernel
theorem dX5_removeWord_7 : decode cX5_removeWord 7 = .ok (.iconst (-1), 1) := by decide +kernel
theorem dX5_removeWord_8 : decode cX5_removeWord 8 = .ok (.if_icmp .eq 7, 3) := by decide +kernel
theorem dX5_removeWord_11 : decode cX5_removeWord 11 = .ok (.iconst 1, 1) := by decide +kernel
theorem dX5_removeWord_12 : decode cX5_removeWord 12 = .ok (.goto 4, 3) := by decide +kernel
theorem dX5_removeWord_15 : decode cX5_removeWord 15 = .ok (.iconst 0, 1) := by decide +kernel
theorem dX5_removeWord_16 : decode cX5_removeWord 16 = .ok (.invokevirtual 73, 3) := by decide +kernel
theorem dX5_removeWord_19 : decode cX5_removeWord 19 = .ok (.ifCond .ne 5, 3) := by decide +kernel
theorem dX5_removeWord_22 : decode cX5_removeWord 22 = .ok (.iconst 0, 1) := by decide +kernel
theorem dX5_removeWord_23 : decode cX5_removeWord 23 = .ok (.ireturn, 1) := by decide +kernel
theorem dX5_removeWord_24 : decode cX5_removeWord 24 = .ok (.aload_n 0, 1) := by decide +kernel
theorem dX5_removeWord_25 : decode cX5_removeWord 25 = .ok (.dup, 1) := by decide +kernel
theorem dX5_removeWord_26 : decode cX5_removeWord 26 = .ok (.getfield 51, 3) := by decide +kernel
theorem dX5_removeWord_29 : decode cX5_removeWord 29 = .ok (.iconst 1, 1) := by decide +kernel
theorem dX5_removeWord_30 : decode cX5_removeWord 30 = .ok (.isub, 1) := by decide +kernel
theorem dX5_removeWord_31 : decode cX5_removeWord 31 = .ok (.putfield 51, 3) := by decide +kernel
theorem dX5_removeWord_34 : decode cX5_removeWord 34 = .ok (.aload_n 0, 1) := by decide +kernel
theorem dX5_removeWord_35 : decode cX5_removeWord 35 = .ok (.getfield 16, 3) := by decide +kernel
theorem dX5_removeWord_38 : decode cX5_removeWord 38 = .ok (.iload_n 1, 1) := by decide +kernel
theorem dX5_removeWord_39 : decode cX5_removeWord 39 = .ok (.aload_n 0, 1) := by decide +kernel
theorem dX5_removeWord_40 : decode cX5_removeWord 40 = .ok (.getfield 16, 3) := by decide +kernel
theorem dX5_removeWord_43 : decode cX5_removeWord 43 = .ok (.aload_n 0, 1) := by decide +kernel
theorem dX5_removeWord_44 : decode cX5_removeWord 44 = .ok (.getfield 51, 3) := by decide +kernel
theorem dX5_removeWord_47 : decode cX5_removeWord 47 = .ok (.iaload, 1) := by decide +kernel
theorem dX5_removeWord_48 : decode cX5_removeWord 48 = .ok (.iastore, 1) := by decide +kernel
theorem dX5_removeWord_49 : decode cX5_removeWord 49 = .ok (.iconst 0, 1) := by decide +kernel
theorem dX5_removeWord_50 : decode cX5_removeWord 50 = .ok (.istore_n 2, 1) := by decide +kernel
theorem dX5_removeWord_51 : decode cX5_removeWord 51 = .ok (.iload_n 2, 1) := by decide +kernel
theorem dX5_removeWord_52 : decode cX5_removeWord 52 = .ok (.bipush 10, 2) := by decide +kernel
theorem dX5_removeWord_54 : decode cX5_removeWord 54 = .ok (.if_icmp .ge 34, 3) := by decide +kernel
theorem dX5_removeWord_57 : decode cX5_removeWord 57 = .ok (.aload_n 0, 1) := by decide +kernel
theorem dX5_removeWord_58 : decode cX5_removeWord 58 = .ok (.getfield 13, 3) := by decide +kernel
theorem dX5_removeWord_61 : decode cX5_removeWord 61 = .ok (.bipush 10, 2) := by decide +kernel
theorem dX5_removeWord_63 : decode cX5_removeWord 63 = .ok (.iload_n 1, 1) := by decide +kernel
theorem dX5_removeWord_64 : decode cX5_removeWord 64 = .ok (.imul, 1) := by decide +kernel
theorem dX5_removeWord_65 : decode cX5_removeWord 65 = .ok (.iload_n 2, 1) := by decide +kernel
theorem dX5_removeWord_66 : decode cX5_removeWord 66 = .ok (.iadd, 1) := by decide +kernel
theorem dX5_removeWord_67 : decode cX5_removeWord 67 = .ok (.aload_n 0, 1) := by decide +kernel
theorem dX5_removeWord_68 : decode cX5_removeWord 68 = .ok (.getfield 13, 3) := by decide +kernel
theorem dX5_removeWord_71 : decode cX5_removeWord 71 = .ok (.bipush 10, 2) := by decide +kernel
theorem dX5_removeWord_73 : decode cX5_removeWord 73 = .ok (.aload_n 0, 1) := by decide +kernel
theorem dX5_removeWord_74 : decode cX5_removeWord 74 = .ok (.getfield 51, 3) := by decide +kernel
theorem dX5_removeWord_77 : decode cX5_removeWord 77 = .ok (.imul, 1) := by decide +kernel
theorem dX5_removeWord_78 : decode cX5_removeWord 78 = .ok (.iload_n 2, 1) := by decide +kernel
theorem dX5_removeWord_79 : decode cX5_removeWord 79 = .ok (.iadd, 1) := by decide +kernel
theorem dX5_removeWord_80 : decode cX5_removeWord 80 = .ok (.iaload, 1) := by decide +kernel
theorem dX5_removeWord_81 : decode cX5_removeWord 81 = .ok (.iastore, 1) := by decide +kernel
theorem dX5_removeWord_82 : decode cX5_removeWord 82 = .ok (.iinc 2 1, 3) := by decide +kernel
theorem dX5_removeWord_85 : decode cX5_removeWord 85 = .ok (.goto (-34), 3) := by decide +kernel
theorem dX5_removeWord_88 : decode cX5_removeWord 88 = .ok (.aload_n 0, 1) := by decide +kernel
theorem dX5_removeWord_89 : decode cX5_removeWord 89 = .ok (.getfield 51, 3) := by decide +kernel
theorem dX5_removeWord_92 : decode cX5_removeWord 92 = .ok (.ireturn, 1) := by decide +kernel
set_option maxRecDepth 20000 in
theorem ggX5_isWord_X5_found : GoodIn wsX5_isWord wsX5_found := goodIn_r _ [6, 7, 8, 9, 10, 11, 12, 13, 5, 14, 15, 16, 17, 18, 19, 20, 21, 22, 23, 24, 25, 26, 27, 28, 29, 30, 31, 32, 33, 34] (by decide +kernel) (by decide +kernel)
set_option maxRecDepth 20000 in
theorem gX5_isWord_X5_found : GoodIn wsX5_isWord (wsV RX5 76 RX5 yX5_found wsX5_found) := goodIn_app (goodIn_of _ (by decide +kernel)) ggX5_isWord_X5_found
theorem dX5_isWord_0 : decode cX5_isWord 0 = .ok (.aload_n 0, 1) := by decide +kernel
theorem dX5_isWord_1 : decode cX5_isWord 1 = .ok (.iconst 0, 1) := by decide +kernel
theorem dX5_isWord_2 : decode cX5_isWord 2 = .ok (.putfield 48, 3) := by decide +kernel
theorem dX5_isWord_5 : decode cX5_isWord 5 = .ok (.aload_n 0, 1) := by decide +kernel
theorem dX5_isWord_6 : decode cX5_isWord 6 = .ok (.invokevirtual 76, 3) := by decide +kernel
theorem dX5_isWord_9 : decode cX5_isWord 9 = .ok (.iconst (-1), 1) := by decide +kernel
theorem dX5_isWord_10 : decode cX5_isWord 10 = .ok (.if_icmp .eq 7, 3) := by decide +kernel
theorem dX5_isWord_13 : decode cX5_isWord 13 = .ok (.iconst 1, 1) := by decide +kernel
theorem dX5_isWord_14 : decode cX5_isWord 14 = .ok (.goto 4, 3) := by decide +kernel
theorem dX5_isWord_17 : decode cX5_isWord 17 = .ok (.iconst 0, 1) := by decide +kernel
theorem dX5_isWord_18 : decode cX5_isWord 18 = .ok (.ireturn, 1) := by decide +kernel
set_option maxRecDepth 20000 in
theorem ggX5_words_X5_told : GoodIn wsX5_words wsX5_told := goodIn_r _ [6, 7, 8, 9, 10, 11, 12, 13, 14, 15, 16, 17, 18, 19, 20, 21, 22, 23, 24, 25, 26] (by decide +kernel) (by decide +kernel)
set_option maxRecDepth 20000 in
theorem gX5_words_X5_told : GoodIn wsX5_words (wsV RX5 69 RX5 yX5_told wsX5_told) := goodIn_app (goodIn_of _ (by decide +kernel)) ggX5_words_X5_told
theorem dX5_words_0 : decode cX5_words 0 = .ok (.aload_n 0, 1) := by decide +kernel
theorem dX5_words_1 : decode cX5_words 1 = .ok (.aload_n 0, 1) := by decide +kernel
theorem dX5_words_2 : decode cX5_words 2 = .ok (.getfield 51, 3) := by decide +kernel
theorem dX5_words_5 : decode cX5_words 5 = .ok (.invokevirtual 69, 3) := by decide +kernel
theorem dX5_words_8 : decode cX5_words 8 = .ok (.ireturn, 1) := by decide +kernel
set_option maxRecDepth 20000 in
theorem ggX5_wordsFromSlip_X5_begins : GoodIn wsX5_wordsFromSlip wsX5_begins := goodIn_r _ [8, 9, 10, 16, 17, 18, 19, 20, 21, 22, 23, 24, 25, 26, 27, 28, 29, 30, 31, 32, 33, 34] (by decide +kernel) (by decide +kernel)
set_option maxRecDepth 20000 in
theorem gX5_wordsFromSlip_X5_begins : GoodIn wsX5_wordsFromSlip (wsV RX5 57 RX5 yX5_begins wsX5_begins) := goodIn_app (goodIn_of _ (by decide +kernel)) ggX5_wordsFromSlip_X5_begins
set_option maxRecDepth 20000 in
theorem ggX5_wordsFromSlip_X5_told : GoodIn wsX5_wordsFromSlip wsX5_told := goodIn_r _ [14, 15, 16, 17, 18, 19, 20, 21, 22, 23, 24, 25, 26, 27, 28, 29, 30, 31, 32, 33, 34] (by decide +kernel) (by decide +kernel)
set_option maxRecDepth 20000 in
theorem gX5_wordsFromSlip_X5_told : GoodIn wsX5_wordsFromSlip (wsV RX5 69 RX5 yX5_told wsX5_told) := goodIn_app (goodIn_of _ (by decide +kernel)) ggX5_wordsFromSlip_X5_told
theorem dX5_wordsFromSlip_0 : decode cX5_wordsFromSlip 0 = .ok (.iconst 0, 1) := by decide +kernel
theorem dX5_wordsFromSlip_1 : decode cX5_wordsFromSlip 1 = .ok (.istore_n 1, 1) := by decide +kernel
theorem dX5_wordsFromSlip_2 : decode cX5_wordsFromSlip 2 = .ok (.iconst 0, 1) := by decide +kernel
theorem dX5_wordsFromSlip_3 : decode cX5_wordsFromSlip 3 = .ok (.istore_n 2, 1) := by decide +kernel
theorem dX5_wordsFromSlip_4 : decode cX5_wordsFromSlip 4 = .ok (.iload_n 2, 1) := by decide +kernel
theorem dX5_wordsFromSlip_5 : decode cX5_wordsFromSlip 5 = .ok (.aload_n 0, 1) := by decide +kernel
theorem dX5_wordsFromSlip_6 : decode cX5_wordsFromSlip 6 = .ok (.getfield 51, 3) := by decide +kernel
theorem dX5_wordsFromSlip_9 : decode cX5_wordsFromSlip 9 = .ok (.if_icmp .ge 33, 3) := by decide +kernel
theorem dX5_wordsFromSlip_12 : decode cX5_wordsFromSlip 12 = .ok (.iload_n 1, 1) := by decide +kernel
theorem dX5_wordsFromSlip_13 : decode cX5_wordsFromSlip 13 = .ok (.aload_n 0, 1) := by decide +kernel
theorem dX5_wordsFromSlip_14 : decode cX5_wordsFromSlip 14 = .ok (.iload_n 2, 1) := by decide +kernel
theorem dX5_wordsFromSlip_15 : decode cX5_wordsFromSlip 15 = .ok (.aload_n 0, 1) := by decide +kernel
theorem dX5_wordsFromSlip_16 : decode cX5_wordsFromSlip 16 = .ok (.getfield 7, 3) := by decide +kernel
theorem dX5_wordsFromSlip_19 : decode cX5_wordsFromSlip 19 = .ok (.aload_n 0, 1) := by decide +kernel
theorem dX5_wordsFromSlip_20 : decode cX5_wordsFromSlip 20 = .ok (.getfield 54, 3) := by decide +kernel
theorem dX5_wordsFromSlip_23 : decode cX5_wordsFromSlip 23 = .ok (.invokevirtual 57, 3) := by decide +kernel
theorem dX5_wordsFromSlip_26 : decode cX5_wordsFromSlip 26 = .ok (.ifCond .eq 7, 3) := by decide +kernel
theorem dX5_wordsFromSlip_29 : decode cX5_wordsFromSlip 29 = .ok (.iconst 1, 1) := by decide +kernel
theorem dX5_wordsFromSlip_30 : decode cX5_wordsFromSlip 30 = .ok (.goto 4, 3) := by decide +kernel
theorem dX5_wordsFromSlip_33 : decode cX5_wordsFromSlip 33 = .ok (.iconst 0, 1) := by decide +kernel
theorem dX5_wordsFromSlip_34 : decode cX5_wordsFromSlip 34 = .ok (.iadd, 1) := by decide +kernel
theorem dX5_wordsFromSlip_35 : decode cX5_wordsFromSlip 35 = .ok (.istore_n 1, 1) := by decide +kernel
theorem dX5_wordsFromSlip_36 : decode cX5_wordsFromSlip 36 = .ok (.iinc 2 1, 3) := by decide +kernel
theorem dX5_wordsFromSlip_39 : decode cX5_wordsFromSlip 39 = .ok (.goto (-35), 3) := by decide +kernel
theorem dX5_wordsFromSlip_42 : decode cX5_wordsFromSlip 42 = .ok (.aload_n 0, 1) := by decide +kernel
theorem dX5_wordsFromSlip_43 : decode cX5_wordsFromSlip 43 = .ok (.iload_n 1, 1) := by decide +kernel
theorem dX5_wordsFromSlip_44 : decode cX5_wordsFromSlip 44 = .ok (.invokevirtual 69, 3) := by decide +kernel
theorem dX5_wordsFromSlip_47 : decode cX5_wordsFromSlip 47 = .ok (.ireturn, 1) := by decide +kernel
set_option maxRecDepth 20000 in
theorem ggX5_beginnings_X5_areAlike : GoodIn wsX5_beginnings wsX5_areAlike := goodIn_r _ [7, 2, 8, 14, 15, 16, 17, 18, 19, 20, 21, 22, 23, 24, 25, 26, 27, 28, 29, 30, 31, 32] (by decide +kernel) (by decide +kernel)
set_option maxRecDepth 20000 in
theorem gX5_beginnings_X5_areAlike : GoodIn wsX5_beginnings (wsV RX5 80 RX5 yX5_areAlike wsX5_areAlike) := goodIn_app (goodIn_of _ (by decide +kernel)) ggX5_beginnings_X5_areAlike
set_option maxRecDepth 20000 in
theorem ggX5_beginnings_X5_told : GoodIn wsX5_beginnings wsX5_told := goodIn_r _ [12, 13, 14, 15, 16, 17, 18, 19, 20, 21, 22, 23, 24, 25, 26, 27, 28, 29, 30, 31, 32] (by decide +kernel) (by decide +kernel)
set_option maxRecDepth 20000 in
theorem gX5_beginnings_X5_told : GoodIn wsX5_beginnings (wsV RX5 69 RX5 yX5_told wsX5_told) := goodIn_app (goodIn_of _ (by decide +kernel)) ggX5_beginnings_X5_told
theorem dX5_beginnings_0 : decode cX5_beginnings 0 = .ok (.iconst 0, 1) := by decide +kernel
theorem dX5_beginnings_1 : decode cX5_beginnings 1 = .ok (.istore_n 1, 1) := by decide +kernel
theorem dX5_beginnings_2 : decode cX5_beginnings 2 = .ok (.iconst 0, 1) := by decide +kernel
theorem dX5_beginnings_3 : decode cX5_beginnings 3 = .ok (.istore_n 2, 1) := by decide +kernel
theorem dX5_beginnings_4 : decode cX5_beginnings 4 = .ok (.iload_n 2, 1) := by decide +kernel
theorem dX5_beginnings_5 : decode cX5_beginnings 5 = .ok (.aload_n 0, 1) := by decide +kernel
theorem dX5_beginnings_6 : decode cX5_beginnings 6 = .ok (.getfield 51, 3) := by decide +kernel
theorem dX5_beginnings_9 : decode cX5_beginnings 9 = .ok (.if_icmp .ge 81, 3) := by decide +kernel
theorem dX5_beginnings_12 : decode cX5_beginnings 12 = .ok (.iconst 0, 1) := by decide +kernel
theorem dX5_beginnings_13 : decode cX5_beginnings 13 = .ok (.istore_n 3, 1) := by decide +kernel
theorem dX5_beginnings_14 : decode cX5_beginnings 14 = .ok (.iload_n 3, 1) := by decide +kernel
theorem dX5_beginnings_15 : decode cX5_beginnings 15 = .ok (.aload_n 0, 1) := by decide +kernel
theorem dX5_beginnings_16 : decode cX5_beginnings 16 = .ok (.getfield 16, 3) := by decide +kernel
theorem dX5_beginnings_19 : decode cX5_beginnings 19 = .ok (.iload_n 2, 1) := by decide +kernel
theorem dX5_beginnings_20 : decode cX5_beginnings 20 = .ok (.iaload, 1) := by decide +kernel
theorem dX5_beginnings_21 : decode cX5_beginnings 21 = .ok (.if_icmp .gt 63, 3) := by decide +kernel
theorem dX5_beginnings_24 : decode cX5_beginnings 24 = .ok (.iconst 1, 1) := by decide +kernel
theorem dX5_beginnings_25 : decode cX5_beginnings 25 = .ok (.istore 4, 2) := by decide +kernel
theorem dX5_beginnings_27 : decode cX5_beginnings 27 = .ok (.iconst 0, 1) := by decide +kernel
theorem dX5_beginnings_28 : decode cX5_beginnings 28 = .ok (.istore 5, 2) := by decide +kernel
theorem dX5_beginnings_30 : decode cX5_beginnings 30 = .ok (.iload 5, 2) := by decide +kernel
theorem dX5_beginnings_32 : decode cX5_beginnings 32 = .ok (.iload_n 2, 1) := by decide +kernel
theorem dX5_beginnings_33 : decode cX5_beginnings 33 = .ok (.if_icmp .ge 32, 3) := by decide +kernel
theorem dX5_beginnings_36 : decode cX5_beginnings 36 = .ok (.iload 4, 2) := by decide +kernel
theorem dX5_beginnings_38 : decode cX5_beginnings 38 = .ok (.ifCond .eq 18, 3) := by decide +kernel
theorem dX5_beginnings_41 : decode cX5_beginnings 41 = .ok (.aload_n 0, 1) := by decide +kernel
theorem dX5_beginnings_42 : decode cX5_beginnings 42 = .ok (.iload_n 2, 1) := by decide +kernel
theorem dX5_beginnings_43 : decode cX5_beginnings 43 = .ok (.iload 5, 2) := by decide +kernel
theorem dX5_beginnings_45 : decode cX5_beginnings 45 = .ok (.iload_n 3, 1) := by decide +kernel
theorem dX5_beginnings_46 : decode cX5_beginnings 46 = .ok (.invokevirtual 80, 3) := by decide +kernel
theorem dX5_beginnings_49 : decode cX5_beginnings 49 = .ok (.ifCond .ne 7, 3) := by decide +kernel
theorem dX5_beginnings_52 : decode cX5_beginnings 52 = .ok (.iconst 1, 1) := by decide +kernel
theorem dX5_beginnings_53 : decode cX5_beginnings 53 = .ok (.goto 4, 3) := by decide +kernel
theorem dX5_beginnings_56 : decode cX5_beginnings 56 = .ok (.iconst 0, 1) := by decide +kernel
theorem dX5_beginnings_57 : decode cX5_beginnings 57 = .ok (.istore 4, 2) := by decide +kernel
theorem dX5_beginnings_59 : decode cX5_beginnings 59 = .ok (.iinc 5 1, 3) := by decide +kernel
theorem dX5_beginnings_62 : decode cX5_beginnings 62 = .ok (.goto (-32), 3) := by decide +kernel
theorem dX5_beginnings_65 : decode cX5_beginnings 65 = .ok (.iload_n 1, 1) := by decide +kernel
theorem dX5_beginnings_66 : decode cX5_beginnings 66 = .ok (.iload 4, 2) := by decide +kernel
theorem dX5_beginnings_68 : decode cX5_beginnings 68 = .ok (.ifCond .eq 7, 3) := by decide +kernel
theorem dX5_beginnings_71 : decode cX5_beginnings 71 = .ok (.iconst 1, 1) := by decide +kernel
theorem dX5_beginnings_72 : decode cX5_beginnings 72 = .ok (.goto 4, 3) := by decide +kernel
theorem dX5_beginnings_75 : decode cX5_beginnings 75 = .ok (.iconst 0, 1) := by decide +kernel
theorem dX5_beginnings_76 : decode cX5_beginnings 76 = .ok (.iadd, 1) := by decide +kernel
theorem dX5_beginnings_77 : decode cX5_beginnings 77 = .ok (.istore_n 1, 1) := by decide +kernel
theorem dX5_beginnings_78 : decode cX5_beginnings 78 = .ok (.iinc 3 1, 3) := by decide +kernel
theorem dX5_beginnings_81 : decode cX5_beginnings 81 = .ok (.goto (-67), 3) := by decide +kernel
theorem dX5_beginnings_84 : decode cX5_beginnings 84 = .ok (.iinc 2 1, 3) := by decide +kernel
theorem dX5_beginnings_87 : decode cX5_beginnings 87 = .ok (.goto (-83), 3) := by decide +kernel
theorem dX5_beginnings_90 : decode cX5_beginnings 90 = .ok (.aload_n 0, 1) := by decide +kernel
theorem dX5_beginnings_91 : decode cX5_beginnings 91 = .ok (.aload_n 0, 1) := by decide +kernel
theorem dX5_beginnings_92 : decode cX5_beginnings 92 = .ok (.getfield 51, 3) := by decide +kernel
theorem dX5_beginnings_95 : decode cX5_beginnings 95 = .ok (.ifCond .ne 7, 3) := by decide +kernel
theorem dX5_beginnings_98 : decode cX5_beginnings 98 = .ok (.iconst 1, 1) := by decide +kernel
theorem dX5_beginnings_99 : decode cX5_beginnings 99 = .ok (.goto 4, 3) := by decide +kernel
theorem dX5_beginnings_102 : decode cX5_beginnings 102 = .ok (.iload_n 1, 1) := by decide +kernel
theorem dX5_beginnings_103 : decode cX5_beginnings 103 = .ok (.invokevirtual 69, 3) := by decide +kernel
theorem dX5_beginnings_106 : decode cX5_beginnings 106 = .ok (.ireturn, 1) := by decide +kernel
set_option maxRecDepth 20000 in
theorem ggX5_copyWord_X5_asked : GoodIn wsX5_copyWord wsX5_asked := goodIn_r _ [10, 11, 16, 17, 18, 19, 20, 21, 22, 23, 24, 25, 26, 27, 28, 29, 30, 31, 32, 33, 34] (by decide +kernel) (by decide +kernel)
set_option maxRecDepth 20000 in
theorem gX5_copyWord_X5_asked : GoodIn wsX5_copyWord (wsV RX5 73 RX5 yX5_asked wsX5_asked) := goodIn_app (goodIn_of _ (by decide +kernel)) ggX5_copyWord_X5_asked
set_option maxRecDepth 20000 in
theorem ggX5_copyWord_X5_isBefore : GoodIn wsX5_copyWord wsX5_isBefore := goodIn_r _ [15, 2, 5, 16, 17, 18, 19, 20, 21, 22, 23, 24, 25, 26, 27, 28, 29, 30, 31, 32, 33, 34] (by decide +kernel) (by decide +kernel)
set_option maxRecDepth 20000 in
theorem gX5_copyWord_X5_isBefore : GoodIn wsX5_copyWord (wsV RX5 84 RX5 yX5_isBefore wsX5_isBefore) := goodIn_app (goodIn_of _ (by decide +kernel)) ggX5_copyWord_X5_isBefore
theorem dX5_copyWord_0 : decode cX5_copyWord 0 = .ok (.aload_n 0, 1) := by decide +kernel
theorem dX5_copyWord_1 : decode cX5_copyWord 1 = .ok (.iload_n 1, 1) := by decide +kernel
theorem dX5_copyWord_2 : decode cX5_copyWord 2 = .ok (.ifCond .lt 15, 3) := by decide +kernel
theorem dX5_copyWord_5 : decode cX5_copyWord 5 = .ok (.iload_n 1, 1) := by decide +kernel
theorem dX5_copyWord_6 : decode cX5_copyWord 6 = .ok (.aload_n 0, 1) := by decide +kernel
theorem dX5_copyWord_7 : decode cX5_copyWord 7 = .ok (.getfield 51, 3) := by decide +kernel
theorem dX5_copyWord_10 : decode cX5_copyWord 10 = .ok (.if_icmp .ge 7, 3) := by decide +kernel
theorem dX5_copyWord_13 : decode cX5_copyWord 13 = .ok (.iconst 1, 1) := by decide +kernel
theorem dX5_copyWord_14 : decode cX5_copyWord 14 = .ok (.goto 4, 3) := by decide +kernel
theorem dX5_copyWord_17 : decode cX5_copyWord 17 = .ok (.iconst 0, 1) := by decide +kernel
theorem dX5_copyWord_18 : decode cX5_copyWord 18 = .ok (.invokevirtual 73, 3) := by decide +kernel
theorem dX5_copyWord_21 : decode cX5_copyWord 21 = .ok (.ifCond .ne 5, 3) := by decide +kernel
theorem dX5_copyWord_24 : decode cX5_copyWord 24 = .ok (.iconst 0, 1) := by decide +kernel
theorem dX5_copyWord_25 : decode cX5_copyWord 25 = .ok (.ireturn, 1) := by decide +kernel
theorem dX5_copyWord_26 : decode cX5_copyWord 26 = .ok (.iconst (-1), 1) := by decide +kernel
theorem dX5_copyWord_27 : decode cX5_copyWord 27 = .ok (.istore_n 2, 1) := by decide +kernel
theorem dX5_copyWord_28 : decode cX5_copyWord 28 = .ok (.iconst 0, 1) := by decide +kernel
theorem dX5_copyWord_29 : decode cX5_copyWord 29 = .ok (.istore_n 3, 1) := by decide +kernel
theorem dX5_copyWord_30 : decode cX5_copyWord 30 = .ok (.iload_n 3, 1) := by decide +kernel
theorem dX5_copyWord_31 : decode cX5_copyWord 31 = .ok (.aload_n 0, 1) := by decide +kernel
theorem dX5_copyWord_32 : decode cX5_copyWord 32 = .ok (.getfield 51, 3) := by decide +kernel
theorem dX5_copyWord_35 : decode cX5_copyWord 35 = .ok (.if_icmp .ge 62, 3) := by decide +kernel
theorem dX5_copyWord_38 : decode cX5_copyWord 38 = .ok (.iconst 0, 1) := by decide +kernel
theorem dX5_copyWord_39 : decode cX5_copyWord 39 = .ok (.istore 4, 2) := by decide +kernel
theorem dX5_copyWord_41 : decode cX5_copyWord 41 = .ok (.iconst 0, 1) := by decide +kernel
theorem dX5_copyWord_42 : decode cX5_copyWord 42 = .ok (.istore 5, 2) := by decide +kernel
theorem dX5_copyWord_44 : decode cX5_copyWord 44 = .ok (.iload 5, 2) := by decide +kernel
theorem dX5_copyWord_46 : decode cX5_copyWord 46 = .ok (.aload_n 0, 1) := by decide +kernel
theorem dX5_copyWord_47 : decode cX5_copyWord 47 = .ok (.getfield 51, 3) := by decide +kernel
theorem dX5_copyWord_50 : decode cX5_copyWord 50 = .ok (.if_icmp .ge 29, 3) := by decide +kernel
theorem dX5_copyWord_53 : decode cX5_copyWord 53 = .ok (.iload 4, 2) := by decide +kernel
theorem dX5_copyWord_55 : decode cX5_copyWord 55 = .ok (.aload_n 0, 1) := by decide +kernel
theorem dX5_copyWord_56 : decode cX5_copyWord 56 = .ok (.iload 5, 2) := by decide +kernel
theorem dX5_copyWord_58 : decode cX5_copyWord 58 = .ok (.iload_n 3, 1) := by decide +kernel
theorem dX5_copyWord_59 : decode cX5_copyWord 59 = .ok (.invokevirtual 84, 3) := by decide +kernel
theorem dX5_copyWord_62 : decode cX5_copyWord 62 = .ok (.ifCond .eq 7, 3) := by decide +kernel
theorem dX5_copyWord_65 : decode cX5_copyWord 65 = .ok (.iconst 1, 1) := by decide +kernel
theorem dX5_copyWord_66 : decode cX5_copyWord 66 = .ok (.goto 4, 3) := by decide +kernel
theorem dX5_copyWord_69 : decode cX5_copyWord 69 = .ok (.iconst 0, 1) := by decide +kernel
theorem dX5_copyWord_70 : decode cX5_copyWord 70 = .ok (.iadd, 1) := by decide +kernel
theorem dX5_copyWord_71 : decode cX5_copyWord 71 = .ok (.istore 4, 2) := by decide +kernel
theorem dX5_copyWord_73 : decode cX5_copyWord 73 = .ok (.iinc 5 1, 3) := by decide +kernel
theorem dX5_copyWord_76 : decode cX5_copyWord 76 = .ok (.goto (-32), 3) := by decide +kernel
theorem dX5_copyWord_79 : decode cX5_copyWord 79 = .ok (.iload 4, 2) := by decide +kernel
theorem dX5_copyWord_81 : decode cX5_copyWord 81 = .ok (.iload_n 1, 1) := by decide +kernel
theorem dX5_copyWord_82 : decode cX5_copyWord 82 = .ok (.if_icmp .ne 7, 3) := by decide +kernel
theorem dX5_copyWord_85 : decode cX5_copyWord 85 = .ok (.iload_n 3, 1) := by decide +kernel
theorem dX5_copyWord_86 : decode cX5_copyWord 86 = .ok (.goto 4, 3) := by decide +kernel
theorem dX5_copyWord_89 : decode cX5_copyWord 89 = .ok (.iload_n 2, 1) := by decide +kernel
theorem dX5_copyWord_90 : decode cX5_copyWord 90 = .ok (.istore_n 2, 1) := by decide +kernel
theorem dX5_copyWord_91 : decode cX5_copyWord 91 = .ok (.iinc 3 1, 3) := by decide +kernel
theorem dX5_copyWord_94 : decode cX5_copyWord 94 = .ok (.goto (-64), 3) := by decide +kernel
theorem dX5_copyWord_97 : decode cX5_copyWord 97 = .ok (.aload_n 0, 1) := by decide +kernel
theorem dX5_copyWord_98 : decode cX5_copyWord 98 = .ok (.aload_n 0, 1) := by decide +kernel
theorem dX5_copyWord_99 : decode cX5_copyWord 99 = .ok (.getfield 16, 3) := by decide +kernel
theorem dX5_copyWord_102 : decode cX5_copyWord 102 = .ok (.iload_n 2, 1) := by decide +kernel
theorem dX5_copyWord_103 : decode cX5_copyWord 103 = .ok (.iaload, 1) := by decide +kernel
theorem dX5_copyWord_104 : decode cX5_copyWord 104 = .ok (.putfield 54, 3) := by decide +kernel
theorem dX5_copyWord_107 : decode cX5_copyWord 107 = .ok (.iconst 0, 1) := by decide +kernel
theorem dX5_copyWord_108 : decode cX5_copyWord 108 = .ok (.istore_n 3, 1) := by decide +kernel
theorem dX5_copyWord_109 : decode cX5_copyWord 109 = .ok (.iload_n 3, 1) := by decide +kernel
theorem dX5_copyWord_110 : decode cX5_copyWord 110 = .ok (.aload_n 0, 1) := by decide +kernel
theorem dX5_copyWord_111 : decode cX5_copyWord 111 = .ok (.getfield 54, 3) := by decide +kernel
theorem dX5_copyWord_114 : decode cX5_copyWord 114 = .ok (.if_icmp .ge 26, 3) := by decide +kernel
theorem dX5_copyWord_117 : decode cX5_copyWord 117 = .ok (.aload_n 0, 1) := by decide +kernel
theorem dX5_copyWord_118 : decode cX5_copyWord 118 = .ok (.getfield 7, 3) := by decide +kernel
theorem dX5_copyWord_121 : decode cX5_copyWord 121 = .ok (.iload_n 3, 1) := by decide +kernel
theorem dX5_copyWord_122 : decode cX5_copyWord 122 = .ok (.aload_n 0, 1) := by decide +kernel
theorem dX5_copyWord_123 : decode cX5_copyWord 123 = .ok (.getfield 13, 3) := by decide +kernel
theorem dX5_copyWord_126 : decode cX5_copyWord 126 = .ok (.bipush 10, 2) := by decide +kernel
theorem dX5_copyWord_128 : decode cX5_copyWord 128 = .ok (.iload_n 2, 1) := by decide +kernel
theorem dX5_copyWord_129 : decode cX5_copyWord 129 = .ok (.imul, 1) := by decide +kernel
theorem dX5_copyWord_130 : decode cX5_copyWord 130 = .ok (.iload_n 3, 1) := by decide +kernel
theorem dX5_copyWord_131 : decode cX5_copyWord 131 = .ok (.iadd, 1) := by decide +kernel
theorem dX5_copyWord_132 : decode cX5_copyWord 132 = .ok (.iaload, 1) := by decide +kernel
theorem dX5_copyWord_133 : decode cX5_copyWord 133 = .ok (.iastore, 1) := by decide +kernel
theorem dX5_copyWord_134 : decode cX5_copyWord 134 = .ok (.iinc 3 1, 3) := by decide +kernel
theorem dX5_copyWord_137 : decode cX5_copyWord 137 = .ok (.goto (-28), 3) := by decide +kernel
theorem dX5_copyWord_140 : decode cX5_copyWord 140 = .ok (.aload_n 0, 1) := by decide +kernel
theorem dX5_copyWord_141 : decode cX5_copyWord 141 = .ok (.getfield 54, 3) := by decide +kernel
theorem dX5_copyWord_144 : decode cX5_copyWord 144 = .ok (.ireturn, 1) := by decide +kernel
set_option maxRecDepth 20000 in
theorem ggX5_setLeastLength_X5_asked : GoodIn wsX5_setLeastLength wsX5_asked := goodIn_r _ [6, 7, 8, 9, 10, 11, 12, 13, 14, 15, 16, 17, 18, 19, 20, 21, 22, 23, 24, 25, 26] (by decide +kernel) (by decide +kernel)
set_option maxRecDepth 20000 in
theorem gX5_setLeastLength_X5_asked : GoodIn wsX5_setLeastLength (wsV RX5 73 RX5 yX5_asked wsX5_asked) := goodIn_app (goodIn_of _ (by decide +kernel)) ggX5_setLeastLength_X5_asked
theorem dX5_setLeastLength_0 : decode cX5_setLeastLength 0 = .ok (.aload_n 0, 1) := by decide +kernel
theorem dX5_setLeastLength_1 : decode cX5_setLeastLength 1 = .ok (.iload_n 1, 1) := by decide +kernel
theorem dX5_setLeastLength_2 : decode cX5_setLeastLength 2 = .ok (.iconst 2, 1) := by decide +kernel
theorem dX5_setLeastLength_3 : decode cX5_setLeastLength 3 = .ok (.if_icmp .lt 13, 3) := by decide +kernel
theorem dX5_setLeastLength_6 : decode cX5_setLeastLength 6 = .ok (.iload_n 1, 1) := by decide +kernel
theorem dX5_setLeastLength_7 : decode cX5_setLeastLength 7 = .ok (.bipush 10, 2) := by decide +kernel
theorem dX5_setLeastLength_9 : decode cX5_setLeastLength 9 = .ok (.if_icmp .gt 7, 3) := by decide +kernel
theorem dX5_setLeastLength_12 : decode cX5_setLeastLength 12 = .ok (.iconst 1, 1) := by decide +kernel
theorem dX5_setLeastLength_13 : decode cX5_setLeastLength 13 = .ok (.goto 4, 3) := by decide +kernel
theorem dX5_setLeastLength_16 : decode cX5_setLeastLength 16 = .ok (.iconst 0, 1) := by decide +kernel
theorem dX5_setLeastLength_17 : decode cX5_setLeastLength 17 = .ok (.invokevirtual 73, 3) := by decide +kernel
theorem dX5_setLeastLength_20 : decode cX5_setLeastLength 20 = .ok (.ifCond .ne 5, 3) := by decide +kernel
theorem dX5_setLeastLength_23 : decode cX5_setLeastLength 23 = .ok (.iconst 0, 1) := by decide +kernel
theorem dX5_setLeastLength_24 : decode cX5_setLeastLength 24 = .ok (.ireturn, 1) := by decide +kernel
theorem dX5_setLeastLength_25 : decode cX5_setLeastLength 25 = .ok (.aload_n 0, 1) := by decide +kernel
theorem dX5_setLeastLength_26 : decode cX5_setLeastLength 26 = .ok (.getfield 19, 3) := by decide +kernel
theorem dX5_setLeastLength_29 : decode cX5_setLeastLength 29 = .ok (.istore_n 2, 1) := by decide +kernel
theorem dX5_setLeastLength_30 : decode cX5_setLeastLength 30 = .ok (.aload_n 0, 1) := by decide +kernel
theorem dX5_setLeastLength_31 : decode cX5_setLeastLength 31 = .ok (.iload_n 1, 1) := by decide +kernel
theorem dX5_setLeastLength_32 : decode cX5_setLeastLength 32 = .ok (.putfield 19, 3) := by decide +kernel
theorem dX5_setLeastLength_35 : decode cX5_setLeastLength 35 = .ok (.iload_n 2, 1) := by decide +kernel
theorem dX5_setLeastLength_36 : decode cX5_setLeastLength 36 = .ok (.ireturn, 1) := by decide +kernel
theorem dX5_goesOn_0 : decode cX5_goesOn 0 = .ok (.aload_n 0, 1) := by decide +kernel
theorem dX5_goesOn_1 : decode cX5_goesOn 1 = .ok (.getfield 88, 3) := by decide +kernel
theorem dX5_goesOn_4 : decode cX5_goesOn 4 = .ok (.ifCond .le 15, 3) := by decide +kernel
theorem dX5_goesOn_7 : decode cX5_goesOn 7 = .ok (.aload_n 0, 1) := by decide +kernel
theorem dX5_goesOn_8 : decode cX5_goesOn 8 = .ok (.getfield 26, 3) := by decide +kernel
theorem dX5_goesOn_11 : decode cX5_goesOn 11 = .ok (.iconst (-1), 1) := by decide +kernel
theorem dX5_goesOn_12 : decode cX5_goesOn 12 = .ok (.if_icmp .ne 7, 3) := by decide +kernel
theorem dX5_goesOn_15 : decode cX5_goesOn 15 = .ok (.iconst 1, 1) := by decide +kernel
theorem dX5_goesOn_16 : decode cX5_goesOn 16 = .ok (.goto 4, 3) := by decide +kernel
theorem dX5_goesOn_19 : decode cX5_goesOn 19 = .ok (.iconst 0, 1) := by decide +kernel
theorem dX5_goesOn_20 : decode cX5_goesOn 20 = .ok (.ireturn, 1) := by decide +kernel
set_option maxRecDepth 20000 in
theorem ggX5_start_X5_asked : GoodIn wsX5_start wsX5_asked := goodIn_r _ [10, 11, 12, 13, 14, 15, 16, 17, 18, 19, 20, 21, 22, 23, 24, 25, 26, 27, 28, 29, 30] (by decide +kernel) (by decide +kernel)
set_option maxRecDepth 20000 in
theorem gX5_start_X5_asked : GoodIn wsX5_start (wsV RX5 73 RX5 yX5_asked wsX5_asked) := goodIn_app (goodIn_of _ (by decide +kernel)) ggX5_start_X5_asked
theorem dX5_start_0 : decode cX5_start 0 = .ok (.aload_n 0, 1) := by decide +kernel
theorem dX5_start_1 : decode cX5_start 1 = .ok (.iload_n 1, 1) := by decide +kernel
theorem dX5_start_2 : decode cX5_start 2 = .ok (.iconst 2, 1) := by decide +kernel
theorem dX5_start_3 : decode cX5_start 3 = .ok (.if_icmp .lt 12, 3) := by decide +kernel
theorem dX5_start_6 : decode cX5_start 6 = .ok (.iload_n 1, 1) := by decide +kernel
theorem dX5_start_7 : decode cX5_start 7 = .ok (.iconst 4, 1) := by decide +kernel
theorem dX5_start_8 : decode cX5_start 8 = .ok (.if_icmp .gt 7, 3) := by decide +kernel
theorem dX5_start_11 : decode cX5_start 11 = .ok (.iconst 1, 1) := by decide +kernel
theorem dX5_start_12 : decode cX5_start 12 = .ok (.goto 4, 3) := by decide +kernel
theorem dX5_start_15 : decode cX5_start 15 = .ok (.iconst 0, 1) := by decide +kernel
theorem dX5_start_16 : decode cX5_start 16 = .ok (.invokevirtual 73, 3) := by decide +kernel
theorem dX5_start_19 : decode cX5_start 19 = .ok (.ifCond .ne 4, 3) := by decide +kernel
theorem dX5_start_22 : decode cX5_start 22 = .ok (.return_, 1) := by decide +kernel
theorem dX5_start_23 : decode cX5_start 23 = .ok (.aload_n 0, 1) := by decide +kernel
theorem dX5_start_24 : decode cX5_start 24 = .ok (.iload_n 1, 1) := by decide +kernel
theorem dX5_start_25 : decode cX5_start 25 = .ok (.putfield 88, 3) := by decide +kernel
theorem dX5_start_28 : decode cX5_start 28 = .ok (.iconst 0, 1) := by decide +kernel
theorem dX5_start_29 : decode cX5_start 29 = .ok (.istore_n 2, 1) := by decide +kernel
theorem dX5_start_30 : decode cX5_start 30 = .ok (.iload_n 2, 1) := by decide +kernel
theorem dX5_start_31 : decode cX5_start 31 = .ok (.iconst 4, 1) := by decide +kernel
theorem dX5_start_32 : decode cX5_start 32 = .ok (.if_icmp .ge 16, 3) := by decide +kernel
theorem dX5_start_35 : decode cX5_start 35 = .ok (.aload_n 0, 1) := by decide +kernel
theorem dX5_start_36 : decode cX5_start 36 = .ok (.getfield 23, 3) := by decide +kernel
theorem dX5_start_39 : decode cX5_start 39 = .ok (.iload_n 2, 1) := by decide +kernel
theorem dX5_start_40 : decode cX5_start 40 = .ok (.iconst 0, 1) := by decide +kernel
theorem dX5_start_41 : decode cX5_start 41 = .ok (.iastore, 1) := by decide +kernel
theorem dX5_start_42 : decode cX5_start 42 = .ok (.iinc 2 1, 3) := by decide +kernel
theorem dX5_start_45 : decode cX5_start 45 = .ok (.goto (-15), 3) := by decide +kernel
theorem dX5_start_48 : decode cX5_start 48 = .ok (.aload_n 0, 1) := by decide +kernel
theorem dX5_start_49 : decode cX5_start 49 = .ok (.iconst 0, 1) := by decide +kernel
theorem dX5_start_50 : decode cX5_start 50 = .ok (.putfield 91, 3) := by decide +kernel
theorem dX5_start_53 : decode cX5_start 53 = .ok (.aload_n 0, 1) := by decide +kernel
theorem dX5_start_54 : decode cX5_start 54 = .ok (.iconst (-1), 1) := by decide +kernel
theorem dX5_start_55 : decode cX5_start 55 = .ok (.putfield 26, 3) := by decide +kernel
theorem dX5_start_58 : decode cX5_start 58 = .ok (.aload_n 0, 1) := by decide +kernel
theorem dX5_start_59 : decode cX5_start 59 = .ok (.iconst 0, 1) := by decide +kernel
theorem dX5_start_60 : decode cX5_start 60 = .ok (.putfield 94, 3) := by decide +kernel
theorem dX5_start_63 : decode cX5_start 63 = .ok (.return_, 1) := by decide +kernel
theorem dX5_behind_0 : decode cX5_behind 0 = .ok (.iload_n 1, 1) := by decide +kernel
theorem dX5_behind_1 : decode cX5_behind 1 = .ok (.istore_n 2, 1) := by decide +kernel
theorem dX5_behind_2 : decode cX5_behind 2 = .ok (.iload_n 2, 1) := by decide +kernel
theorem dX5_behind_3 : decode cX5_behind 3 = .ok (.aload_n 0, 1) := by decide +kernel
theorem dX5_behind_4 : decode cX5_behind 4 = .ok (.getfield 88, 3) := by decide +kernel
theorem dX5_behind_7 : decode cX5_behind 7 = .ok (.iconst 1, 1) := by decide +kernel
theorem dX5_behind_8 : decode cX5_behind 8 = .ok (.isub, 1) := by decide +kernel
theorem dX5_behind_9 : decode cX5_behind 9 = .ok (.if_icmp .ne 7, 3) := by decide +kernel
theorem dX5_behind_12 : decode cX5_behind 12 = .ok (.iconst 0, 1) := by decide +kernel
theorem dX5_behind_13 : decode cX5_behind 13 = .ok (.goto 6, 3) := by decide +kernel
theorem dX5_behind_16 : decode cX5_behind 16 = .ok (.iload_n 2, 1) := by decide +kernel
theorem dX5_behind_17 : decode cX5_behind 17 = .ok (.iconst 1, 1) := by decide +kernel
theorem dX5_behind_18 : decode cX5_behind 18 = .ok (.iadd, 1) := by decide +kernel
theorem dX5_behind_19 : decode cX5_behind 19 = .ok (.istore_n 2, 1) := by decide +kernel
theorem dX5_behind_20 : decode cX5_behind 20 = .ok (.aload_n 0, 1) := by decide +kernel
theorem dX5_behind_21 : decode cX5_behind 21 = .ok (.getfield 23, 3) := by decide +kernel
theorem dX5_behind_24 : decode cX5_behind 24 = .ok (.iload_n 2, 1) := by decide +kernel
theorem dX5_behind_25 : decode cX5_behind 25 = .ok (.iaload, 1) := by decide +kernel
theorem dX5_behind_26 : decode cX5_behind 26 = .ok (.iconst 5, 1) := by decide +kernel
theorem dX5_behind_27 : decode cX5_behind 27 = .ok (.if_icmp .eq (-25), 3) := by decide +kernel
theorem dX5_behind_30 : decode cX5_behind 30 = .ok (.iload_n 2, 1) := by decide +kernel
theorem dX5_behind_31 : decode cX5_behind 31 = .ok (.ireturn, 1) := by decide +kernel
set_option maxRecDepth 20000 in
theorem ggX5_loses_X5_behind : GoodIn wsX5_loses wsX5_behind := goodIn_r _ [10, 3, 1, 11, 12, 13, 14, 15, 16, 17, 18, 19, 20, 21, 22, 23, 24, 25, 26, 27, 28, 29] (by decide +kernel) (by decide +kernel)
set_option maxRecDepth 20000 in
theorem gX5_loses_X5_behind : GoodIn wsX5_loses (wsV RX5 97 RX5 yX5_behind wsX5_behind) := goodIn_app (goodIn_of _ (by decide +kernel)) ggX5_loses_X5_behind
theorem dX5_loses_0 : decode cX5_loses 0 = .ok (.aload_n 0, 1) := by decide +kernel
theorem dX5_loses_1 : decode cX5_loses 1 = .ok (.getfield 23, 3) := by decide +kernel
theorem dX5_loses_4 : decode cX5_loses 4 = .ok (.iload_n 1, 1) := by decide +kernel
theorem dX5_loses_5 : decode cX5_loses 5 = .ok (.dup2, 1) := by decide +kernel
theorem dX5_loses_6 : decode cX5_loses 6 = .ok (.iaload, 1) := by decide +kernel
theorem dX5_loses_7 : decode cX5_loses 7 = .ok (.iconst 1, 1) := by decide +kernel
theorem dX5_loses_8 : decode cX5_loses 8 = .ok (.iadd, 1) := by decide +kernel
theorem dX5_loses_9 : decode cX5_loses 9 = .ok (.iastore, 1) := by decide +kernel
theorem dX5_loses_10 : decode cX5_loses 10 = .ok (.aload_n 0, 1) := by decide +kernel
theorem dX5_loses_11 : decode cX5_loses 11 = .ok (.iconst 0, 1) := by decide +kernel
theorem dX5_loses_12 : decode cX5_loses 12 = .ok (.putfield 94, 3) := by decide +kernel
theorem dX5_loses_15 : decode cX5_loses 15 = .ok (.iconst 0, 1) := by decide +kernel
theorem dX5_loses_16 : decode cX5_loses 16 = .ok (.istore_n 2, 1) := by decide +kernel
theorem dX5_loses_17 : decode cX5_loses 17 = .ok (.iconst 0, 1) := by decide +kernel
theorem dX5_loses_18 : decode cX5_loses 18 = .ok (.istore_n 3, 1) := by decide +kernel
theorem dX5_loses_19 : decode cX5_loses 19 = .ok (.iload_n 3, 1) := by decide +kernel
theorem dX5_loses_20 : decode cX5_loses 20 = .ok (.aload_n 0, 1) := by decide +kernel
theorem dX5_loses_21 : decode cX5_loses 21 = .ok (.getfield 88, 3) := by decide +kernel
theorem dX5_loses_24 : decode cX5_loses 24 = .ok (.if_icmp .ge 27, 3) := by decide +kernel
theorem dX5_loses_27 : decode cX5_loses 27 = .ok (.iload_n 2, 1) := by decide +kernel
theorem dX5_loses_28 : decode cX5_loses 28 = .ok (.aload_n 0, 1) := by decide +kernel
theorem dX5_loses_29 : decode cX5_loses 29 = .ok (.getfield 23, 3) := by decide +kernel
theorem dX5_loses_32 : decode cX5_loses 32 = .ok (.iload_n 3, 1) := by decide +kernel
theorem dX5_loses_33 : decode cX5_loses 33 = .ok (.iaload, 1) := by decide +kernel
theorem dX5_loses_34 : decode cX5_loses 34 = .ok (.iconst 5, 1) := by decide +kernel
theorem dX5_loses_35 : decode cX5_loses 35 = .ok (.if_icmp .ge 7, 3) := by decide +kernel
theorem dX5_loses_38 : decode cX5_loses 38 = .ok (.iconst 1, 1) := by decide +kernel
theorem dX5_loses_39 : decode cX5_loses 39 = .ok (.goto 4, 3) := by decide +kernel
theorem dX5_loses_42 : decode cX5_loses 42 = .ok (.iconst 0, 1) := by decide +kernel
theorem dX5_loses_43 : decode cX5_loses 43 = .ok (.iadd, 1) := by decide +kernel
theorem dX5_loses_44 : decode cX5_loses 44 = .ok (.istore_n 2, 1) := by decide +kernel
theorem dX5_loses_45 : decode cX5_loses 45 = .ok (.iinc 3 1, 3) := by decide +kernel
theorem dX5_loses_48 : decode cX5_loses 48 = .ok (.goto (-29), 3) := by decide +kernel
theorem dX5_loses_51 : decode cX5_loses 51 = .ok (.aload_n 0, 1) := by decide +kernel
theorem dX5_loses_52 : decode cX5_loses 52 = .ok (.aload_n 0, 1) := by decide +kernel
theorem dX5_loses_53 : decode cX5_loses 53 = .ok (.getfield 23, 3) := by decide +kernel
theorem dX5_loses_56 : decode cX5_loses 56 = .ok (.iload_n 1, 1) := by decide +kernel
theorem dX5_loses_57 : decode cX5_loses 57 = .ok (.iaload, 1) := by decide +kernel
theorem dX5_loses_58 : decode cX5_loses 58 = .ok (.iconst 5, 1) := by decide +kernel
theorem dX5_loses_59 : decode cX5_loses 59 = .ok (.if_icmp .ge 7, 3) := by decide +kernel
theorem dX5_loses_62 : decode cX5_loses 62 = .ok (.iload_n 1, 1) := by decide +kernel
theorem dX5_loses_63 : decode cX5_loses 63 = .ok (.goto 8, 3) := by decide +kernel
theorem dX5_loses_66 : decode cX5_loses 66 = .ok (.aload_n 0, 1) := by decide +kernel
theorem dX5_loses_67 : decode cX5_loses 67 = .ok (.iload_n 1, 1) := by decide +kernel
theorem dX5_loses_68 : decode cX5_loses 68 = .ok (.invokevirtual 97, 3) := by decide +kernel
