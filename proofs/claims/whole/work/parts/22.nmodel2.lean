theorem dX5_loses_71 : decode cX5_loses 71 = .ok (.putfield 91, 3) := by decide +kernel
theorem dX5_loses_74 : decode cX5_loses 74 = .ok (.aload_n 0, 1) := by decide +kernel
theorem dX5_loses_75 : decode cX5_loses 75 = .ok (.iload_n 2, 1) := by decide +kernel
theorem dX5_loses_76 : decode cX5_loses 76 = .ok (.iconst 1, 1) := by decide +kernel
theorem dX5_loses_77 : decode cX5_loses 77 = .ok (.if_icmp .ne 10, 3) := by decide +kernel
theorem dX5_loses_80 : decode cX5_loses 80 = .ok (.aload_n 0, 1) := by decide +kernel
theorem dX5_loses_81 : decode cX5_loses 81 = .ok (.getfield 91, 3) := by decide +kernel
theorem dX5_loses_84 : decode cX5_loses 84 = .ok (.goto 4, 3) := by decide +kernel
theorem dX5_loses_87 : decode cX5_loses 87 = .ok (.iconst (-1), 1) := by decide +kernel
theorem dX5_loses_88 : decode cX5_loses 88 = .ok (.putfield 26, 3) := by decide +kernel
theorem dX5_loses_91 : decode cX5_loses 91 = .ok (.iload_n 1, 1) := by decide +kernel
theorem dX5_loses_92 : decode cX5_loses 92 = .ok (.ireturn, 1) := by decide +kernel
set_option maxRecDepth 20000 in
theorem ggX5_hasWord_X5_counts : GoodIn wsX5_hasWord wsX5_counts := goodIn_r _ [9, 4, 10, 16, 17, 18, 19, 20, 21, 22, 23, 24, 25, 26, 27, 28, 29, 30, 31, 32, 33, 34] (by decide +kernel) (by decide +kernel)
set_option maxRecDepth 20000 in
theorem gX5_hasWord_X5_counts : GoodIn wsX5_hasWord (wsV RX5 100 RX5 yX5_counts wsX5_counts) := goodIn_app (goodIn_of _ (by decide +kernel)) ggX5_hasWord_X5_counts
set_option maxRecDepth 20000 in
theorem ggX5_hasWord_X5_begins : GoodIn wsX5_hasWord wsX5_begins := goodIn_r _ [14, 4, 15, 16, 17, 18, 19, 20, 21, 22, 23, 24, 25, 26, 27, 28, 29, 30, 31, 32, 33, 34] (by decide +kernel) (by decide +kernel)
set_option maxRecDepth 20000 in
theorem gX5_hasWord_X5_begins : GoodIn wsX5_hasWord (wsV RX5 57 RX5 yX5_begins wsX5_begins) := goodIn_app (goodIn_of _ (by decide +kernel)) ggX5_hasWord_X5_begins
theorem dX5_hasWord_0 : decode cX5_hasWord 0 = .ok (.iconst 0, 1) := by decide +kernel
theorem dX5_hasWord_1 : decode cX5_hasWord 1 = .ok (.istore_n 2, 1) := by decide +kernel
theorem dX5_hasWord_2 : decode cX5_hasWord 2 = .ok (.iconst 0, 1) := by decide +kernel
theorem dX5_hasWord_3 : decode cX5_hasWord 3 = .ok (.istore_n 3, 1) := by decide +kernel
theorem dX5_hasWord_4 : decode cX5_hasWord 4 = .ok (.iload_n 3, 1) := by decide +kernel
theorem dX5_hasWord_5 : decode cX5_hasWord 5 = .ok (.aload_n 0, 1) := by decide +kernel
theorem dX5_hasWord_6 : decode cX5_hasWord 6 = .ok (.getfield 51, 3) := by decide +kernel
theorem dX5_hasWord_9 : decode cX5_hasWord 9 = .ok (.if_icmp .ge 60, 3) := by decide +kernel
theorem dX5_hasWord_12 : decode cX5_hasWord 12 = .ok (.iload_n 2, 1) := by decide +kernel
theorem dX5_hasWord_13 : decode cX5_hasWord 13 = .ok (.ifCond .ne 44, 3) := by decide +kernel
theorem dX5_hasWord_16 : decode cX5_hasWord 16 = .ok (.aload_n 0, 1) := by decide +kernel
theorem dX5_hasWord_17 : decode cX5_hasWord 17 = .ok (.iload_n 3, 1) := by decide +kernel
theorem dX5_hasWord_18 : decode cX5_hasWord 18 = .ok (.invokevirtual 100, 3) := by decide +kernel
theorem dX5_hasWord_21 : decode cX5_hasWord 21 = .ok (.ifCond .eq 40, 3) := by decide +kernel
theorem dX5_hasWord_24 : decode cX5_hasWord 24 = .ok (.aload_n 0, 1) := by decide +kernel
theorem dX5_hasWord_25 : decode cX5_hasWord 25 = .ok (.iload_n 3, 1) := by decide +kernel
theorem dX5_hasWord_26 : decode cX5_hasWord 26 = .ok (.aload_n 0, 1) := by decide +kernel
theorem dX5_hasWord_27 : decode cX5_hasWord 27 = .ok (.getfield 29, 3) := by decide +kernel
theorem dX5_hasWord_30 : decode cX5_hasWord 30 = .ok (.aload_n 0, 1) := by decide +kernel
theorem dX5_hasWord_31 : decode cX5_hasWord 31 = .ok (.getfield 94, 3) := by decide +kernel
theorem dX5_hasWord_34 : decode cX5_hasWord 34 = .ok (.invokevirtual 57, 3) := by decide +kernel
theorem dX5_hasWord_37 : decode cX5_hasWord 37 = .ok (.ifCond .eq 24, 3) := by decide +kernel
theorem dX5_hasWord_40 : decode cX5_hasWord 40 = .ok (.iload_n 1, 1) := by decide +kernel
theorem dX5_hasWord_41 : decode cX5_hasWord 41 = .ok (.ifCond .eq 16, 3) := by decide +kernel
theorem dX5_hasWord_44 : decode cX5_hasWord 44 = .ok (.aload_n 0, 1) := by decide +kernel
theorem dX5_hasWord_45 : decode cX5_hasWord 45 = .ok (.getfield 16, 3) := by decide +kernel
theorem dX5_hasWord_48 : decode cX5_hasWord 48 = .ok (.iload_n 3, 1) := by decide +kernel
theorem dX5_hasWord_49 : decode cX5_hasWord 49 = .ok (.iaload, 1) := by decide +kernel
theorem dX5_hasWord_50 : decode cX5_hasWord 50 = .ok (.aload_n 0, 1) := by decide +kernel
theorem dX5_hasWord_51 : decode cX5_hasWord 51 = .ok (.getfield 94, 3) := by decide +kernel
theorem dX5_hasWord_54 : decode cX5_hasWord 54 = .ok (.if_icmp .ne 7, 3) := by decide +kernel
theorem dX5_hasWord_57 : decode cX5_hasWord 57 = .ok (.iconst 1, 1) := by decide +kernel
theorem dX5_hasWord_58 : decode cX5_hasWord 58 = .ok (.goto 4, 3) := by decide +kernel
theorem dX5_hasWord_61 : decode cX5_hasWord 61 = .ok (.iconst 0, 1) := by decide +kernel
theorem dX5_hasWord_62 : decode cX5_hasWord 62 = .ok (.istore_n 2, 1) := by decide +kernel
theorem dX5_hasWord_63 : decode cX5_hasWord 63 = .ok (.iinc 3 1, 3) := by decide +kernel
theorem dX5_hasWord_66 : decode cX5_hasWord 66 = .ok (.goto (-62), 3) := by decide +kernel
theorem dX5_hasWord_69 : decode cX5_hasWord 69 = .ok (.iload_n 2, 1) := by decide +kernel
theorem dX5_hasWord_70 : decode cX5_hasWord 70 = .ok (.ireturn, 1) := by decide +kernel
set_option maxRecDepth 20000 in
theorem ggX5_play_X5_isLetter : GoodIn wsX5_play wsX5_isLetter := goodIn_r _ [8] (by decide +kernel) (by decide +kernel)
set_option maxRecDepth 20000 in
theorem gX5_play_X5_isLetter : GoodIn wsX5_play (va_wsS RX5 61 yX5_isLetter wsX5_isLetter) := goodIn_app (goodIn_of _ (by decide +kernel)) ggX5_play_X5_isLetter
set_option maxRecDepth 20000 in
theorem ggX5_play_X5_goesOn : GoodIn wsX5_play wsX5_goesOn := goodIn_r _ [12, 13, 14, 45, 46, 47, 48, 49, 50, 51, 52, 53, 54, 55, 56, 57, 58, 59, 60, 61, 62, 63] (by decide +kernel) (by decide +kernel)
set_option maxRecDepth 20000 in
theorem gX5_play_X5_goesOn : GoodIn wsX5_play (wsV RX5 103 RX5 yX5_goesOn wsX5_goesOn) := goodIn_app (goodIn_of _ (by decide +kernel)) ggX5_play_X5_goesOn
set_option maxRecDepth 20000 in
theorem ggX5_play_X5_asked_ : GoodIn wsX5_play wsX5_asked_ := goodIn_r _ [18, 19, 45, 46, 47, 48, 49, 50, 51, 52, 53, 54, 55, 56, 57, 58, 59, 60, 61, 62, 63] (by decide +kernel) (by decide +kernel)
set_option maxRecDepth 20000 in
theorem gX5_play_X5_asked_ : GoodIn wsX5_play (wsV RX5 65 RX5 yX5_asked_ wsX5_asked_) := goodIn_app (goodIn_of _ (by decide +kernel)) ggX5_play_X5_asked_
set_option maxRecDepth 20000 in
theorem ggX5_play_X5_hasWord : GoodIn wsX5_play wsX5_hasWord := goodIn_r _ [23, 24, 2, 1, 25, 26, 27, 28, 7, 29, 30, 31, 32, 33, 34, 35, 45, 46, 47, 48, 49, 50, 51, 52, 53, 54, 55, 56, 57, 58, 59, 60, 61, 62, 63] (by decide +kernel) (by decide +kernel)
set_option maxRecDepth 20000 in
theorem gX5_play_X5_hasWord : GoodIn wsX5_play (wsV RX5 107 RX5 yX5_hasWord wsX5_hasWord) := goodIn_app (goodIn_of _ (by decide +kernel)) ggX5_play_X5_hasWord
set_option maxRecDepth 20000 in
theorem ggX5_play_X5_loses : GoodIn wsX5_play wsX5_loses := goodIn_r _ [39, 40, 1, 13, 3, 14, 41, 42, 43, 7, 44, 45, 46, 47, 48, 49, 50, 51, 52, 53, 54, 55, 56, 57, 58, 59, 60, 61, 62, 63] (by decide +kernel) (by decide +kernel)
set_option maxRecDepth 20000 in
theorem gX5_play_X5_loses : GoodIn wsX5_play (wsV RX5 110 RX5 yX5_loses wsX5_loses) := goodIn_app (goodIn_of _ (by decide +kernel)) ggX5_play_X5_loses
set_option maxRecDepth 20000 in
theorem ggX5_play_X5_behind : GoodIn wsX5_play wsX5_behind := goodIn_r _ [44, 13, 40, 45, 46, 47, 48, 49, 50, 51, 52, 53, 54, 55, 56, 57, 58, 59, 60, 61, 62, 63] (by decide +kernel) (by decide +kernel)
set_option maxRecDepth 20000 in
theorem gX5_play_X5_behind : GoodIn wsX5_play (wsV RX5 97 RX5 yX5_behind wsX5_behind) := goodIn_app (goodIn_of _ (by decide +kernel)) ggX5_play_X5_behind
theorem dX5_play_0 : decode cX5_play 0 = .ok (.aload_n 0, 1) := by decide +kernel
theorem dX5_play_1 : decode cX5_play 1 = .ok (.iload_n 1, 1) := by decide +kernel
theorem dX5_play_2 : decode cX5_play 2 = .ok (.invokestatic 61, 3) := by decide +kernel
theorem dX5_play_5 : decode cX5_play 5 = .ok (.aload_n 0, 1) := by decide +kernel
theorem dX5_play_6 : decode cX5_play 6 = .ok (.invokevirtual 103, 3) := by decide +kernel
theorem dX5_play_9 : decode cX5_play 9 = .ok (.ifCond .eq 16, 3) := by decide +kernel
theorem dX5_play_12 : decode cX5_play 12 = .ok (.aload_n 0, 1) := by decide +kernel
theorem dX5_play_13 : decode cX5_play 13 = .ok (.getfield 94, 3) := by decide +kernel
theorem dX5_play_16 : decode cX5_play 16 = .ok (.bipush 10, 2) := by decide +kernel
theorem dX5_play_18 : decode cX5_play 18 = .ok (.if_icmp .ge 7, 3) := by decide +kernel
theorem dX5_play_21 : decode cX5_play 21 = .ok (.iconst 1, 1) := by decide +kernel
theorem dX5_play_22 : decode cX5_play 22 = .ok (.goto 4, 3) := by decide +kernel
theorem dX5_play_25 : decode cX5_play 25 = .ok (.iconst 0, 1) := by decide +kernel
theorem dX5_play_26 : decode cX5_play 26 = .ok (.invokevirtual 65, 3) := by decide +kernel
theorem dX5_play_29 : decode cX5_play 29 = .ok (.ifCond .ne 5, 3) := by decide +kernel
theorem dX5_play_32 : decode cX5_play 32 = .ok (.iconst 0, 1) := by decide +kernel
theorem dX5_play_33 : decode cX5_play 33 = .ok (.ireturn, 1) := by decide +kernel
theorem dX5_play_34 : decode cX5_play 34 = .ok (.aload_n 0, 1) := by decide +kernel
theorem dX5_play_35 : decode cX5_play 35 = .ok (.getfield 29, 3) := by decide +kernel
theorem dX5_play_38 : decode cX5_play 38 = .ok (.aload_n 0, 1) := by decide +kernel
theorem dX5_play_39 : decode cX5_play 39 = .ok (.getfield 94, 3) := by decide +kernel
theorem dX5_play_42 : decode cX5_play 42 = .ok (.iload_n 1, 1) := by decide +kernel
theorem dX5_play_43 : decode cX5_play 43 = .ok (.iastore, 1) := by decide +kernel
theorem dX5_play_44 : decode cX5_play 44 = .ok (.aload_n 0, 1) := by decide +kernel
theorem dX5_play_45 : decode cX5_play 45 = .ok (.dup, 1) := by decide +kernel
theorem dX5_play_46 : decode cX5_play 46 = .ok (.getfield 94, 3) := by decide +kernel
theorem dX5_play_49 : decode cX5_play 49 = .ok (.iconst 1, 1) := by decide +kernel
theorem dX5_play_50 : decode cX5_play 50 = .ok (.iadd, 1) := by decide +kernel
theorem dX5_play_51 : decode cX5_play 51 = .ok (.putfield 94, 3) := by decide +kernel
theorem dX5_play_54 : decode cX5_play 54 = .ok (.aload_n 0, 1) := by decide +kernel
theorem dX5_play_55 : decode cX5_play 55 = .ok (.iconst 1, 1) := by decide +kernel
theorem dX5_play_56 : decode cX5_play 56 = .ok (.invokevirtual 107, 3) := by decide +kernel
theorem dX5_play_59 : decode cX5_play 59 = .ok (.ifCond .eq 12, 3) := by decide +kernel
theorem dX5_play_62 : decode cX5_play 62 = .ok (.aload_n 0, 1) := by decide +kernel
theorem dX5_play_63 : decode cX5_play 63 = .ok (.aload_n 0, 1) := by decide +kernel
theorem dX5_play_64 : decode cX5_play 64 = .ok (.getfield 91, 3) := by decide +kernel
theorem dX5_play_67 : decode cX5_play 67 = .ok (.invokevirtual 110, 3) := by decide +kernel
theorem dX5_play_70 : decode cX5_play 70 = .ok (.ireturn, 1) := by decide +kernel
theorem dX5_play_71 : decode cX5_play 71 = .ok (.aload_n 0, 1) := by decide +kernel
theorem dX5_play_72 : decode cX5_play 72 = .ok (.aload_n 0, 1) := by decide +kernel
theorem dX5_play_73 : decode cX5_play 73 = .ok (.getfield 91, 3) := by decide +kernel
theorem dX5_play_76 : decode cX5_play 76 = .ok (.putfield 113, 3) := by decide +kernel
theorem dX5_play_79 : decode cX5_play 79 = .ok (.aload_n 0, 1) := by decide +kernel
theorem dX5_play_80 : decode cX5_play 80 = .ok (.aload_n 0, 1) := by decide +kernel
theorem dX5_play_81 : decode cX5_play 81 = .ok (.aload_n 0, 1) := by decide +kernel
theorem dX5_play_82 : decode cX5_play 82 = .ok (.getfield 91, 3) := by decide +kernel
theorem dX5_play_85 : decode cX5_play 85 = .ok (.invokevirtual 97, 3) := by decide +kernel
theorem dX5_play_88 : decode cX5_play 88 = .ok (.putfield 91, 3) := by decide +kernel
theorem dX5_play_91 : decode cX5_play 91 = .ok (.iconst (-1), 1) := by decide +kernel
theorem dX5_play_92 : decode cX5_play 92 = .ok (.ireturn, 1) := by decide +kernel
set_option maxRecDepth 20000 in
theorem ggX5_challenge_X5_goesOn : GoodIn wsX5_challenge wsX5_goesOn := goodIn_r _ [8, 9, 10, 42, 43, 44, 45, 46, 47, 48, 49, 50, 51, 52, 53, 54, 55, 56, 57, 58, 59, 60] (by decide +kernel) (by decide +kernel)
set_option maxRecDepth 20000 in
theorem gX5_challenge_X5_goesOn : GoodIn wsX5_challenge (wsV RX5 103 RX5 yX5_goesOn wsX5_goesOn) := goodIn_app (goodIn_of _ (by decide +kernel)) ggX5_challenge_X5_goesOn
set_option maxRecDepth 20000 in
theorem ggX5_challenge_X5_asked : GoodIn wsX5_challenge wsX5_asked := goodIn_r _ [14, 15, 42, 43, 44, 45, 46, 47, 48, 49, 50, 51, 52, 53, 54, 55, 56, 57, 58, 59, 60] (by decide +kernel) (by decide +kernel)
set_option maxRecDepth 20000 in
theorem gX5_challenge_X5_asked : GoodIn wsX5_challenge (wsV RX5 73 RX5 yX5_asked wsX5_asked) := goodIn_app (goodIn_of _ (by decide +kernel)) ggX5_challenge_X5_asked
set_option maxRecDepth 20000 in
theorem ggX5_challenge_X5_hasWord : GoodIn wsX5_challenge wsX5_hasWord := goodIn_r _ [19, 20, 21, 1, 22, 23, 24, 25, 7, 26, 27, 28, 29, 30, 31, 32, 42, 43, 44, 45, 46, 47, 48, 49, 50, 51, 52, 53, 54, 55, 56, 57, 58, 59, 60] (by decide +kernel) (by decide +kernel)
set_option maxRecDepth 20000 in
theorem gX5_challenge_X5_hasWord : GoodIn wsX5_challenge (wsV RX5 107 RX5 yX5_hasWord wsX5_hasWord) := goodIn_app (goodIn_of _ (by decide +kernel)) ggX5_challenge_X5_hasWord
set_option maxRecDepth 20000 in
theorem ggX5_challenge_X5_loses : GoodIn wsX5_challenge wsX5_loses := goodIn_r _ [36, 37, 1, 9, 2, 10, 38, 39, 40, 7, 41, 42, 43, 44, 45, 46, 47, 48, 49, 50, 51, 52, 53, 54, 55, 56, 57, 58, 59, 60] (by decide +kernel) (by decide +kernel)
set_option maxRecDepth 20000 in
theorem gX5_challenge_X5_loses : GoodIn wsX5_challenge (wsV RX5 110 RX5 yX5_loses wsX5_loses) := goodIn_app (goodIn_of _ (by decide +kernel)) ggX5_challenge_X5_loses
theorem dX5_challenge_0 : decode cX5_challenge 0 = .ok (.aload_n 0, 1) := by decide +kernel
theorem dX5_challenge_1 : decode cX5_challenge 1 = .ok (.aload_n 0, 1) := by decide +kernel
theorem dX5_challenge_2 : decode cX5_challenge 2 = .ok (.invokevirtual 103, 3) := by decide +kernel
theorem dX5_challenge_5 : decode cX5_challenge 5 = .ok (.ifCond .eq 14, 3) := by decide +kernel
theorem dX5_challenge_8 : decode cX5_challenge 8 = .ok (.aload_n 0, 1) := by decide +kernel
theorem dX5_challenge_9 : decode cX5_challenge 9 = .ok (.getfield 94, 3) := by decide +kernel
theorem dX5_challenge_12 : decode cX5_challenge 12 = .ok (.ifCond .le 7, 3) := by decide +kernel
theorem dX5_challenge_15 : decode cX5_challenge 15 = .ok (.iconst 1, 1) := by decide +kernel
theorem dX5_challenge_16 : decode cX5_challenge 16 = .ok (.goto 4, 3) := by decide +kernel
theorem dX5_challenge_19 : decode cX5_challenge 19 = .ok (.iconst 0, 1) := by decide +kernel
theorem dX5_challenge_20 : decode cX5_challenge 20 = .ok (.invokevirtual 73, 3) := by decide +kernel
theorem dX5_challenge_23 : decode cX5_challenge 23 = .ok (.ifCond .ne 5, 3) := by decide +kernel
theorem dX5_challenge_26 : decode cX5_challenge 26 = .ok (.iconst 0, 1) := by decide +kernel
theorem dX5_challenge_27 : decode cX5_challenge 27 = .ok (.ireturn, 1) := by decide +kernel
theorem dX5_challenge_28 : decode cX5_challenge 28 = .ok (.aload_n 0, 1) := by decide +kernel
theorem dX5_challenge_29 : decode cX5_challenge 29 = .ok (.aload_n 0, 1) := by decide +kernel
theorem dX5_challenge_30 : decode cX5_challenge 30 = .ok (.iconst 0, 1) := by decide +kernel
theorem dX5_challenge_31 : decode cX5_challenge 31 = .ok (.invokevirtual 107, 3) := by decide +kernel
theorem dX5_challenge_34 : decode cX5_challenge 34 = .ok (.ifCond .eq 10, 3) := by decide +kernel
theorem dX5_challenge_37 : decode cX5_challenge 37 = .ok (.aload_n 0, 1) := by decide +kernel
theorem dX5_challenge_38 : decode cX5_challenge 38 = .ok (.getfield 91, 3) := by decide +kernel
theorem dX5_challenge_41 : decode cX5_challenge 41 = .ok (.goto 7, 3) := by decide +kernel
theorem dX5_challenge_44 : decode cX5_challenge 44 = .ok (.aload_n 0, 1) := by decide +kernel
theorem dX5_challenge_45 : decode cX5_challenge 45 = .ok (.getfield 113, 3) := by decide +kernel
theorem dX5_challenge_48 : decode cX5_challenge 48 = .ok (.invokevirtual 110, 3) := by decide +kernel
theorem dX5_challenge_51 : decode cX5_challenge 51 = .ok (.ireturn, 1) := by decide +kernel
set_option maxRecDepth 20000 in
theorem ggX5_turn_X5_goesOn : GoodIn wsX5_turn wsX5_goesOn := goodIn_r _ [6, 7, 8, 14, 15, 16, 17, 18, 19, 20, 21, 22, 23, 24, 25, 26, 27, 28, 29, 30, 31, 32] (by decide +kernel) (by decide +kernel)
set_option maxRecDepth 20000 in
theorem gX5_turn_X5_goesOn : GoodIn wsX5_turn (wsV RX5 103 RX5 yX5_goesOn wsX5_goesOn) := goodIn_app (goodIn_of _ (by decide +kernel)) ggX5_turn_X5_goesOn
set_option maxRecDepth 20000 in
theorem ggX5_turn_X5_told : GoodIn wsX5_turn wsX5_told := goodIn_r _ [12, 13, 14, 15, 16, 17, 18, 19, 20, 21, 22, 23, 24, 25, 26, 27, 28, 29, 30, 31, 32] (by decide +kernel) (by decide +kernel)
set_option maxRecDepth 20000 in
theorem gX5_turn_X5_told : GoodIn wsX5_turn (wsV RX5 69 RX5 yX5_told wsX5_told) := goodIn_app (goodIn_of _ (by decide +kernel)) ggX5_turn_X5_told
theorem dX5_turn_0 : decode cX5_turn 0 = .ok (.aload_n 0, 1) := by decide +kernel
theorem dX5_turn_1 : decode cX5_turn 1 = .ok (.aload_n 0, 1) := by decide +kernel
theorem dX5_turn_2 : decode cX5_turn 2 = .ok (.invokevirtual 103, 3) := by decide +kernel
theorem dX5_turn_5 : decode cX5_turn 5 = .ok (.ifCond .eq 10, 3) := by decide +kernel
theorem dX5_turn_8 : decode cX5_turn 8 = .ok (.aload_n 0, 1) := by decide +kernel
theorem dX5_turn_9 : decode cX5_turn 9 = .ok (.getfield 91, 3) := by decide +kernel
theorem dX5_turn_12 : decode cX5_turn 12 = .ok (.goto 4, 3) := by decide +kernel
theorem dX5_turn_15 : decode cX5_turn 15 = .ok (.iconst (-1), 1) := by decide +kernel
theorem dX5_turn_16 : decode cX5_turn 16 = .ok (.invokevirtual 69, 3) := by decide +kernel
theorem dX5_turn_19 : decode cX5_turn 19 = .ok (.ireturn, 1) := by decide +kernel
set_option maxRecDepth 20000 in
theorem ggX5_winner_X5_told : GoodIn wsX5_winner wsX5_told := goodIn_r _ [6, 7, 8, 9, 10, 11, 12, 13, 14, 15, 16, 17, 18, 19, 20, 21, 22, 23, 24, 25, 26] (by decide +kernel) (by decide +kernel)
set_option maxRecDepth 20000 in
theorem gX5_winner_X5_told : GoodIn wsX5_winner (wsV RX5 69 RX5 yX5_told wsX5_told) := goodIn_app (goodIn_of _ (by decide +kernel)) ggX5_winner_X5_told
theorem dX5_winner_0 : decode cX5_winner 0 = .ok (.aload_n 0, 1) := by decide +kernel
theorem dX5_winner_1 : decode cX5_winner 1 = .ok (.aload_n 0, 1) := by decide +kernel
theorem dX5_winner_2 : decode cX5_winner 2 = .ok (.getfield 26, 3) := by decide +kernel
theorem dX5_winner_5 : decode cX5_winner 5 = .ok (.invokevirtual 69, 3) := by decide +kernel
theorem dX5_winner_8 : decode cX5_winner 8 = .ok (.ireturn, 1) := by decide +kernel
set_option maxRecDepth 20000 in
theorem ggX5_players_X5_told : GoodIn wsX5_players wsX5_told := goodIn_r _ [6, 7, 8, 9, 10, 11, 12, 13, 14, 15, 16, 17, 18, 19, 20, 21, 22, 23, 24, 25, 26] (by decide +kernel) (by decide +kernel)
set_option maxRecDepth 20000 in
theorem gX5_players_X5_told : GoodIn wsX5_players (wsV RX5 69 RX5 yX5_told wsX5_told) := goodIn_app (goodIn_of _ (by decide +kernel)) ggX5_players_X5_told
theorem dX5_players_0 : decode cX5_players 0 = .ok (.aload_n 0, 1) := by decide +kernel
theorem dX5_players_1 : decode cX5_players 1 = .ok (.aload_n 0, 1) := by decide +kernel
theorem dX5_players_2 : decode cX5_players 2 = .ok (.getfield 88, 3) := by decide +kernel
theorem dX5_players_5 : decode cX5_players 5 = .ok (.invokevirtual 69, 3) := by decide +kernel
theorem dX5_players_8 : decode cX5_players 8 = .ok (.ireturn, 1) := by decide +kernel
set_option maxRecDepth 20000 in
theorem ggX5_strikes_X5_asked : GoodIn wsX5_strikes wsX5_asked := goodIn_r _ [7, 8, 9, 10, 11, 12, 13, 14, 15, 16, 17, 18, 19, 20, 21, 22, 23, 24, 25, 26, 27] (by decide +kernel) (by decide +kernel)
set_option maxRecDepth 20000 in
theorem gX5_strikes_X5_asked : GoodIn wsX5_strikes (wsV RX5 73 RX5 yX5_asked wsX5_asked) := goodIn_app (goodIn_of _ (by decide +kernel)) ggX5_strikes_X5_asked
theorem dX5_strikes_0 : decode cX5_strikes 0 = .ok (.aload_n 0, 1) := by decide +kernel
theorem dX5_strikes_1 : decode cX5_strikes 1 = .ok (.iload_n 1, 1) := by decide +kernel
theorem dX5_strikes_2 : decode cX5_strikes 2 = .ok (.ifCond .lt 15, 3) := by decide +kernel
theorem dX5_strikes_5 : decode cX5_strikes 5 = .ok (.iload_n 1, 1) := by decide +kernel
theorem dX5_strikes_6 : decode cX5_strikes 6 = .ok (.aload_n 0, 1) := by decide +kernel
theorem dX5_strikes_7 : decode cX5_strikes 7 = .ok (.getfield 88, 3) := by decide +kernel
theorem dX5_strikes_10 : decode cX5_strikes 10 = .ok (.if_icmp .ge 7, 3) := by decide +kernel
theorem dX5_strikes_13 : decode cX5_strikes 13 = .ok (.iconst 1, 1) := by decide +kernel
theorem dX5_strikes_14 : decode cX5_strikes 14 = .ok (.goto 4, 3) := by decide +kernel
theorem dX5_strikes_17 : decode cX5_strikes 17 = .ok (.iconst 0, 1) := by decide +kernel
theorem dX5_strikes_18 : decode cX5_strikes 18 = .ok (.invokevirtual 73, 3) := by decide +kernel
theorem dX5_strikes_21 : decode cX5_strikes 21 = .ok (.ifCond .eq 12, 3) := by decide +kernel
theorem dX5_strikes_24 : decode cX5_strikes 24 = .ok (.aload_n 0, 1) := by decide +kernel
theorem dX5_strikes_25 : decode cX5_strikes 25 = .ok (.getfield 23, 3) := by decide +kernel
theorem dX5_strikes_28 : decode cX5_strikes 28 = .ok (.iload_n 1, 1) := by decide +kernel
theorem dX5_strikes_29 : decode cX5_strikes 29 = .ok (.iaload, 1) := by decide +kernel
theorem dX5_strikes_30 : decode cX5_strikes 30 = .ok (.goto 4, 3) := by decide +kernel
theorem dX5_strikes_33 : decode cX5_strikes 33 = .ok (.iconst 0, 1) := by decide +kernel
theorem dX5_strikes_34 : decode cX5_strikes 34 = .ok (.ireturn, 1) := by decide +kernel
set_option maxRecDepth 20000 in
theorem ggX5_fragmentLength_X5_told : GoodIn wsX5_fragmentLength wsX5_told := goodIn_r _ [6, 7, 8, 9, 10, 11, 12, 13, 14, 15, 16, 17, 18, 19, 20, 21, 22, 23, 24, 25, 26] (by decide +kernel) (by decide +kernel)
set_option maxRecDepth 20000 in
theorem gX5_fragmentLength_X5_told : GoodIn wsX5_fragmentLength (wsV RX5 69 RX5 yX5_told wsX5_told) := goodIn_app (goodIn_of _ (by decide +kernel)) ggX5_fragmentLength_X5_told
theorem dX5_fragmentLength_0 : decode cX5_fragmentLength 0 = .ok (.aload_n 0, 1) := by decide +kernel
theorem dX5_fragmentLength_1 : decode cX5_fragmentLength 1 = .ok (.aload_n 0, 1) := by decide +kernel
theorem dX5_fragmentLength_2 : decode cX5_fragmentLength 2 = .ok (.getfield 94, 3) := by decide +kernel
theorem dX5_fragmentLength_5 : decode cX5_fragmentLength 5 = .ok (.invokevirtual 69, 3) := by decide +kernel
theorem dX5_fragmentLength_8 : decode cX5_fragmentLength 8 = .ok (.ireturn, 1) := by decide +kernel
set_option maxRecDepth 20000 in
theorem ggX5_fragmentAt_X5_asked : GoodIn wsX5_fragmentAt wsX5_asked := goodIn_r _ [7, 8, 9, 10, 11, 12, 13, 14, 15, 16, 17, 18, 19, 20, 21, 22, 23, 24, 25, 26, 27] (by decide +kernel) (by decide +kernel)
set_option maxRecDepth 20000 in
theorem gX5_fragmentAt_X5_asked : GoodIn wsX5_fragmentAt (wsV RX5 73 RX5 yX5_asked wsX5_asked) := goodIn_app (goodIn_of _ (by decide +kernel)) ggX5_fragmentAt_X5_asked
theorem dX5_fragmentAt_0 : decode cX5_fragmentAt 0 = .ok (.aload_n 0, 1) := by decide +kernel
theorem dX5_fragmentAt_1 : decode cX5_fragmentAt 1 = .ok (.iload_n 1, 1) := by decide +kernel
theorem dX5_fragmentAt_2 : decode cX5_fragmentAt 2 = .ok (.ifCond .lt 15, 3) := by decide +kernel
theorem dX5_fragmentAt_5 : decode cX5_fragmentAt 5 = .ok (.iload_n 1, 1) := by decide +kernel
theorem dX5_fragmentAt_6 : decode cX5_fragmentAt 6 = .ok (.aload_n 0, 1) := by decide +kernel
theorem dX5_fragmentAt_7 : decode cX5_fragmentAt 7 = .ok (.getfield 94, 3) := by decide +kernel
theorem dX5_fragmentAt_10 : decode cX5_fragmentAt 10 = .ok (.if_icmp .ge 7, 3) := by decide +kernel
theorem dX5_fragmentAt_13 : decode cX5_fragmentAt 13 = .ok (.iconst 1, 1) := by decide +kernel
theorem dX5_fragmentAt_14 : decode cX5_fragmentAt 14 = .ok (.goto 4, 3) := by decide +kernel
theorem dX5_fragmentAt_17 : decode cX5_fragmentAt 17 = .ok (.iconst 0, 1) := by decide +kernel
theorem dX5_fragmentAt_18 : decode cX5_fragmentAt 18 = .ok (.invokevirtual 73, 3) := by decide +kernel
theorem dX5_fragmentAt_21 : decode cX5_fragmentAt 21 = .ok (.ifCond .eq 12, 3) := by decide +kernel
theorem dX5_fragmentAt_24 : decode cX5_fragmentAt 24 = .ok (.aload_n 0, 1) := by decide +kernel
theorem dX5_fragmentAt_25 : decode cX5_fragmentAt 25 = .ok (.getfield 29, 3) := by decide +kernel
theorem dX5_fragmentAt_28 : decode cX5_fragmentAt 28 = .ok (.iload_n 1, 1) := by decide +kernel
theorem dX5_fragmentAt_29 : decode cX5_fragmentAt 29 = .ok (.iaload, 1) := by decide +kernel
theorem dX5_fragmentAt_30 : decode cX5_fragmentAt 30 = .ok (.goto 4, 3) := by decide +kernel
theorem dX5_fragmentAt_33 : decode cX5_fragmentAt 33 = .ok (.iconst 0, 1) := by decide +kernel
theorem dX5_fragmentAt_34 : decode cX5_fragmentAt 34 = .ok (.ireturn, 1) := by decide +kernel
set_option maxRecDepth 20000 in
theorem ggX5_isWhole_X5_counts : GoodIn wsX5_isWhole wsX5_counts := goodIn_r _ [7, 2, 8, 14, 15, 16, 17, 18, 19, 20, 21, 22, 23, 24, 25, 26, 27, 28, 29, 30, 31, 32] (by decide +kernel) (by decide +kernel)
set_option maxRecDepth 20000 in
theorem gX5_isWhole_X5_counts : GoodIn wsX5_isWhole (wsV RX5 100 RX5 yX5_counts wsX5_counts) := goodIn_app (goodIn_of _ (by decide +kernel)) ggX5_isWhole_X5_counts
set_option maxRecDepth 20000 in
theorem ggX5_isWhole_X5_areAlike : GoodIn wsX5_isWhole wsX5_areAlike := goodIn_r _ [12, 2, 13, 14, 15, 16, 17, 18, 19, 20, 21, 22, 23, 24, 25, 26, 27, 28, 29, 30, 31, 32] (by decide +kernel) (by decide +kernel)
set_option maxRecDepth 20000 in
theorem gX5_isWhole_X5_areAlike : GoodIn wsX5_isWhole (wsV RX5 80 RX5 yX5_areAlike wsX5_areAlike) := goodIn_app (goodIn_of _ (by decide +kernel)) ggX5_isWhole_X5_areAlike
theorem dX5_isWhole_0 : decode cX5_isWhole 0 = .ok (.iconst 0, 1) := by decide +kernel
theorem dX5_isWhole_1 : decode cX5_isWhole 1 = .ok (.istore_n 3, 1) := by decide +kernel
theorem dX5_isWhole_2 : decode cX5_isWhole 2 = .ok (.iconst 0, 1) := by decide +kernel
theorem dX5_isWhole_3 : decode cX5_isWhole 3 = .ok (.istore 4, 2) := by decide +kernel
theorem dX5_isWhole_5 : decode cX5_isWhole 5 = .ok (.iload 4, 2) := by decide +kernel
theorem dX5_isWhole_7 : decode cX5_isWhole 7 = .ok (.aload_n 0, 1) := by decide +kernel
theorem dX5_isWhole_8 : decode cX5_isWhole 8 = .ok (.getfield 51, 3) := by decide +kernel
theorem dX5_isWhole_11 : decode cX5_isWhole 11 = .ok (.if_icmp .ge 50, 3) := by decide +kernel
theorem dX5_isWhole_14 : decode cX5_isWhole 14 = .ok (.iload_n 3, 1) := by decide +kernel
theorem dX5_isWhole_15 : decode cX5_isWhole 15 = .ok (.ifCond .ne 34, 3) := by decide +kernel
theorem dX5_isWhole_18 : decode cX5_isWhole 18 = .ok (.aload_n 0, 1) := by decide +kernel
theorem dX5_isWhole_19 : decode cX5_isWhole 19 = .ok (.iload 4, 2) := by decide +kernel
theorem dX5_isWhole_21 : decode cX5_isWhole 21 = .ok (.invokevirtual 100, 3) := by decide +kernel
theorem dX5_isWhole_24 : decode cX5_isWhole 24 = .ok (.ifCond .eq 29, 3) := by decide +kernel
theorem dX5_isWhole_27 : decode cX5_isWhole 27 = .ok (.aload_n 0, 1) := by decide +kernel
theorem dX5_isWhole_28 : decode cX5_isWhole 28 = .ok (.getfield 16, 3) := by decide +kernel
theorem dX5_isWhole_31 : decode cX5_isWhole 31 = .ok (.iload 4, 2) := by decide +kernel
theorem dX5_isWhole_33 : decode cX5_isWhole 33 = .ok (.iaload, 1) := by decide +kernel
theorem dX5_isWhole_34 : decode cX5_isWhole 34 = .ok (.iload_n 2, 1) := by decide +kernel
theorem dX5_isWhole_35 : decode cX5_isWhole 35 = .ok (.if_icmp .ne 18, 3) := by decide +kernel
theorem dX5_isWhole_38 : decode cX5_isWhole 38 = .ok (.aload_n 0, 1) := by decide +kernel
theorem dX5_isWhole_39 : decode cX5_isWhole 39 = .ok (.iload 4, 2) := by decide +kernel
theorem dX5_isWhole_41 : decode cX5_isWhole 41 = .ok (.iload_n 1, 1) := by decide +kernel
theorem dX5_isWhole_42 : decode cX5_isWhole 42 = .ok (.iload_n 2, 1) := by decide +kernel
theorem dX5_isWhole_43 : decode cX5_isWhole 43 = .ok (.invokevirtual 80, 3) := by decide +kernel
theorem dX5_isWhole_46 : decode cX5_isWhole 46 = .ok (.ifCond .eq 7, 3) := by decide +kernel
theorem dX5_isWhole_49 : decode cX5_isWhole 49 = .ok (.iconst 1, 1) := by decide +kernel
theorem dX5_isWhole_50 : decode cX5_isWhole 50 = .ok (.goto 4, 3) := by decide +kernel
theorem dX5_isWhole_53 : decode cX5_isWhole 53 = .ok (.iconst 0, 1) := by decide +kernel
theorem dX5_isWhole_54 : decode cX5_isWhole 54 = .ok (.istore_n 3, 1) := by decide +kernel
theorem dX5_isWhole_55 : decode cX5_isWhole 55 = .ok (.iinc 4 1, 3) := by decide +kernel
theorem dX5_isWhole_58 : decode cX5_isWhole 58 = .ok (.goto (-53), 3) := by decide +kernel
theorem dX5_isWhole_61 : decode cX5_isWhole 61 = .ok (.iload_n 3, 1) := by decide +kernel
theorem dX5_isWhole_62 : decode cX5_isWhole 62 = .ok (.ireturn, 1) := by decide +kernel
set_option maxRecDepth 20000 in
theorem ggX5_solves_X5_counts : GoodIn wsX5_solves wsX5_counts := goodIn_r _ [13, 4, 14, 27, 28, 29, 30, 31, 32, 33, 34, 35, 36, 37, 38, 39, 40, 41, 42, 43, 44, 45] (by decide +kernel) (by decide +kernel)
set_option maxRecDepth 20000 in
theorem gX5_solves_X5_counts : GoodIn wsX5_solves (wsV RX5 100 RX5 yX5_counts wsX5_counts) := goodIn_app (goodIn_of _ (by decide +kernel)) ggX5_solves_X5_counts
set_option maxRecDepth 20000 in
theorem ggX5_solves_X5_areAlike : GoodIn wsX5_solves wsX5_areAlike := goodIn_r _ [18, 4, 5, 27, 28, 29, 30, 31, 32, 33, 34, 35, 36, 37, 38, 39, 40, 41, 42, 43, 44, 45] (by decide +kernel) (by decide +kernel)
set_option maxRecDepth 20000 in
theorem gX5_solves_X5_areAlike : GoodIn wsX5_solves (wsV RX5 80 RX5 yX5_areAlike wsX5_areAlike) := goodIn_app (goodIn_of _ (by decide +kernel)) ggX5_solves_X5_areAlike
set_option maxRecDepth 20000 in
theorem ggX5_solves_X5_isWhole : GoodIn wsX5_solves wsX5_isWhole := goodIn_r _ [22, 3, 4, 9, 10, 11, 12, 13, 14, 15, 16, 17, 18, 5, 27, 28, 29, 30, 31, 32, 33, 34, 35, 36, 37, 38, 39, 40, 41, 42, 43, 44, 45] (by decide +kernel) (by decide +kernel)
set_option maxRecDepth 20000 in
theorem gX5_solves_X5_isWhole : GoodIn wsX5_solves (wsV RX5 116 RX5 yX5_isWhole wsX5_isWhole) := goodIn_app (goodIn_of _ (by decide +kernel)) ggX5_solves_X5_isWhole
set_option maxRecDepth 20000 in
theorem ggX5_solves_X5_endBehind : GoodIn wsX5_solves wsX5_endBehind := goodIn_r _ [26, 3, 4, 5, 7, 9, 10, 11, 12, 13, 14, 15, 16, 17, 18, 19, 20, 21, 22, 27, 28, 29, 30, 31, 32, 33, 34, 35, 36, 37, 38, 39, 40, 41, 42, 43, 44, 45] (by decide +kernel) (by decide +kernel)
set_option maxRecDepth 20000 in
theorem gX5_solves_X5_endBehind : GoodIn wsX5_solves (wsV RX5 119 RX5 yX5_endBehind wsX5_endBehind) := goodIn_app (goodIn_of _ (by decide +kernel)) ggX5_solves_X5_endBehind
theorem dX5_solves_0 : decode cX5_solves 0 = .ok (.bipush 11, 2) := by decide +kernel
theorem dX5_solves_2 : decode cX5_solves 2 = .ok (.iload_n 1, 1) := by decide +kernel
theorem dX5_solves_3 : decode cX5_solves 3 = .ok (.imul, 1) := by decide +kernel
theorem dX5_solves_4 : decode cX5_solves 4 = .ok (.iload_n 2, 1) := by decide +kernel
theorem dX5_solves_5 : decode cX5_solves 5 = .ok (.iadd, 1) := by decide +kernel
theorem dX5_solves_6 : decode cX5_solves 6 = .ok (.istore_n 3, 1) := by decide +kernel
theorem dX5_solves_7 : decode cX5_solves 7 = .ok (.aload_n 0, 1) := by decide +kernel
theorem dX5_solves_8 : decode cX5_solves 8 = .ok (.getfield 45, 3) := by decide +kernel
theorem dX5_solves_11 : decode cX5_solves 11 = .ok (.iload_n 3, 1) := by decide +kernel
theorem dX5_solves_12 : decode cX5_solves 12 = .ok (.iconst 0, 1) := by decide +kernel
theorem dX5_solves_13 : decode cX5_solves 13 = .ok (.iastore, 1) := by decide +kernel
theorem dX5_solves_14 : decode cX5_solves 14 = .ok (.aload_n 0, 1) := by decide +kernel
theorem dX5_solves_15 : decode cX5_solves 15 = .ok (.getfield 42, 3) := by decide +kernel
theorem dX5_solves_18 : decode cX5_solves 18 = .ok (.iload_n 3, 1) := by decide +kernel
theorem dX5_solves_19 : decode cX5_solves 19 = .ok (.iconst 0, 1) := by decide +kernel
theorem dX5_solves_20 : decode cX5_solves 20 = .ok (.iastore, 1) := by decide +kernel
theorem dX5_solves_21 : decode cX5_solves 21 = .ok (.iconst 0, 1) := by decide +kernel
theorem dX5_solves_22 : decode cX5_solves 22 = .ok (.istore 4, 2) := by decide +kernel
theorem dX5_solves_24 : decode cX5_solves 24 = .ok (.iload 4, 2) := by decide +kernel
theorem dX5_solves_26 : decode cX5_solves 26 = .ok (.aload_n 0, 1) := by decide +kernel
theorem dX5_solves_27 : decode cX5_solves 27 = .ok (.getfield 51, 3) := by decide +kernel
theorem dX5_solves_30 : decode cX5_solves 30 = .ok (.if_icmp .ge 113, 3) := by decide +kernel
theorem dX5_solves_33 : decode cX5_solves 33 = .ok (.aload_n 0, 1) := by decide +kernel
theorem dX5_solves_34 : decode cX5_solves 34 = .ok (.iload 4, 2) := by decide +kernel
theorem dX5_solves_36 : decode cX5_solves 36 = .ok (.invokevirtual 100, 3) := by decide +kernel
theorem dX5_solves_39 : decode cX5_solves 39 = .ok (.ifCond .eq 98, 3) := by decide +kernel
theorem dX5_solves_42 : decode cX5_solves 42 = .ok (.aload_n 0, 1) := by decide +kernel
theorem dX5_solves_43 : decode cX5_solves 43 = .ok (.getfield 16, 3) := by decide +kernel
theorem dX5_solves_46 : decode cX5_solves 46 = .ok (.iload 4, 2) := by decide +kernel
theorem dX5_solves_48 : decode cX5_solves 48 = .ok (.iaload, 1) := by decide +kernel
theorem dX5_solves_49 : decode cX5_solves 49 = .ok (.iload_n 2, 1) := by decide +kernel
theorem dX5_solves_50 : decode cX5_solves 50 = .ok (.if_icmp .le 87, 3) := by decide +kernel
theorem dX5_solves_53 : decode cX5_solves 53 = .ok (.aload_n 0, 1) := by decide +kernel
theorem dX5_solves_54 : decode cX5_solves 54 = .ok (.iload 4, 2) := by decide +kernel
theorem dX5_solves_56 : decode cX5_solves 56 = .ok (.iload_n 1, 1) := by decide +kernel
theorem dX5_solves_57 : decode cX5_solves 57 = .ok (.iload_n 2, 1) := by decide +kernel
theorem dX5_solves_58 : decode cX5_solves 58 = .ok (.invokevirtual 80, 3) := by decide +kernel
theorem dX5_solves_61 : decode cX5_solves 61 = .ok (.ifCond .eq 76, 3) := by decide +kernel
theorem dX5_solves_64 : decode cX5_solves 64 = .ok (.aload_n 0, 1) := by decide +kernel
theorem dX5_solves_65 : decode cX5_solves 65 = .ok (.getfield 13, 3) := by decide +kernel
theorem dX5_solves_68 : decode cX5_solves 68 = .ok (.bipush 10, 2) := by decide +kernel
theorem dX5_solves_70 : decode cX5_solves 70 = .ok (.iload 4, 2) := by decide +kernel
theorem dX5_solves_72 : decode cX5_solves 72 = .ok (.imul, 1) := by decide +kernel
theorem dX5_solves_73 : decode cX5_solves 73 = .ok (.iload_n 2, 1) := by decide +kernel
theorem dX5_solves_74 : decode cX5_solves 74 = .ok (.iadd, 1) := by decide +kernel
theorem dX5_solves_75 : decode cX5_solves 75 = .ok (.iaload, 1) := by decide +kernel
theorem dX5_solves_76 : decode cX5_solves 76 = .ok (.istore 5, 2) := by decide +kernel
theorem dX5_solves_78 : decode cX5_solves 78 = .ok (.aload_n 0, 1) := by decide +kernel
theorem dX5_solves_79 : decode cX5_solves 79 = .ok (.getfield 45, 3) := by decide +kernel
theorem dX5_solves_82 : decode cX5_solves 82 = .ok (.iload_n 3, 1) := by decide +kernel
theorem dX5_solves_83 : decode cX5_solves 83 = .ok (.dup2, 1) := by decide +kernel
theorem dX5_solves_84 : decode cX5_solves 84 = .ok (.iaload, 1) := by decide +kernel
theorem dX5_solves_85 : decode cX5_solves 85 = .ok (.iconst 1, 1) := by decide +kernel
theorem dX5_solves_86 : decode cX5_solves 86 = .ok (.iload 5, 2) := by decide +kernel
theorem dX5_solves_88 : decode cX5_solves 88 = .ok (.ishl, 1) := by decide +kernel
theorem dX5_solves_89 : decode cX5_solves 89 = .ok (.ior, 1) := by decide +kernel
theorem dX5_solves_90 : decode cX5_solves 90 = .ok (.iastore, 1) := by decide +kernel
theorem dX5_solves_91 : decode cX5_solves 91 = .ok (.aload_n 0, 1) := by decide +kernel
theorem dX5_solves_92 : decode cX5_solves 92 = .ok (.getfield 42, 3) := by decide +kernel
theorem dX5_solves_95 : decode cX5_solves 95 = .ok (.iload_n 3, 1) := by decide +kernel
theorem dX5_solves_96 : decode cX5_solves 96 = .ok (.dup2, 1) := by decide +kernel
theorem dX5_solves_97 : decode cX5_solves 97 = .ok (.iaload, 1) := by decide +kernel
theorem dX5_solves_98 : decode cX5_solves 98 = .ok (.aload_n 0, 1) := by decide +kernel
theorem dX5_solves_99 : decode cX5_solves 99 = .ok (.iload 4, 2) := by decide +kernel
theorem dX5_solves_101 : decode cX5_solves 101 = .ok (.iload_n 2, 1) := by decide +kernel
theorem dX5_solves_102 : decode cX5_solves 102 = .ok (.iconst 1, 1) := by decide +kernel
theorem dX5_solves_103 : decode cX5_solves 103 = .ok (.iadd, 1) := by decide +kernel
theorem dX5_solves_104 : decode cX5_solves 104 = .ok (.invokevirtual 116, 3) := by decide +kernel
theorem dX5_solves_107 : decode cX5_solves 107 = .ok (.ifCond .ne 27, 3) := by decide +kernel
theorem dX5_solves_110 : decode cX5_solves 110 = .ok (.aload_n 0, 1) := by decide +kernel
theorem dX5_solves_111 : decode cX5_solves 111 = .ok (.getfield 32, 3) := by decide +kernel
theorem dX5_solves_114 : decode cX5_solves 114 = .ok (.bipush 11, 2) := by decide +kernel
theorem dX5_solves_116 : decode cX5_solves 116 = .ok (.iload 4, 2) := by decide +kernel
theorem dX5_solves_118 : decode cX5_solves 118 = .ok (.imul, 1) := by decide +kernel
theorem dX5_solves_119 : decode cX5_solves 119 = .ok (.iload_n 2, 1) := by decide +kernel
theorem dX5_solves_120 : decode cX5_solves 120 = .ok (.iadd, 1) := by decide +kernel
theorem dX5_solves_121 : decode cX5_solves 121 = .ok (.iconst 1, 1) := by decide +kernel
theorem dX5_solves_122 : decode cX5_solves 122 = .ok (.iadd, 1) := by decide +kernel
theorem dX5_solves_123 : decode cX5_solves 123 = .ok (.baload, 1) := by decide +kernel
theorem dX5_solves_124 : decode cX5_solves 124 = .ok (.ifCond .ne 10, 3) := by decide +kernel
theorem dX5_solves_127 : decode cX5_solves 127 = .ok (.iconst 1, 1) := by decide +kernel
theorem dX5_solves_128 : decode cX5_solves 128 = .ok (.iload 5, 2) := by decide +kernel
theorem dX5_solves_130 : decode cX5_solves 130 = .ok (.ishl, 1) := by decide +kernel
theorem dX5_solves_131 : decode cX5_solves 131 = .ok (.goto 4, 3) := by decide +kernel
theorem dX5_solves_134 : decode cX5_solves 134 = .ok (.iconst 0, 1) := by decide +kernel
theorem dX5_solves_135 : decode cX5_solves 135 = .ok (.ior, 1) := by decide +kernel
theorem dX5_solves_136 : decode cX5_solves 136 = .ok (.iastore, 1) := by decide +kernel
theorem dX5_solves_137 : decode cX5_solves 137 = .ok (.iinc 4 1, 3) := by decide +kernel
theorem dX5_solves_140 : decode cX5_solves 140 = .ok (.goto (-116), 3) := by decide +kernel
theorem dX5_solves_143 : decode cX5_solves 143 = .ok (.aload_n 0, 1) := by decide +kernel
theorem dX5_solves_144 : decode cX5_solves 144 = .ok (.getfield 32, 3) := by decide +kernel
theorem dX5_solves_147 : decode cX5_solves 147 = .ok (.iload_n 3, 1) := by decide +kernel
theorem dX5_solves_148 : decode cX5_solves 148 = .ok (.aload_n 0, 1) := by decide +kernel
theorem dX5_solves_149 : decode cX5_solves 149 = .ok (.getfield 45, 3) := by decide +kernel
theorem dX5_solves_152 : decode cX5_solves 152 = .ok (.iload_n 3, 1) := by decide +kernel
theorem dX5_solves_153 : decode cX5_solves 153 = .ok (.iaload, 1) := by decide +kernel
theorem dX5_solves_154 : decode cX5_solves 154 = .ok (.ifCond .eq 12, 3) := by decide +kernel
theorem dX5_solves_157 : decode cX5_solves 157 = .ok (.aload_n 0, 1) := by decide +kernel
theorem dX5_solves_158 : decode cX5_solves 158 = .ok (.getfield 42, 3) := by decide +kernel
theorem dX5_solves_161 : decode cX5_solves 161 = .ok (.iload_n 3, 1) := by decide +kernel
theorem dX5_solves_162 : decode cX5_solves 162 = .ok (.iaload, 1) := by decide +kernel
theorem dX5_solves_163 : decode cX5_solves 163 = .ok (.ifCond .eq 7, 3) := by decide +kernel
theorem dX5_solves_166 : decode cX5_solves 166 = .ok (.iconst 1, 1) := by decide +kernel
theorem dX5_solves_167 : decode cX5_solves 167 = .ok (.goto 4, 3) := by decide +kernel
theorem dX5_solves_170 : decode cX5_solves 170 = .ok (.iconst 0, 1) := by decide +kernel
theorem dX5_solves_171 : decode cX5_solves 171 = .ok (.bastore, 1) := by decide +kernel
theorem dX5_solves_172 : decode cX5_solves 172 = .ok (.aload_n 0, 1) := by decide +kernel
theorem dX5_solves_173 : decode cX5_solves 173 = .ok (.getfield 36, 3) := by decide +kernel
theorem dX5_solves_176 : decode cX5_solves 176 = .ok (.iload_n 3, 1) := by decide +kernel
theorem dX5_solves_177 : decode cX5_solves 177 = .ok (.iconst 0, 1) := by decide +kernel
theorem dX5_solves_178 : decode cX5_solves 178 = .ok (.iastore, 1) := by decide +kernel
theorem dX5_solves_179 : decode cX5_solves 179 = .ok (.aload_n 0, 1) := by decide +kernel
theorem dX5_solves_180 : decode cX5_solves 180 = .ok (.getfield 39, 3) := by decide +kernel
theorem dX5_solves_183 : decode cX5_solves 183 = .ok (.iload_n 3, 1) := by decide +kernel
theorem dX5_solves_184 : decode cX5_solves 184 = .ok (.iconst (-1), 1) := by decide +kernel
theorem dX5_solves_185 : decode cX5_solves 185 = .ok (.iastore, 1) := by decide +kernel
theorem dX5_solves_186 : decode cX5_solves 186 = .ok (.iconst 0, 1) := by decide +kernel
theorem dX5_solves_187 : decode cX5_solves 187 = .ok (.istore 4, 2) := by decide +kernel
theorem dX5_solves_189 : decode cX5_solves 189 = .ok (.iload 4, 2) := by decide +kernel
theorem dX5_solves_191 : decode cX5_solves 191 = .ok (.bipush 26, 2) := by decide +kernel
theorem dX5_solves_193 : decode cX5_solves 193 = .ok (.if_icmp .ge 173, 3) := by decide +kernel
theorem dX5_solves_196 : decode cX5_solves 196 = .ok (.aload_n 0, 1) := by decide +kernel
theorem dX5_solves_197 : decode cX5_solves 197 = .ok (.getfield 42, 3) := by decide +kernel
theorem dX5_solves_200 : decode cX5_solves 200 = .ok (.iload_n 3, 1) := by decide +kernel
theorem dX5_solves_201 : decode cX5_solves 201 = .ok (.iaload, 1) := by decide +kernel
theorem dX5_solves_202 : decode cX5_solves 202 = .ok (.ifCond .eq 12, 3) := by decide +kernel
theorem dX5_solves_205 : decode cX5_solves 205 = .ok (.aload_n 0, 1) := by decide +kernel
theorem dX5_solves_206 : decode cX5_solves 206 = .ok (.getfield 42, 3) := by decide +kernel
theorem dX5_solves_209 : decode cX5_solves 209 = .ok (.iload_n 3, 1) := by decide +kernel
theorem dX5_solves_210 : decode cX5_solves 210 = .ok (.iaload, 1) := by decide +kernel
theorem dX5_solves_211 : decode cX5_solves 211 = .ok (.goto 9, 3) := by decide +kernel
theorem dX5_solves_214 : decode cX5_solves 214 = .ok (.aload_n 0, 1) := by decide +kernel
theorem dX5_solves_215 : decode cX5_solves 215 = .ok (.getfield 45, 3) := by decide +kernel
theorem dX5_solves_218 : decode cX5_solves 218 = .ok (.iload_n 3, 1) := by decide +kernel
theorem dX5_solves_219 : decode cX5_solves 219 = .ok (.iaload, 1) := by decide +kernel
theorem dX5_solves_220 : decode cX5_solves 220 = .ok (.iload 4, 2) := by decide +kernel
theorem dX5_solves_222 : decode cX5_solves 222 = .ok (.ishr, 1) := by decide +kernel
theorem dX5_solves_223 : decode cX5_solves 223 = .ok (.iconst 1, 1) := by decide +kernel
