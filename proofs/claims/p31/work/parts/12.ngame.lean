theorem dX1_init_0 : decode cX1_init 0 = .ok (.aload_n 0, 1) := by decide +kernel
theorem dX1_init_1 : decode cX1_init 1 = .ok (.invokespecial 3, 3) := by decide +kernel
theorem dX1_init_4 : decode cX1_init 4 = .ok (.aload_n 0, 1) := by decide +kernel
theorem dX1_init_5 : decode cX1_init 5 = .ok (.iconst 4, 1) := by decide +kernel
theorem dX1_init_6 : decode cX1_init 6 = .ok (.newarray .int, 2) := by decide +kernel
theorem dX1_init_8 : decode cX1_init 8 = .ok (.putfield 9, 3) := by decide +kernel
theorem dX1_init_11 : decode cX1_init 11 = .ok (.aload_n 0, 1) := by decide +kernel
theorem dX1_init_12 : decode cX1_init 12 = .ok (.iconst 0, 1) := by decide +kernel
theorem dX1_init_13 : decode cX1_init 13 = .ok (.putfield 15, 3) := by decide +kernel
theorem dX1_init_16 : decode cX1_init 16 = .ok (.aload_n 0, 1) := by decide +kernel
theorem dX1_init_17 : decode cX1_init 17 = .ok (.iconst (-1), 1) := by decide +kernel
theorem dX1_init_18 : decode cX1_init 18 = .ok (.putfield 19, 3) := by decide +kernel
theorem dX1_init_21 : decode cX1_init 21 = .ok (.aload_n 0, 1) := by decide +kernel
theorem dX1_init_22 : decode cX1_init 22 = .ok (.iconst (-1), 1) := by decide +kernel
theorem dX1_init_23 : decode cX1_init 23 = .ok (.putfield 22, 3) := by decide +kernel
theorem dX1_init_26 : decode cX1_init 26 = .ok (.aload_n 0, 1) := by decide +kernel
theorem dX1_init_27 : decode cX1_init 27 = .ok (.iconst (-1), 1) := by decide +kernel
theorem dX1_init_28 : decode cX1_init 28 = .ok (.putfield 25, 3) := by decide +kernel
theorem dX1_init_31 : decode cX1_init 31 = .ok (.aload_n 0, 1) := by decide +kernel
theorem dX1_init_32 : decode cX1_init 32 = .ok (.lconst 0, 1) := by decide +kernel
theorem dX1_init_33 : decode cX1_init 33 = .ok (.putfield 30, 3) := by decide +kernel
theorem dX1_init_36 : decode cX1_init 36 = .ok (.return_, 1) := by decide +kernel
theorem dX1_begin_0 : decode cX1_begin 0 = .ok (.iconst 0, 1) := by decide +kernel
theorem dX1_begin_1 : decode cX1_begin 1 = .ok (.istore_n 2, 1) := by decide +kernel
theorem dX1_begin_2 : decode cX1_begin 2 = .ok (.iload_n 2, 1) := by decide +kernel
theorem dX1_begin_3 : decode cX1_begin 3 = .ok (.aload_n 0, 1) := by decide +kernel
theorem dX1_begin_4 : decode cX1_begin 4 = .ok (.getfield 9, 3) := by decide +kernel
theorem dX1_begin_7 : decode cX1_begin 7 = .ok (.arraylength, 1) := by decide +kernel
theorem dX1_begin_8 : decode cX1_begin 8 = .ok (.if_icmp .ge 16, 3) := by decide +kernel
theorem dX1_begin_11 : decode cX1_begin 11 = .ok (.aload_n 0, 1) := by decide +kernel
theorem dX1_begin_12 : decode cX1_begin 12 = .ok (.getfield 9, 3) := by decide +kernel
theorem dX1_begin_15 : decode cX1_begin 15 = .ok (.iload_n 2, 1) := by decide +kernel
theorem dX1_begin_16 : decode cX1_begin 16 = .ok (.iconst 0, 1) := by decide +kernel
theorem dX1_begin_17 : decode cX1_begin 17 = .ok (.iastore, 1) := by decide +kernel
theorem dX1_begin_18 : decode cX1_begin 18 = .ok (.iinc 2 1, 3) := by decide +kernel
theorem dX1_begin_21 : decode cX1_begin 21 = .ok (.goto (-19), 3) := by decide +kernel
theorem dX1_begin_24 : decode cX1_begin 24 = .ok (.aload_n 0, 1) := by decide +kernel
theorem dX1_begin_25 : decode cX1_begin 25 = .ok (.iload_n 1, 1) := by decide +kernel
theorem dX1_begin_26 : decode cX1_begin 26 = .ok (.putfield 15, 3) := by decide +kernel
theorem dX1_begin_29 : decode cX1_begin 29 = .ok (.aload_n 0, 1) := by decide +kernel
theorem dX1_begin_30 : decode cX1_begin 30 = .ok (.iconst 0, 1) := by decide +kernel
theorem dX1_begin_31 : decode cX1_begin 31 = .ok (.putfield 19, 3) := by decide +kernel
theorem dX1_begin_34 : decode cX1_begin 34 = .ok (.aload_n 0, 1) := by decide +kernel
theorem dX1_begin_35 : decode cX1_begin 35 = .ok (.iconst (-1), 1) := by decide +kernel
theorem dX1_begin_36 : decode cX1_begin 36 = .ok (.putfield 22, 3) := by decide +kernel
theorem dX1_begin_39 : decode cX1_begin 39 = .ok (.aload_n 0, 1) := by decide +kernel
theorem dX1_begin_40 : decode cX1_begin 40 = .ok (.iconst (-1), 1) := by decide +kernel
theorem dX1_begin_41 : decode cX1_begin 41 = .ok (.putfield 25, 3) := by decide +kernel
theorem dX1_begin_44 : decode cX1_begin 44 = .ok (.aload_n 0, 1) := by decide +kernel
theorem dX1_begin_45 : decode cX1_begin 45 = .ok (.lconst 0, 1) := by decide +kernel
theorem dX1_begin_46 : decode cX1_begin 46 = .ok (.putfield 30, 3) := by decide +kernel
theorem dX1_begin_49 : decode cX1_begin 49 = .ok (.return_, 1) := by decide +kernel
theorem dX1_isOn_0 : decode cX1_isOn 0 = .ok (.aload_n 0, 1) := by decide +kernel
theorem dX1_isOn_1 : decode cX1_isOn 1 = .ok (.getfield 19, 3) := by decide +kernel
theorem dX1_isOn_4 : decode cX1_isOn 4 = .ok (.iconst (-1), 1) := by decide +kernel
theorem dX1_isOn_5 : decode cX1_isOn 5 = .ok (.if_icmp .eq 7, 3) := by decide +kernel
theorem dX1_isOn_8 : decode cX1_isOn 8 = .ok (.iconst 1, 1) := by decide +kernel
theorem dX1_isOn_9 : decode cX1_isOn 9 = .ok (.goto 4, 3) := by decide +kernel
theorem dX1_isOn_12 : decode cX1_isOn 12 = .ok (.iconst 0, 1) := by decide +kernel
theorem dX1_isOn_13 : decode cX1_isOn 13 = .ok (.ireturn, 1) := by decide +kernel
theorem dX1_mover_0 : decode cX1_mover 0 = .ok (.aload_n 0, 1) := by decide +kernel
theorem dX1_mover_1 : decode cX1_mover 1 = .ok (.getfield 19, 3) := by decide +kernel
theorem dX1_mover_4 : decode cX1_mover 4 = .ok (.ireturn, 1) := by decide +kernel
theorem dX1_champion_0 : decode cX1_champion 0 = .ok (.aload_n 0, 1) := by decide +kernel
theorem dX1_champion_1 : decode cX1_champion 1 = .ok (.getfield 25, 3) := by decide +kernel
theorem dX1_champion_4 : decode cX1_champion 4 = .ok (.ireturn, 1) := by decide +kernel
theorem dX1_playerCount_0 : decode cX1_playerCount 0 = .ok (.aload_n 0, 1) := by decide +kernel
theorem dX1_playerCount_1 : decode cX1_playerCount 1 = .ok (.getfield 15, 3) := by decide +kernel
theorem dX1_playerCount_4 : decode cX1_playerCount 4 = .ok (.ireturn, 1) := by decide +kernel
theorem dX1_fragment_0 : decode cX1_fragment 0 = .ok (.aload_n 0, 1) := by decide +kernel
theorem dX1_fragment_1 : decode cX1_fragment 1 = .ok (.getfield 30, 3) := by decide +kernel
theorem dX1_fragment_4 : decode cX1_fragment 4 = .ok (.lreturn, 1) := by decide +kernel
set_option maxRecDepth 20000 in
theorem ggX1_strikesOf_X1_hasPlayer : GoodIn wsX1_strikesOf wsX1_hasPlayer := goodIn_r _ [6, 7, 1, 8, 9, 10, 11, 12, 13] (by decide +kernel) (by decide +kernel)
set_option maxRecDepth 20000 in
theorem gX1_strikesOf_X1_hasPlayer : GoodIn wsX1_strikesOf (wsV RX1 34 RX1 yX1_hasPlayer wsX1_hasPlayer) := goodIn_app (goodIn_of _ (by decide +kernel)) ggX1_strikesOf_X1_hasPlayer
theorem dX1_strikesOf_0 : decode cX1_strikesOf 0 = .ok (.aload_n 0, 1) := by decide +kernel
theorem dX1_strikesOf_1 : decode cX1_strikesOf 1 = .ok (.iload_n 1, 1) := by decide +kernel
theorem dX1_strikesOf_2 : decode cX1_strikesOf 2 = .ok (.invokevirtual 34, 3) := by decide +kernel
theorem dX1_strikesOf_5 : decode cX1_strikesOf 5 = .ok (.ifCond .eq 12, 3) := by decide +kernel
theorem dX1_strikesOf_8 : decode cX1_strikesOf 8 = .ok (.aload_n 0, 1) := by decide +kernel
theorem dX1_strikesOf_9 : decode cX1_strikesOf 9 = .ok (.getfield 9, 3) := by decide +kernel
theorem dX1_strikesOf_12 : decode cX1_strikesOf 12 = .ok (.iload_n 1, 1) := by decide +kernel
theorem dX1_strikesOf_13 : decode cX1_strikesOf 13 = .ok (.iaload, 1) := by decide +kernel
theorem dX1_strikesOf_14 : decode cX1_strikesOf 14 = .ok (.goto 4, 3) := by decide +kernel
theorem dX1_strikesOf_17 : decode cX1_strikesOf 17 = .ok (.iconst (-1), 1) := by decide +kernel
theorem dX1_strikesOf_18 : decode cX1_strikesOf 18 = .ok (.ireturn, 1) := by decide +kernel
set_option maxRecDepth 20000 in
theorem ggX1_addLetter_X2_with : GoodIn wsX1_addLetter wsX2_with := goodIn_r _ [7, 8, 9, 10, 6, 11, 12, 13, 14] (by decide +kernel) (by decide +kernel)
set_option maxRecDepth 20000 in
theorem gX1_addLetter_X2_with : GoodIn wsX1_addLetter (va_wsS RX1 38 yX2_with wsX2_with) := goodIn_app (goodIn_of _ (by decide +kernel)) ggX1_addLetter_X2_with
set_option maxRecDepth 20000 in
theorem ggX1_addLetter_X0_hasCounting : GoodIn wsX1_addLetter wsX0_hasCounting := goodIn_r _ [19, 20, 21, 22, 18, 23, 24, 25, 10, 6, 11, 26, 27, 28, 29, 30, 31, 32, 33, 34, 35, 70, 71, 72] (by decide +kernel) (by decide +kernel)
set_option maxRecDepth 20000 in
theorem gX1_addLetter_X0_hasCounting : GoodIn wsX1_addLetter (wsV RX1 42 RX0 yX0_hasCounting wsX0_hasCounting) := goodIn_app (goodIn_of _ (by decide +kernel)) ggX1_addLetter_X0_hasCounting
set_option maxRecDepth 20000 in
theorem ggX1_addLetter_X1_endRound : GoodIn wsX1_addLetter wsX1_endRound := goodIn_r _ [40, 41, 1, 42, 2, 43, 44, 45, 39, 46, 47, 48, 49, 50, 51, 52, 53, 54, 55, 56, 57, 58, 59, 60, 61, 62, 63, 64, 65, 66, 67, 68, 69] (by decide +kernel) (by decide +kernel)
set_option maxRecDepth 20000 in
theorem gX1_addLetter_X1_endRound : GoodIn wsX1_addLetter (wsV RX1 48 RX1 yX1_endRound wsX1_endRound) := goodIn_app (goodIn_of _ (by decide +kernel)) ggX1_addLetter_X1_endRound
set_option maxRecDepth 20000 in
theorem ggX1_addLetter_X1_nextBehind : GoodIn wsX1_addLetter wsX1_nextBehind := goodIn_r _ [63, 47, 52, 53, 54, 39, 55, 56, 57, 58, 59, 41, 43, 44, 45, 46, 64, 65, 66, 67, 68, 69] (by decide +kernel) (by decide +kernel)
set_option maxRecDepth 20000 in
theorem gX1_addLetter_X1_nextBehind : GoodIn wsX1_addLetter (wsV RX1 52 RX1 yX1_nextBehind wsX1_nextBehind) := goodIn_app (goodIn_of _ (by decide +kernel)) ggX1_addLetter_X1_nextBehind
theorem dX1_addLetter_0 : decode cX1_addLetter 0 = .ok (.aload_n 0, 1) := by decide +kernel
theorem dX1_addLetter_1 : decode cX1_addLetter 1 = .ok (.aload_n 0, 1) := by decide +kernel
theorem dX1_addLetter_2 : decode cX1_addLetter 2 = .ok (.getfield 30, 3) := by decide +kernel
theorem dX1_addLetter_5 : decode cX1_addLetter 5 = .ok (.iload_n 1, 1) := by decide +kernel
theorem dX1_addLetter_6 : decode cX1_addLetter 6 = .ok (.invokestatic 38, 3) := by decide +kernel
theorem dX1_addLetter_9 : decode cX1_addLetter 9 = .ok (.putfield 30, 3) := by decide +kernel
theorem dX1_addLetter_12 : decode cX1_addLetter 12 = .ok (.aload_n 2, 1) := by decide +kernel
theorem dX1_addLetter_13 : decode cX1_addLetter 13 = .ok (.aload_n 0, 1) := by decide +kernel
theorem dX1_addLetter_14 : decode cX1_addLetter 14 = .ok (.getfield 30, 3) := by decide +kernel
theorem dX1_addLetter_17 : decode cX1_addLetter 17 = .ok (.invokevirtual 42, 3) := by decide +kernel
theorem dX1_addLetter_20 : decode cX1_addLetter 20 = .ok (.ifCond .eq 12, 3) := by decide +kernel
theorem dX1_addLetter_23 : decode cX1_addLetter 23 = .ok (.aload_n 0, 1) := by decide +kernel
theorem dX1_addLetter_24 : decode cX1_addLetter 24 = .ok (.aload_n 0, 1) := by decide +kernel
theorem dX1_addLetter_25 : decode cX1_addLetter 25 = .ok (.getfield 19, 3) := by decide +kernel
theorem dX1_addLetter_28 : decode cX1_addLetter 28 = .ok (.invokevirtual 48, 3) := by decide +kernel
theorem dX1_addLetter_31 : decode cX1_addLetter 31 = .ok (.ireturn, 1) := by decide +kernel
theorem dX1_addLetter_32 : decode cX1_addLetter 32 = .ok (.aload_n 0, 1) := by decide +kernel
theorem dX1_addLetter_33 : decode cX1_addLetter 33 = .ok (.aload_n 0, 1) := by decide +kernel
theorem dX1_addLetter_34 : decode cX1_addLetter 34 = .ok (.getfield 19, 3) := by decide +kernel
theorem dX1_addLetter_37 : decode cX1_addLetter 37 = .ok (.putfield 22, 3) := by decide +kernel
theorem dX1_addLetter_40 : decode cX1_addLetter 40 = .ok (.aload_n 0, 1) := by decide +kernel
theorem dX1_addLetter_41 : decode cX1_addLetter 41 = .ok (.aload_n 0, 1) := by decide +kernel
theorem dX1_addLetter_42 : decode cX1_addLetter 42 = .ok (.aload_n 0, 1) := by decide +kernel
theorem dX1_addLetter_43 : decode cX1_addLetter 43 = .ok (.getfield 19, 3) := by decide +kernel
theorem dX1_addLetter_46 : decode cX1_addLetter 46 = .ok (.invokevirtual 52, 3) := by decide +kernel
theorem dX1_addLetter_49 : decode cX1_addLetter 49 = .ok (.putfield 19, 3) := by decide +kernel
theorem dX1_addLetter_52 : decode cX1_addLetter 52 = .ok (.iconst (-1), 1) := by decide +kernel
theorem dX1_addLetter_53 : decode cX1_addLetter 53 = .ok (.ireturn, 1) := by decide +kernel
set_option maxRecDepth 20000 in
theorem ggX1_settleChallenge_X0_hasCountingFrom : GoodIn wsX1_settleChallenge wsX0_hasCountingFrom := goodIn_r _ [8, 9, 10, 11, 12, 13, 7, 14, 15, 16, 17, 18, 19, 20, 21, 22, 23, 24, 59, 60, 61] (by decide +kernel) (by decide +kernel)
set_option maxRecDepth 20000 in
theorem gX1_settleChallenge_X0_hasCountingFrom : GoodIn wsX1_settleChallenge (wsV RX1 55 RX0 yX0_hasCountingFrom wsX0_hasCountingFrom) := goodIn_app (goodIn_of _ (by decide +kernel)) ggX1_settleChallenge_X0_hasCountingFrom
set_option maxRecDepth 20000 in
theorem ggX1_settleChallenge_X1_endRound : GoodIn wsX1_settleChallenge wsX1_endRound := goodIn_r _ [29, 30, 1, 31, 2, 32, 33, 34, 28, 35, 36, 37, 38, 39, 40, 41, 42, 43, 44, 45, 46, 47, 48, 49, 50, 51, 52, 53, 54, 55, 56, 57, 58] (by decide +kernel) (by decide +kernel)
set_option maxRecDepth 20000 in
theorem gX1_settleChallenge_X1_endRound : GoodIn wsX1_settleChallenge (wsV RX1 48 RX1 yX1_endRound wsX1_endRound) := goodIn_app (goodIn_of _ (by decide +kernel)) ggX1_settleChallenge_X1_endRound
theorem dX1_settleChallenge_0 : decode cX1_settleChallenge 0 = .ok (.aload_n 0, 1) := by decide +kernel
theorem dX1_settleChallenge_1 : decode cX1_settleChallenge 1 = .ok (.aload_n 1, 1) := by decide +kernel
theorem dX1_settleChallenge_2 : decode cX1_settleChallenge 2 = .ok (.aload_n 0, 1) := by decide +kernel
theorem dX1_settleChallenge_3 : decode cX1_settleChallenge 3 = .ok (.getfield 30, 3) := by decide +kernel
theorem dX1_settleChallenge_6 : decode cX1_settleChallenge 6 = .ok (.invokevirtual 55, 3) := by decide +kernel
theorem dX1_settleChallenge_9 : decode cX1_settleChallenge 9 = .ok (.ifCond .eq 10, 3) := by decide +kernel
theorem dX1_settleChallenge_12 : decode cX1_settleChallenge 12 = .ok (.aload_n 0, 1) := by decide +kernel
theorem dX1_settleChallenge_13 : decode cX1_settleChallenge 13 = .ok (.getfield 19, 3) := by decide +kernel
theorem dX1_settleChallenge_16 : decode cX1_settleChallenge 16 = .ok (.goto 7, 3) := by decide +kernel
theorem dX1_settleChallenge_19 : decode cX1_settleChallenge 19 = .ok (.aload_n 0, 1) := by decide +kernel
theorem dX1_settleChallenge_20 : decode cX1_settleChallenge 20 = .ok (.getfield 22, 3) := by decide +kernel
theorem dX1_settleChallenge_23 : decode cX1_settleChallenge 23 = .ok (.invokevirtual 48, 3) := by decide +kernel
theorem dX1_settleChallenge_26 : decode cX1_settleChallenge 26 = .ok (.ireturn, 1) := by decide +kernel
set_option maxRecDepth 20000 in
theorem ggX1_endRound_X1_hasPlayer : GoodIn wsX1_endRound wsX1_hasPlayer := goodIn_r _ [9, 10, 1, 27, 28, 29, 30, 31, 32] (by decide +kernel) (by decide +kernel)
set_option maxRecDepth 20000 in
theorem gX1_endRound_X1_hasPlayer : GoodIn wsX1_endRound (wsV RX1 34 RX1 yX1_hasPlayer wsX1_hasPlayer) := goodIn_app (goodIn_of _ (by decide +kernel)) ggX1_endRound_X1_hasPlayer
set_option maxRecDepth 20000 in
theorem ggX1_endRound_X1_playersLeft : GoodIn wsX1_endRound wsX1_playersLeft := goodIn_r _ [14, 10, 15, 16, 17, 8, 18, 19, 20, 21, 22, 1, 5, 6, 7, 9, 27, 28, 29, 30, 31, 32] (by decide +kernel) (by decide +kernel)
set_option maxRecDepth 20000 in
theorem gX1_endRound_X1_playersLeft : GoodIn wsX1_endRound (wsV RX1 58 RX1 yX1_playersLeft wsX1_playersLeft) := goodIn_app (goodIn_of _ (by decide +kernel)) ggX1_endRound_X1_playersLeft
set_option maxRecDepth 20000 in
theorem ggX1_endRound_X1_nextBehind : GoodIn wsX1_endRound wsX1_nextBehind := goodIn_r _ [26, 10, 15, 16, 17, 8, 18, 19, 20, 21, 22, 1, 5, 6, 7, 9, 27, 28, 29, 30, 31, 32] (by decide +kernel) (by decide +kernel)
set_option maxRecDepth 20000 in
theorem gX1_endRound_X1_nextBehind : GoodIn wsX1_endRound (wsV RX1 52 RX1 yX1_nextBehind wsX1_nextBehind) := goodIn_app (goodIn_of _ (by decide +kernel)) ggX1_endRound_X1_nextBehind
set_option maxRecDepth 20000 in
theorem ggX1_endRound_X1_isOut : GoodIn wsX1_endRound wsX1_isOut := goodIn_r _ [18, 19, 20, 21, 8, 22, 1, 5, 6, 7, 9, 10, 27, 28, 29, 30, 31, 32] (by decide +kernel) (by decide +kernel)
set_option maxRecDepth 20000 in
theorem gX1_endRound_X1_isOut : GoodIn wsX1_endRound (wsV RX1 62 RX1 yX1_isOut wsX1_isOut) := goodIn_app (goodIn_of _ (by decide +kernel)) ggX1_endRound_X1_isOut
theorem dX1_endRound_0 : decode cX1_endRound 0 = .ok (.aload_n 0, 1) := by decide +kernel
theorem dX1_endRound_1 : decode cX1_endRound 1 = .ok (.iload_n 1, 1) := by decide +kernel
theorem dX1_endRound_2 : decode cX1_endRound 2 = .ok (.invokevirtual 34, 3) := by decide +kernel
theorem dX1_endRound_5 : decode cX1_endRound 5 = .ok (.ifCond .eq 13, 3) := by decide +kernel
theorem dX1_endRound_8 : decode cX1_endRound 8 = .ok (.aload_n 0, 1) := by decide +kernel
theorem dX1_endRound_9 : decode cX1_endRound 9 = .ok (.getfield 9, 3) := by decide +kernel
theorem dX1_endRound_12 : decode cX1_endRound 12 = .ok (.iload_n 1, 1) := by decide +kernel
theorem dX1_endRound_13 : decode cX1_endRound 13 = .ok (.dup2, 1) := by decide +kernel
theorem dX1_endRound_14 : decode cX1_endRound 14 = .ok (.iaload, 1) := by decide +kernel
theorem dX1_endRound_15 : decode cX1_endRound 15 = .ok (.iconst 1, 1) := by decide +kernel
theorem dX1_endRound_16 : decode cX1_endRound 16 = .ok (.iadd, 1) := by decide +kernel
theorem dX1_endRound_17 : decode cX1_endRound 17 = .ok (.iastore, 1) := by decide +kernel
theorem dX1_endRound_18 : decode cX1_endRound 18 = .ok (.aload_n 0, 1) := by decide +kernel
theorem dX1_endRound_19 : decode cX1_endRound 19 = .ok (.lconst 0, 1) := by decide +kernel
theorem dX1_endRound_20 : decode cX1_endRound 20 = .ok (.putfield 30, 3) := by decide +kernel
theorem dX1_endRound_23 : decode cX1_endRound 23 = .ok (.aload_n 0, 1) := by decide +kernel
theorem dX1_endRound_24 : decode cX1_endRound 24 = .ok (.invokevirtual 58, 3) := by decide +kernel
theorem dX1_endRound_27 : decode cX1_endRound 27 = .ok (.iconst 1, 1) := by decide +kernel
theorem dX1_endRound_28 : decode cX1_endRound 28 = .ok (.if_icmp .ne 20, 3) := by decide +kernel
theorem dX1_endRound_31 : decode cX1_endRound 31 = .ok (.aload_n 0, 1) := by decide +kernel
theorem dX1_endRound_32 : decode cX1_endRound 32 = .ok (.aload_n 0, 1) := by decide +kernel
theorem dX1_endRound_33 : decode cX1_endRound 33 = .ok (.iload_n 1, 1) := by decide +kernel
theorem dX1_endRound_34 : decode cX1_endRound 34 = .ok (.invokevirtual 52, 3) := by decide +kernel
theorem dX1_endRound_37 : decode cX1_endRound 37 = .ok (.putfield 25, 3) := by decide +kernel
theorem dX1_endRound_40 : decode cX1_endRound 40 = .ok (.aload_n 0, 1) := by decide +kernel
theorem dX1_endRound_41 : decode cX1_endRound 41 = .ok (.iconst (-1), 1) := by decide +kernel
theorem dX1_endRound_42 : decode cX1_endRound 42 = .ok (.putfield 19, 3) := by decide +kernel
theorem dX1_endRound_45 : decode cX1_endRound 45 = .ok (.goto 24, 3) := by decide +kernel
theorem dX1_endRound_48 : decode cX1_endRound 48 = .ok (.aload_n 0, 1) := by decide +kernel
theorem dX1_endRound_49 : decode cX1_endRound 49 = .ok (.aload_n 0, 1) := by decide +kernel
theorem dX1_endRound_50 : decode cX1_endRound 50 = .ok (.iload_n 1, 1) := by decide +kernel
theorem dX1_endRound_51 : decode cX1_endRound 51 = .ok (.invokevirtual 62, 3) := by decide +kernel
theorem dX1_endRound_54 : decode cX1_endRound 54 = .ok (.ifCond .eq 11, 3) := by decide +kernel
theorem dX1_endRound_57 : decode cX1_endRound 57 = .ok (.aload_n 0, 1) := by decide +kernel
theorem dX1_endRound_58 : decode cX1_endRound 58 = .ok (.iload_n 1, 1) := by decide +kernel
theorem dX1_endRound_59 : decode cX1_endRound 59 = .ok (.invokevirtual 52, 3) := by decide +kernel
theorem dX1_endRound_62 : decode cX1_endRound 62 = .ok (.goto 4, 3) := by decide +kernel
theorem dX1_endRound_65 : decode cX1_endRound 65 = .ok (.iload_n 1, 1) := by decide +kernel
theorem dX1_endRound_66 : decode cX1_endRound 66 = .ok (.putfield 19, 3) := by decide +kernel
theorem dX1_endRound_69 : decode cX1_endRound 69 = .ok (.iload_n 1, 1) := by decide +kernel
theorem dX1_endRound_70 : decode cX1_endRound 70 = .ok (.ireturn, 1) := by decide +kernel
theorem dX1_hasPlayer_0 : decode cX1_hasPlayer 0 = .ok (.iload_n 1, 1) := by decide +kernel
theorem dX1_hasPlayer_1 : decode cX1_hasPlayer 1 = .ok (.ifCond .lt 24, 3) := by decide +kernel
theorem dX1_hasPlayer_4 : decode cX1_hasPlayer 4 = .ok (.iload_n 1, 1) := by decide +kernel
theorem dX1_hasPlayer_5 : decode cX1_hasPlayer 5 = .ok (.aload_n 0, 1) := by decide +kernel
theorem dX1_hasPlayer_6 : decode cX1_hasPlayer 6 = .ok (.getfield 15, 3) := by decide +kernel
theorem dX1_hasPlayer_9 : decode cX1_hasPlayer 9 = .ok (.if_icmp .ge 16, 3) := by decide +kernel
theorem dX1_hasPlayer_12 : decode cX1_hasPlayer 12 = .ok (.iload_n 1, 1) := by decide +kernel
theorem dX1_hasPlayer_13 : decode cX1_hasPlayer 13 = .ok (.aload_n 0, 1) := by decide +kernel
theorem dX1_hasPlayer_14 : decode cX1_hasPlayer 14 = .ok (.getfield 9, 3) := by decide +kernel
theorem dX1_hasPlayer_17 : decode cX1_hasPlayer 17 = .ok (.arraylength, 1) := by decide +kernel
theorem dX1_hasPlayer_18 : decode cX1_hasPlayer 18 = .ok (.if_icmp .ge 7, 3) := by decide +kernel
theorem dX1_hasPlayer_21 : decode cX1_hasPlayer 21 = .ok (.iconst 1, 1) := by decide +kernel
theorem dX1_hasPlayer_22 : decode cX1_hasPlayer 22 = .ok (.goto 4, 3) := by decide +kernel
theorem dX1_hasPlayer_25 : decode cX1_hasPlayer 25 = .ok (.iconst 0, 1) := by decide +kernel
theorem dX1_hasPlayer_26 : decode cX1_hasPlayer 26 = .ok (.ireturn, 1) := by decide +kernel
set_option maxRecDepth 20000 in
theorem ggX1_isOut_X1_strikesOf : GoodIn wsX1_isOut wsX1_strikesOf := goodIn_r _ [5, 6, 7, 8, 9, 4, 10, 11, 12, 13, 14, 15, 16, 17] (by decide +kernel) (by decide +kernel)
set_option maxRecDepth 20000 in
theorem gX1_isOut_X1_strikesOf : GoodIn wsX1_isOut (wsV RX1 65 RX1 yX1_strikesOf wsX1_strikesOf) := goodIn_app (goodIn_of _ (by decide +kernel)) ggX1_isOut_X1_strikesOf
theorem dX1_isOut_0 : decode cX1_isOut 0 = .ok (.aload_n 0, 1) := by decide +kernel
theorem dX1_isOut_1 : decode cX1_isOut 1 = .ok (.iload_n 1, 1) := by decide +kernel
theorem dX1_isOut_2 : decode cX1_isOut 2 = .ok (.invokevirtual 65, 3) := by decide +kernel
theorem dX1_isOut_5 : decode cX1_isOut 5 = .ok (.iconst 5, 1) := by decide +kernel
theorem dX1_isOut_6 : decode cX1_isOut 6 = .ok (.if_icmp .lt 7, 3) := by decide +kernel
theorem dX1_isOut_9 : decode cX1_isOut 9 = .ok (.iconst 1, 1) := by decide +kernel
theorem dX1_isOut_10 : decode cX1_isOut 10 = .ok (.goto 4, 3) := by decide +kernel
theorem dX1_isOut_13 : decode cX1_isOut 13 = .ok (.iconst 0, 1) := by decide +kernel
theorem dX1_isOut_14 : decode cX1_isOut 14 = .ok (.ireturn, 1) := by decide +kernel
set_option maxRecDepth 20000 in
theorem ggX1_playersLeft_X1_isOut : GoodIn wsX1_playersLeft wsX1_isOut := goodIn_r _ [6, 7, 8, 9, 5, 10, 11, 12, 13, 14, 15, 1, 16, 17, 18, 19, 20, 21] (by decide +kernel) (by decide +kernel)
set_option maxRecDepth 20000 in
theorem gX1_playersLeft_X1_isOut : GoodIn wsX1_playersLeft (wsV RX1 62 RX1 yX1_isOut wsX1_isOut) := goodIn_app (goodIn_of _ (by decide +kernel)) ggX1_playersLeft_X1_isOut
theorem dX1_playersLeft_0 : decode cX1_playersLeft 0 = .ok (.iconst 0, 1) := by decide +kernel
theorem dX1_playersLeft_1 : decode cX1_playersLeft 1 = .ok (.istore_n 1, 1) := by decide +kernel
theorem dX1_playersLeft_2 : decode cX1_playersLeft 2 = .ok (.iconst 0, 1) := by decide +kernel
theorem dX1_playersLeft_3 : decode cX1_playersLeft 3 = .ok (.istore_n 2, 1) := by decide +kernel
theorem dX1_playersLeft_4 : decode cX1_playersLeft 4 = .ok (.iload_n 2, 1) := by decide +kernel
theorem dX1_playersLeft_5 : decode cX1_playersLeft 5 = .ok (.aload_n 0, 1) := by decide +kernel
theorem dX1_playersLeft_6 : decode cX1_playersLeft 6 = .ok (.getfield 15, 3) := by decide +kernel
theorem dX1_playersLeft_9 : decode cX1_playersLeft 9 = .ok (.if_icmp .ge 20, 3) := by decide +kernel
theorem dX1_playersLeft_12 : decode cX1_playersLeft 12 = .ok (.aload_n 0, 1) := by decide +kernel
theorem dX1_playersLeft_13 : decode cX1_playersLeft 13 = .ok (.iload_n 2, 1) := by decide +kernel
theorem dX1_playersLeft_14 : decode cX1_playersLeft 14 = .ok (.invokevirtual 62, 3) := by decide +kernel
theorem dX1_playersLeft_17 : decode cX1_playersLeft 17 = .ok (.ifCond .ne 6, 3) := by decide +kernel
theorem dX1_playersLeft_20 : decode cX1_playersLeft 20 = .ok (.iinc 1 1, 3) := by decide +kernel
theorem dX1_playersLeft_23 : decode cX1_playersLeft 23 = .ok (.iinc 2 1, 3) := by decide +kernel
theorem dX1_playersLeft_26 : decode cX1_playersLeft 26 = .ok (.goto (-22), 3) := by decide +kernel
theorem dX1_playersLeft_29 : decode cX1_playersLeft 29 = .ok (.iload_n 1, 1) := by decide +kernel
theorem dX1_playersLeft_30 : decode cX1_playersLeft 30 = .ok (.ireturn, 1) := by decide +kernel
set_option maxRecDepth 20000 in
theorem ggX1_nextBehind_X1_isOut : GoodIn wsX1_nextBehind wsX1_isOut := goodIn_r _ [6, 7, 8, 9, 5, 10, 11, 12, 13, 14, 15, 1, 16, 17, 18, 19, 20, 21] (by decide +kernel) (by decide +kernel)
set_option maxRecDepth 20000 in
theorem gX1_nextBehind_X1_isOut : GoodIn wsX1_nextBehind (wsV RX1 62 RX1 yX1_isOut wsX1_isOut) := goodIn_app (goodIn_of _ (by decide +kernel)) ggX1_nextBehind_X1_isOut
theorem dX1_nextBehind_0 : decode cX1_nextBehind 0 = .ok (.iload_n 1, 1) := by decide +kernel
theorem dX1_nextBehind_1 : decode cX1_nextBehind 1 = .ok (.istore_n 2, 1) := by decide +kernel
theorem dX1_nextBehind_2 : decode cX1_nextBehind 2 = .ok (.iconst 0, 1) := by decide +kernel
theorem dX1_nextBehind_3 : decode cX1_nextBehind 3 = .ok (.istore_n 3, 1) := by decide +kernel
theorem dX1_nextBehind_4 : decode cX1_nextBehind 4 = .ok (.iload_n 3, 1) := by decide +kernel
theorem dX1_nextBehind_5 : decode cX1_nextBehind 5 = .ok (.aload_n 0, 1) := by decide +kernel
theorem dX1_nextBehind_6 : decode cX1_nextBehind 6 = .ok (.getfield 15, 3) := by decide +kernel
theorem dX1_nextBehind_9 : decode cX1_nextBehind 9 = .ok (.if_icmp .ge 37, 3) := by decide +kernel
theorem dX1_nextBehind_12 : decode cX1_nextBehind 12 = .ok (.iload_n 2, 1) := by decide +kernel
theorem dX1_nextBehind_13 : decode cX1_nextBehind 13 = .ok (.iconst 1, 1) := by decide +kernel
theorem dX1_nextBehind_14 : decode cX1_nextBehind 14 = .ok (.iadd, 1) := by decide +kernel
theorem dX1_nextBehind_15 : decode cX1_nextBehind 15 = .ok (.aload_n 0, 1) := by decide +kernel
theorem dX1_nextBehind_16 : decode cX1_nextBehind 16 = .ok (.getfield 15, 3) := by decide +kernel
theorem dX1_nextBehind_19 : decode cX1_nextBehind 19 = .ok (.if_icmp .ge 9, 3) := by decide +kernel
theorem dX1_nextBehind_22 : decode cX1_nextBehind 22 = .ok (.iload_n 2, 1) := by decide +kernel
theorem dX1_nextBehind_23 : decode cX1_nextBehind 23 = .ok (.iconst 1, 1) := by decide +kernel
theorem dX1_nextBehind_24 : decode cX1_nextBehind 24 = .ok (.iadd, 1) := by decide +kernel
theorem dX1_nextBehind_25 : decode cX1_nextBehind 25 = .ok (.goto 4, 3) := by decide +kernel
theorem dX1_nextBehind_28 : decode cX1_nextBehind 28 = .ok (.iconst 0, 1) := by decide +kernel
theorem dX1_nextBehind_29 : decode cX1_nextBehind 29 = .ok (.istore_n 2, 1) := by decide +kernel
theorem dX1_nextBehind_30 : decode cX1_nextBehind 30 = .ok (.aload_n 0, 1) := by decide +kernel
theorem dX1_nextBehind_31 : decode cX1_nextBehind 31 = .ok (.iload_n 2, 1) := by decide +kernel
theorem dX1_nextBehind_32 : decode cX1_nextBehind 32 = .ok (.invokevirtual 62, 3) := by decide +kernel
theorem dX1_nextBehind_35 : decode cX1_nextBehind 35 = .ok (.ifCond .ne 5, 3) := by decide +kernel
theorem dX1_nextBehind_38 : decode cX1_nextBehind 38 = .ok (.iload_n 2, 1) := by decide +kernel
theorem dX1_nextBehind_39 : decode cX1_nextBehind 39 = .ok (.ireturn, 1) := by decide +kernel
theorem dX1_nextBehind_40 : decode cX1_nextBehind 40 = .ok (.iinc 3 1, 3) := by decide +kernel
theorem dX1_nextBehind_43 : decode cX1_nextBehind 43 = .ok (.goto (-39), 3) := by decide +kernel
theorem dX1_nextBehind_46 : decode cX1_nextBehind 46 = .ok (.iconst (-1), 1) := by decide +kernel
theorem dX1_nextBehind_47 : decode cX1_nextBehind 47 = .ok (.ireturn, 1) := by decide +kernel
