set_option maxRecDepth 20000 in
theorem ggT_X5_play : GoodIn lw_tbl wsX5_play := goodIn_r _ [717, 580, 579, 576, 577, 635, 636, 29, 637, 718, 720, 15, 721, 574, 578, 638, 640, 8, 641, 586, 722, 724, 16, 725, 572, 571, 726, 728, 17, 729, 573, 670, 672, 12, 673, 570, 730, 732, 18, 733, 575, 734, 736, 19, 737, 587, 589, 591, 593, 595, 597, 599, 601, 603, 605, 607, 609, 611, 613, 615, 617, 619, 621, 623] (by rfl) (by decide +kernel)
set_option maxRecDepth 20000 in
theorem gT_X5_play : GoodIn lw_tbl (wsV RL 111 RX5 yX5_play wsX5_play) := goodIn_app (goodIn_r _ [714, 715, 716, 29] (by rfl) (by decide +kernel)) ggT_X5_play
set_option maxRecDepth 20000 in
theorem ggT_L_challenge : GoodIn lw_tbl wsL_challenge := goodIn_ca (goodIn_r _ [531, 310, 532, 533, 534, 26, 535, 387, 35, 91, 90, 494, 495, 496, 28, 497, 72, 200, 201, 202, 203, 75, 537, 538, 539, 540, 73, 541, 542, 543, 27, 544, 54, 53, 252, 220, 221, 222, 55, 158, 105, 34, 106, 139, 140, 141, 142, 143, 144, 145, 146, 147, 148, 149, 505, 507, 3, 508, 70, 74, 509, 511, 4, 512, 71, 513, 515, 5, 516, 517, 519, 6, 520, 521, 522, 523, 524, 525, 527, 7, 528, 93, 95, 97, 76, 78, 80, 82, 84, 86, 56, 58, 60] (by rfl) (by decide +kernel)) (goodIn_sub wsL_law_x1 (by decide +kernel))
set_option maxRecDepth 20000 in
theorem gT_L_challenge : GoodIn lw_tbl (va_wsS RL 112 yL_challenge wsL_challenge) := goodIn_app (goodIn_r _ [529, 530, 25] (by rfl) (by decide +kernel)) ggT_L_challenge
set_option maxRecDepth 20000 in
theorem ggT_X5_challenge : GoodIn lw_tbl wsX5_challenge := goodIn_r _ [741, 580, 576, 577, 718, 720, 15, 29, 721, 574, 578, 658, 660, 10, 661, 586, 722, 724, 16, 725, 572, 579, 571, 726, 728, 17, 729, 573, 670, 672, 12, 673, 570, 730, 732, 18, 733, 575, 734, 736, 19, 737, 587, 589, 591, 593, 595, 597, 599, 601, 603, 605, 607, 609, 611, 613, 615, 617, 619, 621, 623] (by rfl) (by decide +kernel)
set_option maxRecDepth 20000 in
theorem gT_X5_challenge : GoodIn lw_tbl (wsV RL 114 RX5 yX5_challenge wsX5_challenge) := goodIn_app (goodIn_r _ [738, 739, 740, 29] (by rfl) (by decide +kernel)) ggT_X5_challenge
set_option maxRecDepth 20000 in
theorem ggT_X4_turn : GoodIn lw_tbl wsX4_turn := goodIn_r _ [175, 91, 176, 177, 178, 28, 179, 72, 93, 95, 97, 76, 78, 80, 82, 84, 86] (by rfl) (by decide +kernel)
set_option maxRecDepth 20000 in
theorem gT_X4_turn : GoodIn lw_tbl (wsV RL 115 RX4 yX4_turn wsX4_turn) := goodIn_app (goodIn_r _ [172, 173, 174, 26] (by rfl) (by decide +kernel)) ggT_X4_turn
set_option maxRecDepth 20000 in
theorem ggT_X5_turn : GoodIn lw_tbl wsX5_turn := goodIn_r _ [745, 576, 718, 720, 15, 29, 721, 574, 578, 646, 648, 9, 649, 586, 587, 589, 591, 593, 595, 597, 599, 601, 603, 605, 607, 609, 611, 613, 615, 617, 619, 621, 623] (by rfl) (by decide +kernel)
set_option maxRecDepth 20000 in
theorem gT_X5_turn : GoodIn lw_tbl (wsV RL 118 RX5 yX5_turn wsX5_turn) := goodIn_app (goodIn_r _ [742, 743, 744, 29] (by rfl) (by decide +kernel)) ggT_X5_turn
set_option maxRecDepth 20000 in
theorem ggT_X4_winner : GoodIn lw_tbl wsX4_winner := goodIn_r _ [183, 91, 184, 185, 186, 28, 187, 74, 93, 95, 97, 76, 78, 80, 82, 84, 86] (by rfl) (by decide +kernel)
set_option maxRecDepth 20000 in
theorem gT_X4_winner : GoodIn lw_tbl (wsV RL 119 RX4 yX4_winner wsX4_winner) := goodIn_app (goodIn_r _ [180, 181, 182, 26] (by rfl) (by decide +kernel)) ggT_X4_winner
set_option maxRecDepth 20000 in
theorem ggT_X5_winner : GoodIn lw_tbl wsX5_winner := goodIn_r _ [749, 578, 646, 648, 9, 29, 649, 586, 587, 589, 591, 593, 595, 597, 599, 601, 603, 605, 607, 609, 611, 613, 615, 617, 619, 621, 623] (by rfl) (by decide +kernel)
set_option maxRecDepth 20000 in
theorem gT_X5_winner : GoodIn lw_tbl (wsV RL 122 RX5 yX5_winner wsX5_winner) := goodIn_app (goodIn_r _ [746, 747, 748, 29] (by rfl) (by decide +kernel)) ggT_X5_winner
set_option maxRecDepth 20000 in
theorem ggT_X4_players : GoodIn lw_tbl wsX4_players := goodIn_r _ [191, 91, 192, 193, 194, 28, 195, 71, 93, 95, 97, 76, 78, 80, 82, 84, 86] (by rfl) (by decide +kernel)
set_option maxRecDepth 20000 in
theorem gT_X4_players : GoodIn lw_tbl (wsV RL 123 RX4 yX4_players wsX4_players) := goodIn_app (goodIn_r _ [188, 189, 190, 26] (by rfl) (by decide +kernel)) ggT_X4_players
set_option maxRecDepth 20000 in
theorem ggT_X5_players : GoodIn lw_tbl wsX5_players := goodIn_r _ [753, 574, 646, 648, 9, 29, 649, 586, 587, 589, 591, 593, 595, 597, 599, 601, 603, 605, 607, 609, 611, 613, 615, 617, 619, 621, 623] (by rfl) (by decide +kernel)
set_option maxRecDepth 20000 in
theorem gT_X5_players : GoodIn lw_tbl (wsV RL 126 RX5 yX5_players wsX5_players) := goodIn_app (goodIn_r _ [750, 751, 752, 29] (by rfl) (by decide +kernel)) ggT_X5_players
set_option maxRecDepth 20000 in
theorem ggT_L_strikes : GoodIn lw_tbl wsL_strikes := goodIn_ca (goodIn_r _ [547, 407, 548, 549, 550, 26, 551, 413, 36, 91, 552, 522, 523, 28, 524, 70, 509, 511, 4, 512, 71, 93, 95, 97, 76, 78, 80, 82, 84, 86] (by rfl) (by decide +kernel)) (goodIn_sub wsL_law_x2 (by decide +kernel))
set_option maxRecDepth 20000 in
theorem gT_L_strikes : GoodIn lw_tbl (va_wsS RL 127 yL_strikes wsL_strikes) := goodIn_app (goodIn_r _ [545, 546, 25] (by rfl) (by decide +kernel)) ggT_L_strikes
set_option maxRecDepth 20000 in
theorem ggT_X5_strikes : GoodIn lw_tbl wsX5_strikes := goodIn_r _ [757, 574, 575, 658, 660, 10, 29, 661, 586, 587, 589, 591, 593, 595, 597, 599, 601, 603, 605, 607, 609, 611, 613, 615, 617, 619, 621, 623] (by rfl) (by decide +kernel)
set_option maxRecDepth 20000 in
theorem gT_X5_strikes : GoodIn lw_tbl (wsV RL 129 RX5 yX5_strikes wsX5_strikes) := goodIn_app (goodIn_r _ [754, 755, 756, 29] (by rfl) (by decide +kernel)) ggT_X5_strikes
set_option maxRecDepth 20000 in
theorem ggT_X4_fragmentLength : GoodIn lw_tbl wsX4_fragmentLength := goodIn_r _ [199, 91, 200, 201, 202, 28, 203, 75, 104, 105, 34, 106, 93, 95, 97, 76, 78, 80, 82, 84, 86] (by rfl) (by decide +kernel)
set_option maxRecDepth 20000 in
theorem gT_X4_fragmentLength : GoodIn lw_tbl (wsV RL 130 RX4 yX4_fragmentLength wsX4_fragmentLength) := goodIn_app (goodIn_r _ [196, 197, 198, 26] (by rfl) (by decide +kernel)) ggT_X4_fragmentLength
set_option maxRecDepth 20000 in
theorem ggT_X5_fragmentLength : GoodIn lw_tbl wsX5_fragmentLength := goodIn_r _ [761, 580, 646, 648, 9, 29, 649, 586, 587, 589, 591, 593, 595, 597, 599, 601, 603, 605, 607, 609, 611, 613, 615, 617, 619, 621, 623] (by rfl) (by decide +kernel)
set_option maxRecDepth 20000 in
theorem gT_X5_fragmentLength : GoodIn lw_tbl (wsV RL 133 RX5 yX5_fragmentLength wsX5_fragmentLength) := goodIn_app (goodIn_r _ [758, 759, 760, 29] (by rfl) (by decide +kernel)) ggT_X5_fragmentLength
set_option maxRecDepth 20000 in
theorem ggT_L_fragmentAt : GoodIn lw_tbl wsL_fragmentAt := goodIn_ca (goodIn_r _ [556, 407, 557, 558, 559, 26, 560, 413, 36, 91, 200, 201, 202, 28, 203, 75, 412, 229, 34, 230, 142, 105, 106, 93, 95, 97, 76, 78, 80, 82, 84, 86] (by rfl) (by decide +kernel)) (goodIn_sub wsL_law_x2 (by decide +kernel))
set_option maxRecDepth 20000 in
theorem gT_L_fragmentAt : GoodIn lw_tbl (va_wsS RL 134 yL_fragmentAt wsL_fragmentAt) := goodIn_app (goodIn_r _ [554, 555, 25] (by rfl) (by decide +kernel)) ggT_L_fragmentAt
set_option maxRecDepth 20000 in
theorem ggT_X5_fragmentAt : GoodIn lw_tbl wsX5_fragmentAt := goodIn_r _ [765, 580, 579, 658, 660, 10, 29, 661, 586, 587, 589, 591, 593, 595, 597, 599, 601, 603, 605, 607, 609, 611, 613, 615, 617, 619, 621, 623] (by rfl) (by decide +kernel)
set_option maxRecDepth 20000 in
theorem gT_X5_fragmentAt : GoodIn lw_tbl (wsV RL 136 RX5 yX5_fragmentAt wsX5_fragmentAt) := goodIn_app (goodIn_r _ [762, 763, 764, 29] (by rfl) (by decide +kernel)) ggT_X5_fragmentAt
