set_option maxRecDepth 20000 in
theorem ggT_X5_play : GoodIn lw_tbl wsX5_play := goodIn_r _ [714, 577, 576, 573, 574, 632, 633, 29, 634, 715, 717, 15, 718, 571, 575, 635, 637, 8, 638, 583, 719, 721, 16, 722, 569, 568, 723, 725, 17, 726, 570, 667, 669, 12, 670, 567, 727, 729, 18, 730, 572, 731, 733, 19, 734, 584, 586, 588, 590, 592, 594, 596, 598, 600, 602, 604, 606, 608, 610, 612, 614, 616, 618, 620] (by rfl) (by decide +kernel)
set_option maxRecDepth 20000 in
theorem gT_X5_play : GoodIn lw_tbl (wsV RL 111 RX5 yX5_play wsX5_play) := goodIn_app (goodIn_r _ [711, 712, 713, 29] (by rfl) (by decide +kernel)) ggT_X5_play
set_option maxRecDepth 20000 in
theorem ggT_L_challenge : GoodIn lw_tbl wsL_challenge := goodIn_ca (goodIn_r _ [528, 307, 529, 530, 531, 26, 532, 384, 35, 91, 90, 491, 492, 493, 28, 494, 72, 200, 201, 202, 203, 75, 534, 535, 536, 537, 73, 538, 539, 540, 27, 541, 54, 53, 249, 220, 221, 222, 55, 152, 105, 34, 106, 139, 140, 141, 143, 142, 502, 504, 3, 505, 70, 74, 506, 508, 4, 509, 71, 510, 512, 5, 513, 514, 516, 6, 517, 518, 519, 520, 521, 522, 524, 7, 525, 93, 95, 97, 76, 78, 80, 82, 84, 86, 56, 58, 60] (by rfl) (by decide +kernel)) (goodIn_sub wsL_law_x1 (by decide +kernel))
set_option maxRecDepth 20000 in
theorem gT_L_challenge : GoodIn lw_tbl (va_wsS RL 112 yL_challenge wsL_challenge) := goodIn_app (goodIn_r _ [526, 527, 25] (by rfl) (by decide +kernel)) ggT_L_challenge
set_option maxRecDepth 20000 in
theorem ggT_X5_challenge : GoodIn lw_tbl wsX5_challenge := goodIn_r _ [738, 577, 573, 574, 715, 717, 15, 29, 718, 571, 575, 655, 657, 10, 658, 583, 719, 721, 16, 722, 569, 576, 568, 723, 725, 17, 726, 570, 667, 669, 12, 670, 567, 727, 729, 18, 730, 572, 731, 733, 19, 734, 584, 586, 588, 590, 592, 594, 596, 598, 600, 602, 604, 606, 608, 610, 612, 614, 616, 618, 620] (by rfl) (by decide +kernel)
set_option maxRecDepth 20000 in
theorem gT_X5_challenge : GoodIn lw_tbl (wsV RL 114 RX5 yX5_challenge wsX5_challenge) := goodIn_app (goodIn_r _ [735, 736, 737, 29] (by rfl) (by decide +kernel)) ggT_X5_challenge
set_option maxRecDepth 20000 in
theorem ggT_X4_turn : GoodIn lw_tbl wsX4_turn := goodIn_r _ [175, 91, 176, 177, 178, 28, 179, 72, 93, 95, 97, 76, 78, 80, 82, 84, 86] (by rfl) (by decide +kernel)
set_option maxRecDepth 20000 in
theorem gT_X4_turn : GoodIn lw_tbl (wsV RL 115 RX4 yX4_turn wsX4_turn) := goodIn_app (goodIn_r _ [172, 173, 174, 26] (by rfl) (by decide +kernel)) ggT_X4_turn
set_option maxRecDepth 20000 in
theorem ggT_X5_turn : GoodIn lw_tbl wsX5_turn := goodIn_r _ [742, 573, 715, 717, 15, 29, 718, 571, 575, 643, 645, 9, 646, 583, 584, 586, 588, 590, 592, 594, 596, 598, 600, 602, 604, 606, 608, 610, 612, 614, 616, 618, 620] (by rfl) (by decide +kernel)
set_option maxRecDepth 20000 in
theorem gT_X5_turn : GoodIn lw_tbl (wsV RL 118 RX5 yX5_turn wsX5_turn) := goodIn_app (goodIn_r _ [739, 740, 741, 29] (by rfl) (by decide +kernel)) ggT_X5_turn
set_option maxRecDepth 20000 in
theorem ggT_X4_winner : GoodIn lw_tbl wsX4_winner := goodIn_r _ [183, 91, 184, 185, 186, 28, 187, 74, 93, 95, 97, 76, 78, 80, 82, 84, 86] (by rfl) (by decide +kernel)
set_option maxRecDepth 20000 in
theorem gT_X4_winner : GoodIn lw_tbl (wsV RL 119 RX4 yX4_winner wsX4_winner) := goodIn_app (goodIn_r _ [180, 181, 182, 26] (by rfl) (by decide +kernel)) ggT_X4_winner
set_option maxRecDepth 20000 in
theorem ggT_X5_winner : GoodIn lw_tbl wsX5_winner := goodIn_r _ [746, 575, 643, 645, 9, 29, 646, 583, 584, 586, 588, 590, 592, 594, 596, 598, 600, 602, 604, 606, 608, 610, 612, 614, 616, 618, 620] (by rfl) (by decide +kernel)
set_option maxRecDepth 20000 in
theorem gT_X5_winner : GoodIn lw_tbl (wsV RL 122 RX5 yX5_winner wsX5_winner) := goodIn_app (goodIn_r _ [743, 744, 745, 29] (by rfl) (by decide +kernel)) ggT_X5_winner
set_option maxRecDepth 20000 in
theorem ggT_X4_players : GoodIn lw_tbl wsX4_players := goodIn_r _ [191, 91, 192, 193, 194, 28, 195, 71, 93, 95, 97, 76, 78, 80, 82, 84, 86] (by rfl) (by decide +kernel)
set_option maxRecDepth 20000 in
theorem gT_X4_players : GoodIn lw_tbl (wsV RL 123 RX4 yX4_players wsX4_players) := goodIn_app (goodIn_r _ [188, 189, 190, 26] (by rfl) (by decide +kernel)) ggT_X4_players
set_option maxRecDepth 20000 in
theorem ggT_X5_players : GoodIn lw_tbl wsX5_players := goodIn_r _ [750, 571, 643, 645, 9, 29, 646, 583, 584, 586, 588, 590, 592, 594, 596, 598, 600, 602, 604, 606, 608, 610, 612, 614, 616, 618, 620] (by rfl) (by decide +kernel)
set_option maxRecDepth 20000 in
theorem gT_X5_players : GoodIn lw_tbl (wsV RL 126 RX5 yX5_players wsX5_players) := goodIn_app (goodIn_r _ [747, 748, 749, 29] (by rfl) (by decide +kernel)) ggT_X5_players
set_option maxRecDepth 20000 in
theorem ggT_L_strikes : GoodIn lw_tbl wsL_strikes := goodIn_ca (goodIn_r _ [544, 404, 545, 546, 547, 26, 548, 410, 36, 91, 549, 519, 520, 28, 521, 70, 506, 508, 4, 509, 71, 93, 95, 97, 76, 78, 80, 82, 84, 86] (by rfl) (by decide +kernel)) (goodIn_sub wsL_law_x2 (by decide +kernel))
set_option maxRecDepth 20000 in
theorem gT_L_strikes : GoodIn lw_tbl (va_wsS RL 127 yL_strikes wsL_strikes) := goodIn_app (goodIn_r _ [542, 543, 25] (by rfl) (by decide +kernel)) ggT_L_strikes
set_option maxRecDepth 20000 in
theorem ggT_X5_strikes : GoodIn lw_tbl wsX5_strikes := goodIn_r _ [754, 571, 572, 655, 657, 10, 29, 658, 583, 584, 586, 588, 590, 592, 594, 596, 598, 600, 602, 604, 606, 608, 610, 612, 614, 616, 618, 620] (by rfl) (by decide +kernel)
set_option maxRecDepth 20000 in
theorem gT_X5_strikes : GoodIn lw_tbl (wsV RL 129 RX5 yX5_strikes wsX5_strikes) := goodIn_app (goodIn_r _ [751, 752, 753, 29] (by rfl) (by decide +kernel)) ggT_X5_strikes
set_option maxRecDepth 20000 in
theorem ggT_X4_fragmentLength : GoodIn lw_tbl wsX4_fragmentLength := goodIn_r _ [199, 91, 200, 201, 202, 28, 203, 75, 104, 105, 34, 106, 93, 95, 97, 76, 78, 80, 82, 84, 86] (by rfl) (by decide +kernel)
set_option maxRecDepth 20000 in
theorem gT_X4_fragmentLength : GoodIn lw_tbl (wsV RL 130 RX4 yX4_fragmentLength wsX4_fragmentLength) := goodIn_app (goodIn_r _ [196, 197, 198, 26] (by rfl) (by decide +kernel)) ggT_X4_fragmentLength
set_option maxRecDepth 20000 in
theorem ggT_X5_fragmentLength : GoodIn lw_tbl wsX5_fragmentLength := goodIn_r _ [758, 577, 643, 645, 9, 29, 646, 583, 584, 586, 588, 590, 592, 594, 596, 598, 600, 602, 604, 606, 608, 610, 612, 614, 616, 618, 620] (by rfl) (by decide +kernel)
set_option maxRecDepth 20000 in
theorem gT_X5_fragmentLength : GoodIn lw_tbl (wsV RL 133 RX5 yX5_fragmentLength wsX5_fragmentLength) := goodIn_app (goodIn_r _ [755, 756, 757, 29] (by rfl) (by decide +kernel)) ggT_X5_fragmentLength
set_option maxRecDepth 20000 in
theorem ggT_L_fragmentAt : GoodIn lw_tbl wsL_fragmentAt := goodIn_ca (goodIn_r _ [553, 404, 554, 555, 556, 26, 557, 410, 36, 91, 200, 201, 202, 28, 203, 75, 409, 226, 34, 227, 142, 105, 106, 93, 95, 97, 76, 78, 80, 82, 84, 86] (by rfl) (by decide +kernel)) (goodIn_sub wsL_law_x2 (by decide +kernel))
set_option maxRecDepth 20000 in
theorem gT_L_fragmentAt : GoodIn lw_tbl (va_wsS RL 134 yL_fragmentAt wsL_fragmentAt) := goodIn_app (goodIn_r _ [551, 552, 25] (by rfl) (by decide +kernel)) ggT_L_fragmentAt
set_option maxRecDepth 20000 in
theorem ggT_X5_fragmentAt : GoodIn lw_tbl wsX5_fragmentAt := goodIn_r _ [762, 577, 576, 655, 657, 10, 29, 658, 583, 584, 586, 588, 590, 592, 594, 596, 598, 600, 602, 604, 606, 608, 610, 612, 614, 616, 618, 620] (by rfl) (by decide +kernel)
set_option maxRecDepth 20000 in
theorem gT_X5_fragmentAt : GoodIn lw_tbl (wsV RL 136 RX5 yX5_fragmentAt wsX5_fragmentAt) := goodIn_app (goodIn_r _ [759, 760, 761, 29] (by rfl) (by decide +kernel)) ggT_X5_fragmentAt
