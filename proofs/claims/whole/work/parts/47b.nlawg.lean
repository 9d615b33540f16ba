set_option maxRecDepth 20000 in
theorem ggT_X4_isWord : GoodIn lw_tbl wsX4_isWord := goodIn_r _ [114, 90, 92, 115, 116, 117, 27, 118, 119, 121, 0, 122, 54, 53, 93, 95, 97, 56, 58, 60] (by rfl) (by decide +kernel)
set_option maxRecDepth 20000 in
theorem gT_X4_isWord : GoodIn lw_tbl (wsV RL 82 RX4 yX4_isWord wsX4_isWord) := goodIn_app (goodIn_r _ [111, 112, 113, 26] (by rfl) (by decide +kernel)) ggT_X4_isWord
set_option maxRecDepth 20000 in
theorem ggT_X5_isWord : GoodIn lw_tbl wsX5_isWord := goodIn_r _ [678, 583, 663, 665, 11, 29, 666, 569, 568, 566, 565, 667, 669, 12, 670, 567, 584, 586, 588, 590, 592, 594, 596, 598, 600, 602, 604, 606, 608, 610, 612, 614, 616, 618, 620] (by rfl) (by decide +kernel)
set_option maxRecDepth 20000 in
theorem gT_X5_isWord : GoodIn lw_tbl (wsV RL 86 RX5 yX5_isWord wsX5_isWord) := goodIn_app (goodIn_r _ [675, 676, 677, 29] (by rfl) (by decide +kernel)) ggT_X5_isWord
set_option maxRecDepth 20000 in
theorem ggT_X4_words : GoodIn lw_tbl wsX4_words := goodIn_r _ [126, 90, 127, 128, 129, 27, 130, 54, 93, 95, 97, 56, 58, 60] (by rfl) (by decide +kernel)
set_option maxRecDepth 20000 in
theorem gT_X4_words : GoodIn lw_tbl (wsV RL 87 RX4 yX4_words wsX4_words) := goodIn_app (goodIn_r _ [123, 124, 125, 26] (by rfl) (by decide +kernel)) ggT_X4_words
set_option maxRecDepth 20000 in
theorem ggT_X5_words : GoodIn lw_tbl wsX5_words := goodIn_r _ [682, 569, 643, 645, 9, 29, 646, 583, 584, 586, 588, 590, 592, 594, 596, 598, 600, 602, 604, 606, 608, 610, 612, 614, 616, 618, 620] (by rfl) (by decide +kernel)
set_option maxRecDepth 20000 in
theorem gT_X5_words : GoodIn lw_tbl (wsV RL 90 RX5 yX5_words wsX5_words) := goodIn_app (goodIn_r _ [679, 680, 681, 29] (by rfl) (by decide +kernel)) ggT_X5_words
set_option maxRecDepth 20000 in
theorem ggT_X4_wordsFromSlip : GoodIn lw_tbl wsX4_wordsFromSlip := goodIn_r _ [134, 90, 92, 135, 136, 137, 27, 138, 54, 53, 139, 140, 34, 141, 143, 142, 105, 106, 93, 95, 97, 56, 58, 60] (by rfl) (by decide +kernel)
set_option maxRecDepth 20000 in
theorem gT_X4_wordsFromSlip : GoodIn lw_tbl (wsV RL 91 RX4 yX4_wordsFromSlip wsX4_wordsFromSlip) := goodIn_app (goodIn_r _ [131, 132, 133, 26] (by rfl) (by decide +kernel)) ggT_X4_wordsFromSlip
set_option maxRecDepth 20000 in
theorem ggT_X5_wordsFromSlip : GoodIn lw_tbl wsX5_wordsFromSlip := goodIn_r _ [686, 569, 565, 566, 667, 669, 12, 29, 670, 568, 567, 643, 645, 9, 646, 583, 584, 586, 588, 590, 592, 594, 596, 598, 600, 602, 604, 606, 608, 610, 612, 614, 616, 618, 620] (by rfl) (by decide +kernel)
set_option maxRecDepth 20000 in
theorem gT_X5_wordsFromSlip : GoodIn lw_tbl (wsV RL 94 RX5 yX5_wordsFromSlip wsX5_wordsFromSlip) := goodIn_app (goodIn_r _ [683, 684, 685, 29] (by rfl) (by decide +kernel)) ggT_X5_wordsFromSlip
set_option maxRecDepth 20000 in
theorem ggT_X4_beginnings : GoodIn lw_tbl wsX4_beginnings := goodIn_r _ [147, 90, 148, 149, 150, 27, 151, 54, 53, 152, 105, 34, 106, 153, 155, 1, 156, 169, 170, 37, 171, 157, 158, 159, 160, 161, 162, 142, 163, 164, 165, 143, 166, 167, 168, 93, 95, 97, 56, 58, 60] (by rfl) (by decide +kernel)
set_option maxRecDepth 20000 in
theorem gT_X4_beginnings : GoodIn lw_tbl (wsV RL 95 RX4 yX4_beginnings wsX4_beginnings) := goodIn_app (goodIn_r _ [144, 145, 146, 26] (by rfl) (by decide +kernel)) ggT_X4_beginnings
set_option maxRecDepth 20000 in
theorem ggT_X5_beginnings : GoodIn lw_tbl wsX5_beginnings := goodIn_r _ [690, 569, 568, 691, 693, 13, 29, 694, 567, 643, 645, 9, 646, 583, 584, 586, 588, 590, 592, 594, 596, 598, 600, 602, 604, 606, 608, 610, 612, 614, 616, 618, 620] (by rfl) (by decide +kernel)
set_option maxRecDepth 20000 in
theorem gT_X5_beginnings : GoodIn lw_tbl (wsV RL 98 RX5 yX5_beginnings wsX5_beginnings) := goodIn_app (goodIn_r _ [687, 688, 689, 29] (by rfl) (by decide +kernel)) ggT_X5_beginnings
set_option maxRecDepth 20000 in
theorem ggT_L_copyWord : GoodIn lw_tbl wsL_copyWord := goodIn_ca (goodIn_r _ [453, 404, 454, 455, 456, 26, 457, 410, 36, 90, 92, 458, 213, 214, 27, 215, 54, 53, 104, 105, 34, 106, 93, 95, 97, 56, 58, 60] (by rfl) (by decide +kernel)) (goodIn_sub wsL_law_x2 (by decide +kernel))
set_option maxRecDepth 20000 in
theorem gT_L_copyWord : GoodIn lw_tbl (va_wsS RL 99 yL_copyWord wsL_copyWord) := goodIn_app (goodIn_r _ [451, 452, 25] (by rfl) (by decide +kernel)) ggT_L_copyWord
set_option maxRecDepth 20000 in
theorem ggT_X5_copyWord : GoodIn lw_tbl wsX5_copyWord := goodIn_r _ [698, 569, 568, 566, 565, 567, 655, 657, 10, 29, 658, 583, 699, 701, 14, 702, 584, 586, 588, 590, 592, 594, 596, 598, 600, 602, 604, 606, 608, 610, 612, 614, 616, 618, 620] (by rfl) (by decide +kernel)
set_option maxRecDepth 20000 in
theorem gT_X5_copyWord : GoodIn lw_tbl (wsV RL 101 RX5 yX5_copyWord wsX5_copyWord) := goodIn_app (goodIn_r _ [695, 696, 697, 29] (by rfl) (by decide +kernel)) ggT_X5_copyWord
set_option maxRecDepth 20000 in
theorem ggT_L_setLeastLength : GoodIn lw_tbl wsL_setLeastLength := goodIn_ca (goodIn_r _ [462, 306, 463, 464, 465, 26, 466, 315, 33, 90, 468, 469, 470, 27, 471, 55, 93, 95, 97, 56, 58, 60] (by rfl) (by decide +kernel)) (goodIn_sub wsL_law_x0 (by decide +kernel))
set_option maxRecDepth 20000 in
theorem gT_L_setLeastLength : GoodIn lw_tbl (va_wsS RL 102 yL_setLeastLength wsL_setLeastLength) := goodIn_app (goodIn_r _ [460, 461, 25] (by rfl) (by decide +kernel)) ggT_L_setLeastLength
set_option maxRecDepth 20000 in
theorem ggT_X5_setLeastLength : GoodIn lw_tbl wsX5_setLeastLength := goodIn_r _ [706, 570, 655, 657, 10, 29, 658, 583, 584, 586, 588, 590, 592, 594, 596, 598, 600, 602, 604, 606, 608, 610, 612, 614, 616, 618, 620] (by rfl) (by decide +kernel)
set_option maxRecDepth 20000 in
theorem gT_X5_setLeastLength : GoodIn lw_tbl (wsV RL 104 RX5 yX5_setLeastLength wsX5_setLeastLength) := goodIn_app (goodIn_r _ [703, 704, 705, 29] (by rfl) (by decide +kernel)) ggT_X5_setLeastLength
set_option maxRecDepth 20000 in
theorem ggT_L_start : GoodIn lw_tbl wsL_start := goodIn_ca (goodIn_r _ [474, 306, 475, 476, 477, 26, 478, 315, 33, 91, 480, 481, 482, 28, 483, 70, 71, 72, 73, 74, 75, 93, 95, 97, 76, 78, 80, 82, 84, 86] (by rfl) (by decide +kernel)) (goodIn_sub wsL_law_x0 (by decide +kernel))
set_option maxRecDepth 20000 in
theorem gT_L_start : GoodIn lw_tbl (va_wsS RL 105 yL_start wsL_start) := goodIn_app (goodIn_r _ [472, 473, 25] (by rfl) (by decide +kernel)) ggT_L_start
set_option maxRecDepth 20000 in
theorem ggT_X5_start : GoodIn lw_tbl wsX5_start := goodIn_r _ [710, 571, 572, 573, 575, 577, 655, 657, 10, 29, 658, 583, 584, 586, 588, 590, 592, 594, 596, 598, 600, 602, 604, 606, 608, 610, 612, 614, 616, 618, 620] (by rfl) (by decide +kernel)
set_option maxRecDepth 20000 in
theorem gT_X5_start : GoodIn lw_tbl (wsV RL 108 RX5 yX5_start wsX5_start) := goodIn_app (goodIn_r _ [707, 708, 709, 29] (by rfl) (by decide +kernel)) ggT_X5_start
set_option maxRecDepth 20000 in
theorem ggT_L_play : GoodIn lw_tbl wsL_play := goodIn_ca (goodIn_ca (goodIn_r _ [486, 306, 307, 487, 488, 489, 26, 490, 315, 33, 384, 35, 91, 90, 312, 313, 314, 491, 492, 493, 28, 494, 72, 200, 201, 202, 203, 75, 383, 255, 34, 256, 142, 105, 106, 496, 497, 498, 499, 73, 500, 243, 244, 143, 166, 167, 168, 501, 246, 247, 27, 248, 249, 220, 221, 222, 55, 152, 250, 116, 117, 118, 119, 121, 0, 122, 54, 53, 502, 504, 3, 505, 70, 74, 506, 508, 4, 509, 71, 510, 512, 5, 513, 514, 516, 6, 517, 518, 519, 520, 521, 522, 524, 7, 525, 93, 95, 97, 76, 78, 80, 82, 84, 86, 56, 58, 60] (by rfl) (by decide +kernel)) (goodIn_sub wsL_law_x0 (by decide +kernel))) (goodIn_sub wsL_law_x1 (by decide +kernel))
set_option maxRecDepth 20000 in
theorem gT_L_play : GoodIn lw_tbl (va_wsS RL 109 yL_play wsL_play) := goodIn_app (goodIn_r _ [484, 485, 25] (by rfl) (by decide +kernel)) ggT_L_play
