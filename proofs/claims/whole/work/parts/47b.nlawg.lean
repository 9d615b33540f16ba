set_option maxRecDepth 20000 in
theorem ggT_X4_isWord : GoodIn lw_tbl wsX4_isWord := goodIn_r _ [114, 90, 92, 115, 116, 117, 27, 118, 119, 121, 0, 122, 54, 53, 93, 95, 97, 56, 58, 60] (by rfl) (by decide +kernel)
set_option maxRecDepth 20000 in
theorem gT_X4_isWord : GoodIn lw_tbl (wsV RL 82 RX4 yX4_isWord wsX4_isWord) := goodIn_app (goodIn_r _ [111, 112, 113, 26] (by rfl) (by decide +kernel)) ggT_X4_isWord
set_option maxRecDepth 20000 in
theorem ggT_X5_isWord : GoodIn lw_tbl wsX5_isWord := goodIn_r _ [681, 586, 666, 668, 11, 29, 669, 572, 571, 569, 568, 670, 672, 12, 673, 570, 587, 589, 591, 593, 595, 597, 599, 601, 603, 605, 607, 609, 611, 613, 615, 617, 619, 621, 623] (by rfl) (by decide +kernel)
set_option maxRecDepth 20000 in
theorem gT_X5_isWord : GoodIn lw_tbl (wsV RL 86 RX5 yX5_isWord wsX5_isWord) := goodIn_app (goodIn_r _ [678, 679, 680, 29] (by rfl) (by decide +kernel)) ggT_X5_isWord
set_option maxRecDepth 20000 in
theorem ggT_X4_words : GoodIn lw_tbl wsX4_words := goodIn_r _ [126, 90, 127, 128, 129, 27, 130, 54, 93, 95, 97, 56, 58, 60] (by rfl) (by decide +kernel)
set_option maxRecDepth 20000 in
theorem gT_X4_words : GoodIn lw_tbl (wsV RL 87 RX4 yX4_words wsX4_words) := goodIn_app (goodIn_r _ [123, 124, 125, 26] (by rfl) (by decide +kernel)) ggT_X4_words
set_option maxRecDepth 20000 in
theorem ggT_X5_words : GoodIn lw_tbl wsX5_words := goodIn_r _ [685, 572, 646, 648, 9, 29, 649, 586, 587, 589, 591, 593, 595, 597, 599, 601, 603, 605, 607, 609, 611, 613, 615, 617, 619, 621, 623] (by rfl) (by decide +kernel)
set_option maxRecDepth 20000 in
theorem gT_X5_words : GoodIn lw_tbl (wsV RL 90 RX5 yX5_words wsX5_words) := goodIn_app (goodIn_r _ [682, 683, 684, 29] (by rfl) (by decide +kernel)) ggT_X5_words
set_option maxRecDepth 20000 in
theorem ggT_X4_wordsFromSlip : GoodIn lw_tbl wsX4_wordsFromSlip := goodIn_r _ [134, 90, 92, 135, 136, 137, 27, 138, 54, 53, 139, 140, 34, 141, 142, 105, 106, 143, 144, 145, 146, 147, 148, 149, 93, 95, 97, 56, 58, 60] (by rfl) (by decide +kernel)
set_option maxRecDepth 20000 in
theorem gT_X4_wordsFromSlip : GoodIn lw_tbl (wsV RL 91 RX4 yX4_wordsFromSlip wsX4_wordsFromSlip) := goodIn_app (goodIn_r _ [131, 132, 133, 26] (by rfl) (by decide +kernel)) ggT_X4_wordsFromSlip
set_option maxRecDepth 20000 in
theorem ggT_X5_wordsFromSlip : GoodIn lw_tbl wsX5_wordsFromSlip := goodIn_r _ [689, 572, 568, 569, 670, 672, 12, 29, 673, 571, 570, 646, 648, 9, 649, 586, 587, 589, 591, 593, 595, 597, 599, 601, 603, 605, 607, 609, 611, 613, 615, 617, 619, 621, 623] (by rfl) (by decide +kernel)
set_option maxRecDepth 20000 in
theorem gT_X5_wordsFromSlip : GoodIn lw_tbl (wsV RL 94 RX5 yX5_wordsFromSlip wsX5_wordsFromSlip) := goodIn_app (goodIn_r _ [686, 687, 688, 29] (by rfl) (by decide +kernel)) ggT_X5_wordsFromSlip
set_option maxRecDepth 20000 in
theorem ggT_X4_beginnings : GoodIn lw_tbl wsX4_beginnings := goodIn_r _ [153, 90, 154, 155, 156, 27, 157, 54, 53, 158, 105, 34, 106, 159, 161, 1, 162, 169, 170, 37, 171, 163, 164, 165, 166, 167, 168, 142, 143, 144, 145, 146, 147, 148, 149, 93, 95, 97, 56, 58, 60] (by rfl) (by decide +kernel)
set_option maxRecDepth 20000 in
theorem gT_X4_beginnings : GoodIn lw_tbl (wsV RL 95 RX4 yX4_beginnings wsX4_beginnings) := goodIn_app (goodIn_r _ [150, 151, 152, 26] (by rfl) (by decide +kernel)) ggT_X4_beginnings
set_option maxRecDepth 20000 in
theorem ggT_X5_beginnings : GoodIn lw_tbl wsX5_beginnings := goodIn_r _ [693, 572, 571, 694, 696, 13, 29, 697, 570, 646, 648, 9, 649, 586, 587, 589, 591, 593, 595, 597, 599, 601, 603, 605, 607, 609, 611, 613, 615, 617, 619, 621, 623] (by rfl) (by decide +kernel)
set_option maxRecDepth 20000 in
theorem gT_X5_beginnings : GoodIn lw_tbl (wsV RL 98 RX5 yX5_beginnings wsX5_beginnings) := goodIn_app (goodIn_r _ [690, 691, 692, 29] (by rfl) (by decide +kernel)) ggT_X5_beginnings
set_option maxRecDepth 20000 in
theorem ggT_L_copyWord : GoodIn lw_tbl wsL_copyWord := goodIn_ca (goodIn_r _ [456, 407, 457, 458, 459, 26, 460, 413, 36, 90, 92, 461, 213, 214, 27, 215, 54, 53, 104, 105, 34, 106, 93, 95, 97, 56, 58, 60] (by rfl) (by decide +kernel)) (goodIn_sub wsL_law_x2 (by decide +kernel))
set_option maxRecDepth 20000 in
theorem gT_L_copyWord : GoodIn lw_tbl (va_wsS RL 99 yL_copyWord wsL_copyWord) := goodIn_app (goodIn_r _ [454, 455, 25] (by rfl) (by decide +kernel)) ggT_L_copyWord
set_option maxRecDepth 20000 in
theorem ggT_X5_copyWord : GoodIn lw_tbl wsX5_copyWord := goodIn_r _ [701, 572, 571, 569, 568, 570, 658, 660, 10, 29, 661, 586, 702, 704, 14, 705, 587, 589, 591, 593, 595, 597, 599, 601, 603, 605, 607, 609, 611, 613, 615, 617, 619, 621, 623] (by rfl) (by decide +kernel)
set_option maxRecDepth 20000 in
theorem gT_X5_copyWord : GoodIn lw_tbl (wsV RL 101 RX5 yX5_copyWord wsX5_copyWord) := goodIn_app (goodIn_r _ [698, 699, 700, 29] (by rfl) (by decide +kernel)) ggT_X5_copyWord
set_option maxRecDepth 20000 in
theorem ggT_L_setLeastLength : GoodIn lw_tbl wsL_setLeastLength := goodIn_ca (goodIn_r _ [465, 309, 466, 467, 468, 26, 469, 318, 33, 90, 471, 472, 473, 27, 474, 55, 93, 95, 97, 56, 58, 60] (by rfl) (by decide +kernel)) (goodIn_sub wsL_law_x0 (by decide +kernel))
set_option maxRecDepth 20000 in
theorem gT_L_setLeastLength : GoodIn lw_tbl (va_wsS RL 102 yL_setLeastLength wsL_setLeastLength) := goodIn_app (goodIn_r _ [463, 464, 25] (by rfl) (by decide +kernel)) ggT_L_setLeastLength
set_option maxRecDepth 20000 in
theorem ggT_X5_setLeastLength : GoodIn lw_tbl wsX5_setLeastLength := goodIn_r _ [709, 573, 658, 660, 10, 29, 661, 586, 587, 589, 591, 593, 595, 597, 599, 601, 603, 605, 607, 609, 611, 613, 615, 617, 619, 621, 623] (by rfl) (by decide +kernel)
set_option maxRecDepth 20000 in
theorem gT_X5_setLeastLength : GoodIn lw_tbl (wsV RL 104 RX5 yX5_setLeastLength wsX5_setLeastLength) := goodIn_app (goodIn_r _ [706, 707, 708, 29] (by rfl) (by decide +kernel)) ggT_X5_setLeastLength
set_option maxRecDepth 20000 in
theorem ggT_L_start : GoodIn lw_tbl wsL_start := goodIn_ca (goodIn_r _ [477, 309, 478, 479, 480, 26, 481, 318, 33, 91, 483, 484, 485, 28, 486, 70, 71, 72, 73, 74, 75, 93, 95, 97, 76, 78, 80, 82, 84, 86] (by rfl) (by decide +kernel)) (goodIn_sub wsL_law_x0 (by decide +kernel))
set_option maxRecDepth 20000 in
theorem gT_L_start : GoodIn lw_tbl (va_wsS RL 105 yL_start wsL_start) := goodIn_app (goodIn_r _ [475, 476, 25] (by rfl) (by decide +kernel)) ggT_L_start
set_option maxRecDepth 20000 in
theorem ggT_X5_start : GoodIn lw_tbl wsX5_start := goodIn_r _ [713, 574, 575, 576, 578, 580, 658, 660, 10, 29, 661, 586, 587, 589, 591, 593, 595, 597, 599, 601, 603, 605, 607, 609, 611, 613, 615, 617, 619, 621, 623] (by rfl) (by decide +kernel)
set_option maxRecDepth 20000 in
theorem gT_X5_start : GoodIn lw_tbl (wsV RL 108 RX5 yX5_start wsX5_start) := goodIn_app (goodIn_r _ [710, 711, 712, 29] (by rfl) (by decide +kernel)) ggT_X5_start
set_option maxRecDepth 20000 in
theorem ggT_L_play : GoodIn lw_tbl wsL_play := goodIn_ca (goodIn_ca (goodIn_r _ [489, 309, 310, 490, 491, 492, 26, 493, 318, 33, 387, 35, 91, 90, 315, 316, 317, 494, 495, 496, 28, 497, 72, 200, 201, 202, 203, 75, 386, 258, 34, 259, 142, 105, 106, 499, 500, 501, 502, 73, 503, 246, 247, 146, 147, 148, 149, 504, 249, 250, 27, 251, 252, 220, 221, 222, 55, 158, 253, 116, 117, 118, 119, 121, 0, 122, 54, 53, 505, 507, 3, 508, 70, 74, 509, 511, 4, 512, 71, 513, 515, 5, 516, 517, 519, 6, 520, 521, 522, 523, 524, 525, 527, 7, 528, 93, 95, 97, 76, 78, 80, 82, 84, 86, 56, 58, 60] (by rfl) (by decide +kernel)) (goodIn_sub wsL_law_x0 (by decide +kernel))) (goodIn_sub wsL_law_x1 (by decide +kernel))
set_option maxRecDepth 20000 in
theorem gT_L_play : GoodIn lw_tbl (va_wsS RL 109 yL_play wsL_play) := goodIn_app (goodIn_r _ [487, 488, 25] (by rfl) (by decide +kernel)) ggT_L_play
