set_option maxRecDepth 20000 in
theorem ggT_X4_init : GoodIn lw_tbl wsX4_init := goodIn_r _ [43, 44, 45, 46, 47, 48, 27, 90, 64, 65, 28, 91, 92, 49, 50, 51, 52, 63, 53, 54, 55, 66, 67, 68, 69, 89, 70, 71, 72, 73, 74, 75, 56, 58, 60, 93, 95, 97, 76, 78, 80, 82, 84, 86] (by rfl) (by decide +kernel)
set_option maxRecDepth 20000 in
theorem gT_X4_init : GoodIn lw_tbl (wsX4_init) := ggT_X4_init
set_option maxRecDepth 20000 in
theorem ggT_X5_init : GoodIn lw_tbl wsX5_init := goodIn_r _ [566, 567, 45, 46, 89, 568, 570, 571, 573, 575, 578, 579, 626, 581, 582, 583, 584, 585, 587, 589, 591, 593, 595, 597, 599, 601, 603, 605, 607, 609, 611, 613, 615, 617, 619, 621, 623] (by rfl) (by decide +kernel)
set_option maxRecDepth 20000 in
theorem gT_X5_init : GoodIn lw_tbl (wsX5_init) := ggT_X5_init
set_option maxRecDepth 20000 in
theorem ggT_L_write : GoodIn lw_tbl wsL_write := goodIn_ca (goodIn_ca (goodIn_r _ [308, 309, 310, 311, 312, 313, 26, 314, 318, 33, 387, 35, 92, 315, 316, 317, 386, 258, 34, 259, 142, 105, 106, 403, 246, 247, 146, 147, 148, 149, 104, 93, 95, 97] (by rfl) (by decide +kernel)) (goodIn_sub wsL_law_x0 (by decide +kernel))) (goodIn_sub wsL_law_x1 (by decide +kernel))
set_option maxRecDepth 20000 in
theorem gT_L_write : GoodIn lw_tbl (va_wsS RL 55 yL_write wsL_write) := goodIn_app (goodIn_r _ [306, 307, 25] (by rfl) (by decide +kernel)) ggT_L_write
set_option maxRecDepth 20000 in
theorem ggT_X5_write : GoodIn lw_tbl wsX5_write := goodIn_r _ [634, 569, 568, 635, 636, 29, 637, 638, 640, 8, 641, 586, 587, 589, 591, 593, 595, 597, 599, 601, 603, 605, 607, 609, 611, 613, 615, 617, 619, 621, 623] (by rfl) (by decide +kernel)
set_option maxRecDepth 20000 in
theorem gT_X5_write : GoodIn lw_tbl (wsV RL 60 RX5 yX5_write wsX5_write) := goodIn_app (goodIn_r _ [631, 632, 633, 29] (by rfl) (by decide +kernel)) ggT_X5_write
set_option maxRecDepth 20000 in
theorem ggT_X5_thrown : GoodIn lw_tbl wsX5_thrown := goodIn_r _ [630, 586, 587, 589, 591, 593, 595, 597, 599, 601, 603, 605, 607, 609, 611, 613, 615, 617, 619, 621, 623] (by rfl) (by decide +kernel)
set_option maxRecDepth 20000 in
theorem gT_X5_thrown : GoodIn lw_tbl (wsV RL 61 RX5 yX5_thrown wsX5_thrown) := goodIn_app (goodIn_r _ [627, 628, 629, 29] (by rfl) (by decide +kernel)) ggT_X5_thrown
set_option maxRecDepth 20000 in
theorem ggT_X4_wipe : GoodIn lw_tbl wsX4_wipe := goodIn_r _ [103, 92, 104, 105, 34, 106, 93, 95, 97] (by rfl) (by decide +kernel)
set_option maxRecDepth 20000 in
theorem gT_X4_wipe : GoodIn lw_tbl (wsV RL 64 RX4 yX4_wipe wsX4_wipe) := goodIn_app (goodIn_r _ [100, 101, 102, 26] (by rfl) (by decide +kernel)) ggT_X4_wipe
set_option maxRecDepth 20000 in
theorem ggT_X5_wipe : GoodIn lw_tbl wsX5_wipe := goodIn_r _ [645, 569, 646, 648, 9, 29, 649, 586, 587, 589, 591, 593, 595, 597, 599, 601, 603, 605, 607, 609, 611, 613, 615, 617, 619, 621, 623] (by rfl) (by decide +kernel)
set_option maxRecDepth 20000 in
theorem gT_X5_wipe : GoodIn lw_tbl (wsV RL 67 RX5 yX5_wipe wsX5_wipe) := goodIn_app (goodIn_r _ [642, 643, 644, 29] (by rfl) (by decide +kernel)) ggT_X5_wipe
set_option maxRecDepth 20000 in
theorem ggT_X4_slipLength : GoodIn lw_tbl wsX4_slipLength := goodIn_r _ [110, 92, 104, 105, 34, 106, 93, 95, 97] (by rfl) (by decide +kernel)
set_option maxRecDepth 20000 in
theorem gT_X4_slipLength : GoodIn lw_tbl (wsV RL 68 RX4 yX4_slipLength wsX4_slipLength) := goodIn_app (goodIn_r _ [107, 108, 109, 26] (by rfl) (by decide +kernel)) ggT_X4_slipLength
set_option maxRecDepth 20000 in
theorem ggT_X5_slipLength : GoodIn lw_tbl wsX5_slipLength := goodIn_r _ [653, 569, 646, 648, 9, 29, 649, 586, 587, 589, 591, 593, 595, 597, 599, 601, 603, 605, 607, 609, 611, 613, 615, 617, 619, 621, 623] (by rfl) (by decide +kernel)
set_option maxRecDepth 20000 in
theorem gT_X5_slipLength : GoodIn lw_tbl (wsV RL 71 RX5 yX5_slipLength wsX5_slipLength) := goodIn_app (goodIn_r _ [650, 651, 652, 29] (by rfl) (by decide +kernel)) ggT_X5_slipLength
set_option maxRecDepth 20000 in
theorem ggT_L_slipAt : GoodIn lw_tbl wsL_slipAt := goodIn_ca (goodIn_r _ [406, 407, 408, 409, 410, 26, 411, 413, 36, 92, 412, 229, 34, 230, 142, 105, 106, 93, 95, 97] (by rfl) (by decide +kernel)) (goodIn_sub wsL_law_x2 (by decide +kernel))
set_option maxRecDepth 20000 in
theorem gT_L_slipAt : GoodIn lw_tbl (va_wsS RL 72 yL_slipAt wsL_slipAt) := goodIn_app (goodIn_r _ [404, 405, 25] (by rfl) (by decide +kernel)) ggT_L_slipAt
set_option maxRecDepth 20000 in
theorem ggT_X5_slipAt : GoodIn lw_tbl wsX5_slipAt := goodIn_r _ [657, 569, 568, 658, 660, 10, 29, 661, 586, 587, 589, 591, 593, 595, 597, 599, 601, 603, 605, 607, 609, 611, 613, 615, 617, 619, 621, 623] (by rfl) (by decide +kernel)
set_option maxRecDepth 20000 in
theorem gT_X5_slipAt : GoodIn lw_tbl (wsV RL 74 RX5 yX5_slipAt wsX5_slipAt) := goodIn_app (goodIn_r _ [654, 655, 656, 29] (by rfl) (by decide +kernel)) ggT_X5_slipAt
set_option maxRecDepth 20000 in
theorem ggT_L_addWord : GoodIn lw_tbl wsL_addWord := goodIn_ca (goodIn_ca (goodIn_r _ [431, 309, 310, 432, 433, 434, 26, 435, 318, 33, 387, 35, 92, 90, 104, 105, 34, 106, 437, 438, 439, 27, 440, 54, 53, 253, 116, 117, 118, 119, 121, 0, 122, 127, 128, 129, 130, 93, 95, 97, 56, 58, 60] (by rfl) (by decide +kernel)) (goodIn_sub wsL_law_x0 (by decide +kernel))) (goodIn_sub wsL_law_x1 (by decide +kernel))
set_option maxRecDepth 20000 in
theorem gT_L_addWord : GoodIn lw_tbl (va_wsS RL 75 yL_addWord wsL_addWord) := goodIn_app (goodIn_r _ [429, 430, 25] (by rfl) (by decide +kernel)) ggT_L_addWord
set_option maxRecDepth 20000 in
theorem ggT_X5_addWord : GoodIn lw_tbl wsX5_addWord := goodIn_r _ [665, 569, 572, 571, 570, 568, 666, 668, 11, 29, 669, 670, 672, 12, 673, 638, 640, 8, 641, 586, 587, 589, 591, 593, 595, 597, 599, 601, 603, 605, 607, 609, 611, 613, 615, 617, 619, 621, 623] (by rfl) (by decide +kernel)
set_option maxRecDepth 20000 in
theorem gT_X5_addWord : GoodIn lw_tbl (wsV RL 78 RX5 yX5_addWord wsX5_addWord) := goodIn_app (goodIn_r _ [662, 663, 664, 29] (by rfl) (by decide +kernel)) ggT_X5_addWord
set_option maxRecDepth 20000 in
theorem ggT_L_removeWord : GoodIn lw_tbl wsL_removeWord := goodIn_ca (goodIn_r _ [444, 310, 445, 446, 447, 26, 448, 387, 35, 90, 92, 449, 450, 451, 27, 452, 54, 53, 119, 121, 0, 122, 127, 128, 129, 130, 93, 95, 97, 56, 58, 60] (by rfl) (by decide +kernel)) (goodIn_sub wsL_law_x1 (by decide +kernel))
set_option maxRecDepth 20000 in
theorem gT_L_removeWord : GoodIn lw_tbl (va_wsS RL 79 yL_removeWord wsL_removeWord) := goodIn_app (goodIn_r _ [442, 443, 25] (by rfl) (by decide +kernel)) ggT_L_removeWord
set_option maxRecDepth 20000 in
theorem ggT_X5_removeWord : GoodIn lw_tbl wsX5_removeWord := goodIn_r _ [677, 572, 571, 570, 666, 668, 11, 29, 669, 569, 568, 670, 672, 12, 673, 658, 660, 10, 661, 586, 587, 589, 591, 593, 595, 597, 599, 601, 603, 605, 607, 609, 611, 613, 615, 617, 619, 621, 623] (by rfl) (by decide +kernel)
set_option maxRecDepth 20000 in
theorem gT_X5_removeWord : GoodIn lw_tbl (wsV RL 81 RX5 yX5_removeWord wsX5_removeWord) := goodIn_app (goodIn_r _ [674, 675, 676, 29] (by rfl) (by decide +kernel)) ggT_X5_removeWord
