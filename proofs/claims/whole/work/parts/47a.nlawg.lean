set_option maxRecDepth 20000 in
theorem ggT_X4_init : GoodIn lw_tbl wsX4_init := goodIn_r _ [43, 44, 45, 46, 47, 48, 27, 90, 64, 65, 28, 91, 92, 49, 50, 51, 52, 63, 53, 54, 55, 66, 67, 68, 69, 89, 70, 71, 72, 73, 74, 75, 56, 58, 60, 93, 95, 97, 76, 78, 80, 82, 84, 86] (by rfl) (by decide +kernel)
set_option maxRecDepth 20000 in
theorem gT_X4_init : GoodIn lw_tbl (wsX4_init) := ggT_X4_init
set_option maxRecDepth 20000 in
theorem ggT_X5_init : GoodIn lw_tbl wsX5_init := goodIn_r _ [563, 564, 45, 46, 89, 565, 567, 568, 570, 572, 575, 576, 623, 578, 579, 580, 581, 582, 584, 586, 588, 590, 592, 594, 596, 598, 600, 602, 604, 606, 608, 610, 612, 614, 616, 618, 620] (by rfl) (by decide +kernel)
set_option maxRecDepth 20000 in
theorem gT_X5_init : GoodIn lw_tbl (wsX5_init) := ggT_X5_init
set_option maxRecDepth 20000 in
theorem ggT_L_write : GoodIn lw_tbl wsL_write := goodIn_ca (goodIn_ca (goodIn_r _ [305, 306, 307, 308, 309, 310, 26, 311, 315, 33, 384, 35, 92, 312, 313, 314, 383, 255, 34, 256, 142, 105, 106, 400, 243, 244, 143, 166, 167, 168, 104, 93, 95, 97] (by rfl) (by decide +kernel)) (goodIn_sub wsL_law_x0 (by decide +kernel))) (goodIn_sub wsL_law_x1 (by decide +kernel))
set_option maxRecDepth 20000 in
theorem gT_L_write : GoodIn lw_tbl (va_wsS RL 55 yL_write wsL_write) := goodIn_app (goodIn_r _ [303, 304, 25] (by rfl) (by decide +kernel)) ggT_L_write
set_option maxRecDepth 20000 in
theorem ggT_X5_write : GoodIn lw_tbl wsX5_write := goodIn_r _ [631, 566, 565, 632, 633, 29, 634, 635, 637, 8, 638, 583, 584, 586, 588, 590, 592, 594, 596, 598, 600, 602, 604, 606, 608, 610, 612, 614, 616, 618, 620] (by rfl) (by decide +kernel)
set_option maxRecDepth 20000 in
theorem gT_X5_write : GoodIn lw_tbl (wsV RL 60 RX5 yX5_write wsX5_write) := goodIn_app (goodIn_r _ [628, 629, 630, 29] (by rfl) (by decide +kernel)) ggT_X5_write
set_option maxRecDepth 20000 in
theorem ggT_X5_thrown : GoodIn lw_tbl wsX5_thrown := goodIn_r _ [627, 583, 584, 586, 588, 590, 592, 594, 596, 598, 600, 602, 604, 606, 608, 610, 612, 614, 616, 618, 620] (by rfl) (by decide +kernel)
set_option maxRecDepth 20000 in
theorem gT_X5_thrown : GoodIn lw_tbl (wsV RL 61 RX5 yX5_thrown wsX5_thrown) := goodIn_app (goodIn_r _ [624, 625, 626, 29] (by rfl) (by decide +kernel)) ggT_X5_thrown
set_option maxRecDepth 20000 in
theorem ggT_X4_wipe : GoodIn lw_tbl wsX4_wipe := goodIn_r _ [103, 92, 104, 105, 34, 106, 93, 95, 97] (by rfl) (by decide +kernel)
set_option maxRecDepth 20000 in
theorem gT_X4_wipe : GoodIn lw_tbl (wsV RL 64 RX4 yX4_wipe wsX4_wipe) := goodIn_app (goodIn_r _ [100, 101, 102, 26] (by rfl) (by decide +kernel)) ggT_X4_wipe
set_option maxRecDepth 20000 in
theorem ggT_X5_wipe : GoodIn lw_tbl wsX5_wipe := goodIn_r _ [642, 566, 643, 645, 9, 29, 646, 583, 584, 586, 588, 590, 592, 594, 596, 598, 600, 602, 604, 606, 608, 610, 612, 614, 616, 618, 620] (by rfl) (by decide +kernel)
set_option maxRecDepth 20000 in
theorem gT_X5_wipe : GoodIn lw_tbl (wsV RL 67 RX5 yX5_wipe wsX5_wipe) := goodIn_app (goodIn_r _ [639, 640, 641, 29] (by rfl) (by decide +kernel)) ggT_X5_wipe
set_option maxRecDepth 20000 in
theorem ggT_X4_slipLength : GoodIn lw_tbl wsX4_slipLength := goodIn_r _ [110, 92, 104, 105, 34, 106, 93, 95, 97] (by rfl) (by decide +kernel)
set_option maxRecDepth 20000 in
theorem gT_X4_slipLength : GoodIn lw_tbl (wsV RL 68 RX4 yX4_slipLength wsX4_slipLength) := goodIn_app (goodIn_r _ [107, 108, 109, 26] (by rfl) (by decide +kernel)) ggT_X4_slipLength
set_option maxRecDepth 20000 in
theorem ggT_X5_slipLength : GoodIn lw_tbl wsX5_slipLength := goodIn_r _ [650, 566, 643, 645, 9, 29, 646, 583, 584, 586, 588, 590, 592, 594, 596, 598, 600, 602, 604, 606, 608, 610, 612, 614, 616, 618, 620] (by rfl) (by decide +kernel)
set_option maxRecDepth 20000 in
theorem gT_X5_slipLength : GoodIn lw_tbl (wsV RL 71 RX5 yX5_slipLength wsX5_slipLength) := goodIn_app (goodIn_r _ [647, 648, 649, 29] (by rfl) (by decide +kernel)) ggT_X5_slipLength
set_option maxRecDepth 20000 in
theorem ggT_L_slipAt : GoodIn lw_tbl wsL_slipAt := goodIn_ca (goodIn_r _ [403, 404, 405, 406, 407, 26, 408, 410, 36, 92, 409, 226, 34, 227, 142, 105, 106, 93, 95, 97] (by rfl) (by decide +kernel)) (goodIn_sub wsL_law_x2 (by decide +kernel))
set_option maxRecDepth 20000 in
theorem gT_L_slipAt : GoodIn lw_tbl (va_wsS RL 72 yL_slipAt wsL_slipAt) := goodIn_app (goodIn_r _ [401, 402, 25] (by rfl) (by decide +kernel)) ggT_L_slipAt
set_option maxRecDepth 20000 in
theorem ggT_X5_slipAt : GoodIn lw_tbl wsX5_slipAt := goodIn_r _ [654, 566, 565, 655, 657, 10, 29, 658, 583, 584, 586, 588, 590, 592, 594, 596, 598, 600, 602, 604, 606, 608, 610, 612, 614, 616, 618, 620] (by rfl) (by decide +kernel)
set_option maxRecDepth 20000 in
theorem gT_X5_slipAt : GoodIn lw_tbl (wsV RL 74 RX5 yX5_slipAt wsX5_slipAt) := goodIn_app (goodIn_r _ [651, 652, 653, 29] (by rfl) (by decide +kernel)) ggT_X5_slipAt
set_option maxRecDepth 20000 in
theorem ggT_L_addWord : GoodIn lw_tbl wsL_addWord := goodIn_ca (goodIn_ca (goodIn_r _ [428, 306, 307, 429, 430, 431, 26, 432, 315, 33, 384, 35, 92, 90, 104, 105, 34, 106, 434, 435, 436, 27, 437, 54, 53, 250, 116, 117, 118, 119, 121, 0, 122, 127, 128, 129, 130, 93, 95, 97, 56, 58, 60] (by rfl) (by decide +kernel)) (goodIn_sub wsL_law_x0 (by decide +kernel))) (goodIn_sub wsL_law_x1 (by decide +kernel))
set_option maxRecDepth 20000 in
theorem gT_L_addWord : GoodIn lw_tbl (va_wsS RL 75 yL_addWord wsL_addWord) := goodIn_app (goodIn_r _ [426, 427, 25] (by rfl) (by decide +kernel)) ggT_L_addWord
set_option maxRecDepth 20000 in
theorem ggT_X5_addWord : GoodIn lw_tbl wsX5_addWord := goodIn_r _ [662, 566, 569, 568, 567, 565, 663, 665, 11, 29, 666, 667, 669, 12, 670, 635, 637, 8, 638, 583, 584, 586, 588, 590, 592, 594, 596, 598, 600, 602, 604, 606, 608, 610, 612, 614, 616, 618, 620] (by rfl) (by decide +kernel)
set_option maxRecDepth 20000 in
theorem gT_X5_addWord : GoodIn lw_tbl (wsV RL 78 RX5 yX5_addWord wsX5_addWord) := goodIn_app (goodIn_r _ [659, 660, 661, 29] (by rfl) (by decide +kernel)) ggT_X5_addWord
set_option maxRecDepth 20000 in
theorem ggT_L_removeWord : GoodIn lw_tbl wsL_removeWord := goodIn_ca (goodIn_r _ [441, 307, 442, 443, 444, 26, 445, 384, 35, 90, 92, 446, 447, 448, 27, 449, 54, 53, 119, 121, 0, 122, 127, 128, 129, 130, 93, 95, 97, 56, 58, 60] (by rfl) (by decide +kernel)) (goodIn_sub wsL_law_x1 (by decide +kernel))
set_option maxRecDepth 20000 in
theorem gT_L_removeWord : GoodIn lw_tbl (va_wsS RL 79 yL_removeWord wsL_removeWord) := goodIn_app (goodIn_r _ [439, 440, 25] (by rfl) (by decide +kernel)) ggT_L_removeWord
set_option maxRecDepth 20000 in
theorem ggT_X5_removeWord : GoodIn lw_tbl wsX5_removeWord := goodIn_r _ [674, 569, 568, 567, 663, 665, 11, 29, 666, 566, 565, 667, 669, 12, 670, 655, 657, 10, 658, 583, 584, 586, 588, 590, 592, 594, 596, 598, 600, 602, 604, 606, 608, 610, 612, 614, 616, 618, 620] (by rfl) (by decide +kernel)
set_option maxRecDepth 20000 in
theorem gT_X5_removeWord : GoodIn lw_tbl (wsV RL 81 RX5 yX5_removeWord wsX5_removeWord) := goodIn_app (goodIn_r _ [671, 672, 673, 29] (by rfl) (by decide +kernel)) ggT_X5_removeWord
