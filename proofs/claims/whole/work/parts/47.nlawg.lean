set_option maxRecDepth 20000 in
theorem ggL_law_X4_init : GoodIn wsL_law wsX4_init := goodIn_r _ [9, 10, 11, 12, 13, 14, 15, 16, 17, 18, 19, 20, 21, 22, 23, 24, 25, 6, 26, 27, 28, 29, 30, 31, 32, 33, 34, 35, 36, 37, 38, 39, 635, 636, 637, 613, 614, 615, 638, 639, 640, 641, 642, 643] (by decide +kernel) (by decide +kernel)
set_option maxRecDepth 20000 in
theorem gL_law_X4_init : GoodIn wsL_law (wsX4_init) := ggL_law_X4_init
set_option maxRecDepth 20000 in
theorem ggL_law_X5_init : GoodIn wsL_law wsX5_init := goodIn_r _ [42, 43, 11, 12, 33, 44, 45, 46, 47, 48, 49, 50, 51, 52, 53, 54, 55, 56, 616, 617, 618, 619, 620, 621, 622, 623, 624, 625, 626, 627, 628, 629, 630, 631, 632, 633, 634] (by decide +kernel) (by decide +kernel)
set_option maxRecDepth 20000 in
theorem gL_law_X5_init : GoodIn wsL_law (wsX5_init) := ggL_law_X5_init
set_option maxRecDepth 20000 in
theorem ggL_law_L_write : GoodIn wsL_law wsL_write := goodIn_ca (goodIn_ca (goodIn_r _ [60, 61, 62, 63, 64, 65, 2, 66, 67, 68, 69, 70, 21, 71, 72, 73, 74, 75, 76, 77, 78, 79, 80, 81, 82, 83, 84, 85, 86, 87, 88, 613, 614, 615] (by decide +kernel) (by decide +kernel)) (goodIn_sub (fun _ h => List.mem_append_left _ (List.mem_append_left _ (List.mem_append_right _ h))) (by decide +kernel))) (goodIn_sub (fun _ h => List.mem_append_left _ (List.mem_append_right _ h)) (by decide +kernel))
set_option maxRecDepth 20000 in
theorem gL_law_L_write : GoodIn wsL_law (va_wsS RL 55 yL_write wsL_write) := goodIn_app (goodIn_of _ (by decide +kernel)) ggL_law_L_write
set_option maxRecDepth 20000 in
theorem ggL_law_X5_write : GoodIn wsL_law wsX5_write := goodIn_r _ [92, 93, 44, 94, 95, 5, 96, 97, 98, 99, 100, 101, 616, 617, 618, 619, 620, 621, 622, 623, 624, 625, 626, 627, 628, 629, 630, 631, 632, 633, 634] (by decide +kernel) (by decide +kernel)
set_option maxRecDepth 20000 in
theorem gL_law_X5_write : GoodIn wsL_law (wsV RL 60 RX5 yX5_write wsX5_write) := goodIn_app (goodIn_of _ (by decide +kernel)) ggL_law_X5_write
set_option maxRecDepth 20000 in
theorem ggL_law_X5_thrown : GoodIn wsL_law wsX5_thrown := goodIn_r _ [105, 101, 616, 617, 618, 619, 620, 621, 622, 623, 624, 625, 626, 627, 628, 629, 630, 631, 632, 633, 634] (by decide +kernel) (by decide +kernel)
set_option maxRecDepth 20000 in
theorem gL_law_X5_thrown : GoodIn wsL_law (wsV RL 61 RX5 yX5_thrown wsX5_thrown) := goodIn_app (goodIn_of _ (by decide +kernel)) ggL_law_X5_thrown
set_option maxRecDepth 20000 in
theorem ggL_law_X4_wipe : GoodIn wsL_law wsX4_wipe := goodIn_r _ [109, 21, 88, 79, 76, 80, 613, 614, 615] (by decide +kernel) (by decide +kernel)
set_option maxRecDepth 20000 in
theorem gL_law_X4_wipe : GoodIn wsL_law (wsV RL 64 RX4 yX4_wipe wsX4_wipe) := goodIn_app (goodIn_of _ (by decide +kernel)) ggL_law_X4_wipe
set_option maxRecDepth 20000 in
theorem ggL_law_X5_wipe : GoodIn wsL_law wsX5_wipe := goodIn_r _ [113, 93, 114, 115, 116, 5, 117, 101, 616, 617, 618, 619, 620, 621, 622, 623, 624, 625, 626, 627, 628, 629, 630, 631, 632, 633, 634] (by decide +kernel) (by decide +kernel)
set_option maxRecDepth 20000 in
theorem gL_law_X5_wipe : GoodIn wsL_law (wsV RL 67 RX5 yX5_wipe wsX5_wipe) := goodIn_app (goodIn_of _ (by decide +kernel)) ggL_law_X5_wipe
set_option maxRecDepth 20000 in
theorem ggL_law_X4_slipLength : GoodIn wsL_law wsX4_slipLength := goodIn_r _ [121, 21, 88, 79, 76, 80, 613, 614, 615] (by decide +kernel) (by decide +kernel)
set_option maxRecDepth 20000 in
theorem gL_law_X4_slipLength : GoodIn wsL_law (wsV RL 68 RX4 yX4_slipLength wsX4_slipLength) := goodIn_app (goodIn_of _ (by decide +kernel)) ggL_law_X4_slipLength
set_option maxRecDepth 20000 in
theorem ggL_law_X5_slipLength : GoodIn wsL_law wsX5_slipLength := goodIn_r _ [125, 93, 114, 115, 116, 5, 117, 101, 616, 617, 618, 619, 620, 621, 622, 623, 624, 625, 626, 627, 628, 629, 630, 631, 632, 633, 634] (by decide +kernel) (by decide +kernel)
set_option maxRecDepth 20000 in
theorem gL_law_X5_slipLength : GoodIn wsL_law (wsV RL 71 RX5 yX5_slipLength wsX5_slipLength) := goodIn_app (goodIn_of _ (by decide +kernel)) ggL_law_X5_slipLength
set_option maxRecDepth 20000 in
theorem ggL_law_L_slipAt : GoodIn wsL_law wsL_slipAt := goodIn_ca (goodIn_r _ [128, 129, 130, 131, 132, 2, 133, 134, 135, 21, 136, 137, 76, 138, 78, 79, 80, 613, 614, 615] (by decide +kernel) (by decide +kernel)) (goodIn_sub (fun _ h => List.mem_append_right _ h) (by decide +kernel))
set_option maxRecDepth 20000 in
theorem gL_law_L_slipAt : GoodIn wsL_law (va_wsS RL 72 yL_slipAt wsL_slipAt) := goodIn_app (goodIn_of _ (by decide +kernel)) ggL_law_L_slipAt
set_option maxRecDepth 20000 in
theorem ggL_law_X5_slipAt : GoodIn wsL_law wsX5_slipAt := goodIn_r _ [142, 93, 44, 143, 144, 145, 5, 146, 101, 616, 617, 618, 619, 620, 621, 622, 623, 624, 625, 626, 627, 628, 629, 630, 631, 632, 633, 634] (by decide +kernel) (by decide +kernel)
set_option maxRecDepth 20000 in
theorem gL_law_X5_slipAt : GoodIn wsL_law (wsV RL 74 RX5 yX5_slipAt wsX5_slipAt) := goodIn_app (goodIn_of _ (by decide +kernel)) ggL_law_X5_slipAt
set_option maxRecDepth 20000 in
theorem ggL_law_L_addWord : GoodIn wsL_law wsL_addWord := goodIn_ca (goodIn_ca (goodIn_r _ [149, 61, 62, 150, 151, 152, 2, 153, 67, 68, 69, 70, 21, 16, 88, 79, 76, 80, 154, 155, 156, 15, 157, 27, 26, 158, 159, 160, 161, 162, 163, 164, 165, 166, 167, 168, 169, 613, 614, 615, 635, 636, 637] (by decide +kernel) (by decide +kernel)) (goodIn_sub (fun _ h => List.mem_append_left _ (List.mem_append_left _ (List.mem_append_right _ h))) (by decide +kernel))) (goodIn_sub (fun _ h => List.mem_append_left _ (List.mem_append_right _ h)) (by decide +kernel))
set_option maxRecDepth 20000 in
theorem gL_law_L_addWord : GoodIn wsL_law (va_wsS RL 75 yL_addWord wsL_addWord) := goodIn_app (goodIn_of _ (by decide +kernel)) ggL_law_L_addWord
set_option maxRecDepth 20000 in
theorem ggL_law_X5_addWord : GoodIn wsL_law wsX5_addWord := goodIn_r _ [173, 93, 174, 46, 45, 44, 175, 176, 177, 5, 178, 179, 180, 181, 182, 97, 98, 99, 100, 101, 616, 617, 618, 619, 620, 621, 622, 623, 624, 625, 626, 627, 628, 629, 630, 631, 632, 633, 634] (by decide +kernel) (by decide +kernel)
set_option maxRecDepth 20000 in
theorem gL_law_X5_addWord : GoodIn wsL_law (wsV RL 78 RX5 yX5_addWord wsX5_addWord) := goodIn_app (goodIn_of _ (by decide +kernel)) ggL_law_X5_addWord
set_option maxRecDepth 20000 in
theorem ggL_law_L_removeWord : GoodIn wsL_law wsL_removeWord := goodIn_ca (goodIn_r _ [185, 62, 186, 187, 188, 2, 189, 69, 70, 16, 21, 190, 191, 192, 15, 193, 27, 26, 162, 163, 164, 165, 166, 167, 168, 169, 613, 614, 615, 635, 636, 637] (by decide +kernel) (by decide +kernel)) (goodIn_sub (fun _ h => List.mem_append_left _ (List.mem_append_right _ h)) (by decide +kernel))
set_option maxRecDepth 20000 in
theorem gL_law_L_removeWord : GoodIn wsL_law (va_wsS RL 79 yL_removeWord wsL_removeWord) := goodIn_app (goodIn_of _ (by decide +kernel)) ggL_law_L_removeWord
set_option maxRecDepth 20000 in
theorem ggL_law_X5_removeWord : GoodIn wsL_law wsX5_removeWord := goodIn_r _ [197, 174, 46, 45, 175, 176, 177, 5, 178, 93, 44, 179, 180, 181, 182, 143, 144, 145, 146, 101, 616, 617, 618, 619, 620, 621, 622, 623, 624, 625, 626, 627, 628, 629, 630, 631, 632, 633, 634] (by decide +kernel) (by decide +kernel)
set_option maxRecDepth 20000 in
theorem gL_law_X5_removeWord : GoodIn wsL_law (wsV RL 81 RX5 yX5_removeWord wsX5_removeWord) := goodIn_app (goodIn_of _ (by decide +kernel)) ggL_law_X5_removeWord
set_option maxRecDepth 20000 in
theorem ggL_law_X4_isWord : GoodIn wsL_law wsX4_isWord := goodIn_r _ [201, 16, 21, 202, 159, 160, 15, 161, 162, 163, 164, 165, 27, 26, 613, 614, 615, 635, 636, 637] (by decide +kernel) (by decide +kernel)
set_option maxRecDepth 20000 in
theorem gL_law_X4_isWord : GoodIn wsL_law (wsV RL 82 RX4 yX4_isWord wsX4_isWord) := goodIn_app (goodIn_of _ (by decide +kernel)) ggL_law_X4_isWord
set_option maxRecDepth 20000 in
theorem ggL_law_X5_isWord : GoodIn wsL_law wsX5_isWord := goodIn_r _ [206, 101, 175, 176, 177, 5, 178, 174, 46, 93, 44, 179, 180, 181, 182, 45, 616, 617, 618, 619, 620, 621, 622, 623, 624, 625, 626, 627, 628, 629, 630, 631, 632, 633, 634] (by decide +kernel) (by decide +kernel)
set_option maxRecDepth 20000 in
theorem gL_law_X5_isWord : GoodIn wsL_law (wsV RL 86 RX5 yX5_isWord wsX5_isWord) := goodIn_app (goodIn_of _ (by decide +kernel)) ggL_law_X5_isWord
set_option maxRecDepth 20000 in
theorem ggL_law_X4_words : GoodIn wsL_law wsX4_words := goodIn_r _ [210, 16, 166, 167, 168, 15, 169, 27, 613, 614, 615, 635, 636, 637] (by decide +kernel) (by decide +kernel)
set_option maxRecDepth 20000 in
theorem gL_law_X4_words : GoodIn wsL_law (wsV RL 87 RX4 yX4_words wsX4_words) := goodIn_app (goodIn_of _ (by decide +kernel)) ggL_law_X4_words
set_option maxRecDepth 20000 in
theorem ggL_law_X5_words : GoodIn wsL_law wsX5_words := goodIn_r _ [214, 174, 114, 115, 116, 5, 117, 101, 616, 617, 618, 619, 620, 621, 622, 623, 624, 625, 626, 627, 628, 629, 630, 631, 632, 633, 634] (by decide +kernel) (by decide +kernel)
set_option maxRecDepth 20000 in
theorem gL_law_X5_words : GoodIn wsL_law (wsV RL 90 RX5 yX5_words wsX5_words) := goodIn_app (goodIn_of _ (by decide +kernel)) ggL_law_X5_words
set_option maxRecDepth 20000 in
theorem ggL_law_X4_wordsFromSlip : GoodIn wsL_law wsX4_wordsFromSlip := goodIn_r _ [218, 16, 21, 219, 220, 221, 15, 222, 27, 26, 223, 224, 76, 225, 78, 79, 80, 226, 227, 228, 84, 85, 86, 87, 613, 614, 615, 635, 636, 637] (by decide +kernel) (by decide +kernel)
set_option maxRecDepth 20000 in
theorem gL_law_X4_wordsFromSlip : GoodIn wsL_law (wsV RL 91 RX4 yX4_wordsFromSlip wsX4_wordsFromSlip) := goodIn_app (goodIn_of _ (by decide +kernel)) ggL_law_X4_wordsFromSlip
set_option maxRecDepth 20000 in
theorem ggL_law_X5_wordsFromSlip : GoodIn wsL_law wsX5_wordsFromSlip := goodIn_r _ [232, 174, 44, 93, 179, 180, 181, 5, 182, 46, 45, 114, 115, 116, 117, 101, 616, 617, 618, 619, 620, 621, 622, 623, 624, 625, 626, 627, 628, 629, 630, 631, 632, 633, 634] (by decide +kernel) (by decide +kernel)
set_option maxRecDepth 20000 in
theorem gL_law_X5_wordsFromSlip : GoodIn wsL_law (wsV RL 94 RX5 yX5_wordsFromSlip wsX5_wordsFromSlip) := goodIn_app (goodIn_of _ (by decide +kernel)) ggL_law_X5_wordsFromSlip
set_option maxRecDepth 20000 in
theorem ggL_law_X4_beginnings : GoodIn wsL_law wsX4_beginnings := goodIn_r _ [236, 16, 237, 238, 239, 15, 240, 27, 26, 241, 79, 76, 80, 242, 243, 244, 245, 246, 247, 248, 249, 250, 251, 252, 253, 254, 255, 78, 226, 227, 228, 84, 85, 86, 87, 613, 614, 615, 635, 636, 637] (by decide +kernel) (by decide +kernel)
set_option maxRecDepth 20000 in
theorem gL_law_X4_beginnings : GoodIn wsL_law (wsV RL 95 RX4 yX4_beginnings wsX4_beginnings) := goodIn_app (goodIn_of _ (by decide +kernel)) ggL_law_X4_beginnings
set_option maxRecDepth 20000 in
theorem ggL_law_X5_beginnings : GoodIn wsL_law wsX5_beginnings := goodIn_r _ [259, 174, 46, 260, 261, 262, 5, 263, 45, 114, 115, 116, 117, 101, 616, 617, 618, 619, 620, 621, 622, 623, 624, 625, 626, 627, 628, 629, 630, 631, 632, 633, 634] (by decide +kernel) (by decide +kernel)
set_option maxRecDepth 20000 in
theorem gL_law_X5_beginnings : GoodIn wsL_law (wsV RL 98 RX5 yX5_beginnings wsX5_beginnings) := goodIn_app (goodIn_of _ (by decide +kernel)) ggL_law_X5_beginnings
set_option maxRecDepth 20000 in
theorem ggL_law_L_copyWord : GoodIn wsL_law wsL_copyWord := goodIn_ca (goodIn_r _ [266, 129, 267, 268, 269, 2, 270, 134, 135, 16, 21, 271, 272, 273, 15, 274, 27, 26, 88, 79, 76, 80, 613, 614, 615, 635, 636, 637] (by decide +kernel) (by decide +kernel)) (goodIn_sub (fun _ h => List.mem_append_right _ h) (by decide +kernel))
set_option maxRecDepth 20000 in
theorem gL_law_L_copyWord : GoodIn wsL_law (va_wsS RL 99 yL_copyWord wsL_copyWord) := goodIn_app (goodIn_of _ (by decide +kernel)) ggL_law_L_copyWord
set_option maxRecDepth 20000 in
theorem ggL_law_X5_copyWord : GoodIn wsL_law wsX5_copyWord := goodIn_r _ [278, 174, 46, 93, 44, 45, 143, 144, 145, 5, 146, 101, 279, 280, 281, 282, 616, 617, 618, 619, 620, 621, 622, 623, 624, 625, 626, 627, 628, 629, 630, 631, 632, 633, 634] (by decide +kernel) (by decide +kernel)
set_option maxRecDepth 20000 in
theorem gL_law_X5_copyWord : GoodIn wsL_law (wsV RL 101 RX5 yX5_copyWord wsX5_copyWord) := goodIn_app (goodIn_of _ (by decide +kernel)) ggL_law_X5_copyWord
set_option maxRecDepth 20000 in
theorem ggL_law_L_setLeastLength : GoodIn wsL_law wsL_setLeastLength := goodIn_ca (goodIn_r _ [285, 61, 286, 287, 288, 2, 289, 67, 68, 16, 290, 291, 292, 15, 293, 28, 613, 614, 615, 635, 636, 637] (by decide +kernel) (by decide +kernel)) (goodIn_sub (fun _ h => List.mem_append_left _ (List.mem_append_left _ (List.mem_append_right _ h))) (by decide +kernel))
set_option maxRecDepth 20000 in
theorem gL_law_L_setLeastLength : GoodIn wsL_law (va_wsS RL 102 yL_setLeastLength wsL_setLeastLength) := goodIn_app (goodIn_of _ (by decide +kernel)) ggL_law_L_setLeastLength
set_option maxRecDepth 20000 in
theorem ggL_law_X5_setLeastLength : GoodIn wsL_law wsX5_setLeastLength := goodIn_r _ [297, 47, 143, 144, 145, 5, 146, 101, 616, 617, 618, 619, 620, 621, 622, 623, 624, 625, 626, 627, 628, 629, 630, 631, 632, 633, 634] (by decide +kernel) (by decide +kernel)
set_option maxRecDepth 20000 in
theorem gL_law_X5_setLeastLength : GoodIn wsL_law (wsV RL 104 RX5 yX5_setLeastLength wsX5_setLeastLength) := goodIn_app (goodIn_of _ (by decide +kernel)) ggL_law_X5_setLeastLength
set_option maxRecDepth 20000 in
theorem ggL_law_L_start : GoodIn wsL_law wsL_start := goodIn_ca (goodIn_r _ [300, 61, 301, 302, 303, 2, 304, 67, 68, 20, 305, 306, 307, 19, 308, 34, 35, 36, 37, 38, 39, 613, 614, 615, 638, 639, 640, 641, 642, 643] (by decide +kernel) (by decide +kernel)) (goodIn_sub (fun _ h => List.mem_append_left _ (List.mem_append_left _ (List.mem_append_right _ h))) (by decide +kernel))
set_option maxRecDepth 20000 in
theorem gL_law_L_start : GoodIn wsL_law (va_wsS RL 105 yL_start wsL_start) := goodIn_app (goodIn_of _ (by decide +kernel)) ggL_law_L_start
set_option maxRecDepth 20000 in
theorem ggL_law_X5_start : GoodIn wsL_law wsX5_start := goodIn_r _ [312, 313, 48, 314, 49, 315, 143, 144, 145, 5, 146, 101, 616, 617, 618, 619, 620, 621, 622, 623, 624, 625, 626, 627, 628, 629, 630, 631, 632, 633, 634] (by decide +kernel) (by decide +kernel)
set_option maxRecDepth 20000 in
theorem gL_law_X5_start : GoodIn wsL_law (wsV RL 108 RX5 yX5_start wsX5_start) := goodIn_app (goodIn_of _ (by decide +kernel)) ggL_law_X5_start
set_option maxRecDepth 20000 in
theorem ggL_law_L_play : GoodIn wsL_law wsL_play := goodIn_ca (goodIn_ca (goodIn_r _ [318, 61, 62, 319, 320, 321, 2, 322, 67, 68, 69, 70, 20, 16, 71, 72, 73, 323, 324, 325, 19, 326, 36, 327, 328, 329, 330, 39, 74, 75, 76, 77, 78, 79, 80, 331, 332, 333, 334, 37, 335, 82, 83, 84, 85, 86, 87, 336, 337, 338, 15, 339, 340, 341, 342, 343, 28, 241, 158, 159, 160, 161, 162, 163, 164, 165, 27, 26, 344, 345, 346, 347, 34, 38, 348, 349, 350, 351, 35, 352, 353, 354, 355, 356, 357, 358, 359, 360, 361, 362, 363, 364, 365, 366, 367, 613, 614, 615, 638, 639, 640, 641, 642, 643, 635, 636, 637] (by decide +kernel) (by decide +kernel)) (goodIn_sub (fun _ h => List.mem_append_left _ (List.mem_append_left _ (List.mem_append_right _ h))) (by decide +kernel))) (goodIn_sub (fun _ h => List.mem_append_left _ (List.mem_append_right _ h)) (by decide +kernel))
set_option maxRecDepth 20000 in
theorem gL_law_L_play : GoodIn wsL_law (va_wsS RL 109 yL_play wsL_play) := goodIn_app (goodIn_of _ (by decide +kernel)) ggL_law_L_play
set_option maxRecDepth 20000 in
theorem ggL_law_X5_play : GoodIn wsL_law wsX5_play := goodIn_r _ [371, 315, 50, 314, 372, 94, 95, 5, 96, 373, 374, 375, 376, 313, 49, 97, 98, 99, 100, 101, 377, 378, 379, 380, 174, 46, 381, 382, 383, 384, 47, 179, 180, 181, 182, 45, 385, 386, 387, 388, 48, 389, 390, 391, 392, 616, 617, 618, 619, 620, 621, 622, 623, 624, 625, 626, 627, 628, 629, 630, 631, 632, 633, 634] (by decide +kernel) (by decide +kernel)
set_option maxRecDepth 20000 in
theorem gL_law_X5_play : GoodIn wsL_law (wsV RL 111 RX5 yX5_play wsX5_play) := goodIn_app (goodIn_of _ (by decide +kernel)) ggL_law_X5_play
set_option maxRecDepth 20000 in
theorem ggL_law_L_challenge : GoodIn wsL_law wsL_challenge := goodIn_ca (goodIn_r _ [395, 62, 396, 397, 398, 2, 399, 69, 70, 20, 16, 323, 324, 325, 19, 326, 36, 327, 328, 329, 330, 39, 400, 401, 402, 403, 37, 404, 405, 406, 15, 407, 27, 26, 340, 341, 342, 343, 28, 241, 79, 76, 80, 223, 224, 225, 78, 226, 227, 228, 84, 85, 86, 87, 344, 345, 346, 347, 34, 38, 348, 349, 350, 351, 35, 352, 353, 354, 355, 356, 357, 358, 359, 360, 361, 362, 363, 364, 365, 366, 367, 613, 614, 615, 638, 639, 640, 641, 642, 643, 635, 636, 637] (by decide +kernel) (by decide +kernel)) (goodIn_sub (fun _ h => List.mem_append_left _ (List.mem_append_right _ h)) (by decide +kernel))
set_option maxRecDepth 20000 in
theorem gL_law_L_challenge : GoodIn wsL_law (va_wsS RL 112 yL_challenge wsL_challenge) := goodIn_app (goodIn_of _ (by decide +kernel)) ggL_law_L_challenge
set_option maxRecDepth 20000 in
theorem ggL_law_X5_challenge : GoodIn wsL_law wsX5_challenge := goodIn_r _ [411, 315, 314, 372, 373, 374, 375, 5, 376, 313, 49, 143, 144, 145, 146, 101, 377, 378, 379, 380, 174, 50, 46, 381, 382, 383, 384, 47, 179, 180, 181, 182, 45, 385, 386, 387, 388, 48, 389, 390, 391, 392, 616, 617, 618, 619, 620, 621, 622, 623, 624, 625, 626, 627, 628, 629, 630, 631, 632, 633, 634] (by decide +kernel) (by decide +kernel)
set_option maxRecDepth 20000 in
theorem gL_law_X5_challenge : GoodIn wsL_law (wsV RL 114 RX5 yX5_challenge wsX5_challenge) := goodIn_app (goodIn_of _ (by decide +kernel)) ggL_law_X5_challenge
set_option maxRecDepth 20000 in
theorem ggL_law_X4_turn : GoodIn wsL_law wsX4_turn := goodIn_r _ [415, 20, 416, 417, 418, 19, 419, 36, 613, 614, 615, 638, 639, 640, 641, 642, 643] (by decide +kernel) (by decide +kernel)
set_option maxRecDepth 20000 in
theorem gL_law_X4_turn : GoodIn wsL_law (wsV RL 115 RX4 yX4_turn wsX4_turn) := goodIn_app (goodIn_of _ (by decide +kernel)) ggL_law_X4_turn
set_option maxRecDepth 20000 in
theorem ggL_law_X5_turn : GoodIn wsL_law wsX5_turn := goodIn_r _ [423, 314, 373, 374, 375, 5, 376, 313, 49, 114, 115, 116, 117, 101, 616, 617, 618, 619, 620, 621, 622, 623, 624, 625, 626, 627, 628, 629, 630, 631, 632, 633, 634] (by decide +kernel) (by decide +kernel)
set_option maxRecDepth 20000 in
theorem gL_law_X5_turn : GoodIn wsL_law (wsV RL 118 RX5 yX5_turn wsX5_turn) := goodIn_app (goodIn_of _ (by decide +kernel)) ggL_law_X5_turn
set_option maxRecDepth 20000 in
theorem ggL_law_X4_winner : GoodIn wsL_law wsX4_winner := goodIn_r _ [427, 20, 428, 429, 430, 19, 431, 38, 613, 614, 615, 638, 639, 640, 641, 642, 643] (by decide +kernel) (by decide +kernel)
set_option maxRecDepth 20000 in
theorem gL_law_X4_winner : GoodIn wsL_law (wsV RL 119 RX4 yX4_winner wsX4_winner) := goodIn_app (goodIn_of _ (by decide +kernel)) ggL_law_X4_winner
set_option maxRecDepth 20000 in
theorem ggL_law_X5_winner : GoodIn wsL_law wsX5_winner := goodIn_r _ [435, 49, 114, 115, 116, 5, 117, 101, 616, 617, 618, 619, 620, 621, 622, 623, 624, 625, 626, 627, 628, 629, 630, 631, 632, 633, 634] (by decide +kernel) (by decide +kernel)
set_option maxRecDepth 20000 in
theorem gL_law_X5_winner : GoodIn wsL_law (wsV RL 122 RX5 yX5_winner wsX5_winner) := goodIn_app (goodIn_of _ (by decide +kernel)) ggL_law_X5_winner
set_option maxRecDepth 20000 in
theorem ggL_law_X4_players : GoodIn wsL_law wsX4_players := goodIn_r _ [439, 20, 440, 441, 442, 19, 443, 35, 613, 614, 615, 638, 639, 640, 641, 642, 643] (by decide +kernel) (by decide +kernel)
set_option maxRecDepth 20000 in
theorem gL_law_X4_players : GoodIn wsL_law (wsV RL 123 RX4 yX4_players wsX4_players) := goodIn_app (goodIn_of _ (by decide +kernel)) ggL_law_X4_players
set_option maxRecDepth 20000 in
theorem ggL_law_X5_players : GoodIn wsL_law wsX5_players := goodIn_r _ [447, 313, 114, 115, 116, 5, 117, 101, 616, 617, 618, 619, 620, 621, 622, 623, 624, 625, 626, 627, 628, 629, 630, 631, 632, 633, 634] (by decide +kernel) (by decide +kernel)
set_option maxRecDepth 20000 in
theorem gL_law_X5_players : GoodIn wsL_law (wsV RL 126 RX5 yX5_players wsX5_players) := goodIn_app (goodIn_of _ (by decide +kernel)) ggL_law_X5_players
set_option maxRecDepth 20000 in
theorem ggL_law_L_strikes : GoodIn wsL_law wsL_strikes := goodIn_ca (goodIn_r _ [450, 129, 451, 452, 453, 2, 454, 134, 135, 20, 455, 361, 362, 19, 363, 34, 348, 349, 350, 351, 35, 613, 614, 615, 638, 639, 640, 641, 642, 643] (by decide +kernel) (by decide +kernel)) (goodIn_sub (fun _ h => List.mem_append_right _ h) (by decide +kernel))
set_option maxRecDepth 20000 in
theorem gL_law_L_strikes : GoodIn wsL_law (va_wsS RL 127 yL_strikes wsL_strikes) := goodIn_app (goodIn_of _ (by decide +kernel)) ggL_law_L_strikes
set_option maxRecDepth 20000 in
theorem ggL_law_X5_strikes : GoodIn wsL_law wsX5_strikes := goodIn_r _ [459, 313, 48, 143, 144, 145, 5, 146, 101, 616, 617, 618, 619, 620, 621, 622, 623, 624, 625, 626, 627, 628, 629, 630, 631, 632, 633, 634] (by decide +kernel) (by decide +kernel)
set_option maxRecDepth 20000 in
theorem gL_law_X5_strikes : GoodIn wsL_law (wsV RL 129 RX5 yX5_strikes wsX5_strikes) := goodIn_app (goodIn_of _ (by decide +kernel)) ggL_law_X5_strikes
set_option maxRecDepth 20000 in
theorem ggL_law_X4_fragmentLength : GoodIn wsL_law wsX4_fragmentLength := goodIn_r _ [463, 20, 327, 328, 329, 19, 330, 39, 88, 79, 76, 80, 613, 614, 615, 638, 639, 640, 641, 642, 643] (by decide +kernel) (by decide +kernel)
set_option maxRecDepth 20000 in
theorem gL_law_X4_fragmentLength : GoodIn wsL_law (wsV RL 130 RX4 yX4_fragmentLength wsX4_fragmentLength) := goodIn_app (goodIn_of _ (by decide +kernel)) ggL_law_X4_fragmentLength
set_option maxRecDepth 20000 in
theorem ggL_law_X5_fragmentLength : GoodIn wsL_law wsX5_fragmentLength := goodIn_r _ [467, 315, 114, 115, 116, 5, 117, 101, 616, 617, 618, 619, 620, 621, 622, 623, 624, 625, 626, 627, 628, 629, 630, 631, 632, 633, 634] (by decide +kernel) (by decide +kernel)
set_option maxRecDepth 20000 in
theorem gL_law_X5_fragmentLength : GoodIn wsL_law (wsV RL 133 RX5 yX5_fragmentLength wsX5_fragmentLength) := goodIn_app (goodIn_of _ (by decide +kernel)) ggL_law_X5_fragmentLength
set_option maxRecDepth 20000 in
theorem ggL_law_L_fragmentAt : GoodIn wsL_law wsL_fragmentAt := goodIn_ca (goodIn_r _ [470, 129, 471, 472, 473, 2, 474, 134, 135, 20, 327, 328, 329, 19, 330, 39, 136, 137, 76, 138, 78, 79, 80, 613, 614, 615, 638, 639, 640, 641, 642, 643] (by decide +kernel) (by decide +kernel)) (goodIn_sub (fun _ h => List.mem_append_right _ h) (by decide +kernel))
set_option maxRecDepth 20000 in
theorem gL_law_L_fragmentAt : GoodIn wsL_law (va_wsS RL 134 yL_fragmentAt wsL_fragmentAt) := goodIn_app (goodIn_of _ (by decide +kernel)) ggL_law_L_fragmentAt
set_option maxRecDepth 20000 in
theorem ggL_law_X5_fragmentAt : GoodIn wsL_law wsX5_fragmentAt := goodIn_r _ [478, 315, 50, 143, 144, 145, 5, 146, 101, 616, 617, 618, 619, 620, 621, 622, 623, 624, 625, 626, 627, 628, 629, 630, 631, 632, 633, 634] (by decide +kernel) (by decide +kernel)
set_option maxRecDepth 20000 in
theorem gL_law_X5_fragmentAt : GoodIn wsL_law (wsV RL 136 RX5 yX5_fragmentAt wsX5_fragmentAt) := goodIn_app (goodIn_of _ (by decide +kernel)) ggL_law_X5_fragmentAt
set_option maxRecDepth 20000 in
theorem ggL_law_X4_openLetters : GoodIn wsL_law wsX4_openLetters := goodIn_r _ [482, 16, 20, 327, 328, 329, 19, 330, 39, 483, 484, 485, 486, 487, 167, 168, 15, 169, 27, 488, 272, 273, 274, 26, 489, 490, 491, 492, 341, 342, 343, 28, 241, 79, 76, 80, 493, 494, 495, 496, 224, 225, 78, 226, 227, 228, 84, 85, 86, 87, 497, 498, 137, 138, 613, 614, 615, 638, 639, 640, 641, 642, 643, 635, 636, 637] (by decide +kernel) (by decide +kernel)
set_option maxRecDepth 20000 in
theorem gL_law_X4_openLetters : GoodIn wsL_law (wsV RL 137 RX4 yX4_openLetters wsX4_openLetters) := goodIn_app (goodIn_of _ (by decide +kernel)) ggL_law_X4_openLetters
set_option maxRecDepth 20000 in
theorem ggL_law_X5_openLetters : GoodIn wsL_law wsX5_openLetters := goodIn_r _ [502, 56, 503, 504, 505, 5, 506, 101, 315, 174, 46, 50, 381, 382, 383, 384, 47, 507, 508, 509, 510, 55, 45, 52, 53, 54, 260, 261, 262, 263, 511, 512, 513, 514, 515, 516, 517, 518, 179, 180, 181, 182, 616, 617, 618, 619, 620, 621, 622, 623, 624, 625, 626, 627, 628, 629, 630, 631, 632, 633, 634] (by decide +kernel) (by decide +kernel)
set_option maxRecDepth 20000 in
theorem gL_law_X5_openLetters : GoodIn wsL_law (wsV RL 140 RX5 yX5_openLetters wsX5_openLetters) := goodIn_app (goodIn_of _ (by decide +kernel)) ggL_law_X5_openLetters
set_option maxRecDepth 20000 in
theorem ggL_law_X4_winningLetters : GoodIn wsL_law wsX4_winningLetters := goodIn_r _ [522, 16, 20, 327, 328, 329, 19, 330, 39, 523, 524, 485, 525, 526, 484, 486, 487, 167, 168, 15, 169, 27, 488, 272, 273, 274, 26, 489, 490, 491, 492, 341, 342, 343, 28, 241, 79, 76, 80, 493, 494, 495, 496, 224, 225, 78, 226, 227, 228, 84, 85, 86, 87, 497, 498, 137, 138, 527, 528, 529, 530, 531, 532, 533, 82, 83, 534, 337, 338, 339, 340, 158, 159, 160, 161, 162, 163, 164, 165, 535, 536, 537, 538, 247, 248, 249, 539, 75, 77, 613, 614, 615, 638, 639, 640, 641, 642, 643, 635, 636, 637] (by decide +kernel) (by decide +kernel)
set_option maxRecDepth 20000 in
theorem gL_law_X4_winningLetters : GoodIn wsL_law (wsV RL 141 RX4 yX4_winningLetters wsX4_winningLetters) := goodIn_app (goodIn_of _ (by decide +kernel)) ggL_law_X4_winningLetters
set_option maxRecDepth 20000 in
theorem ggL_law_X5_winningLetters : GoodIn wsL_law wsX5_winningLetters := goodIn_r _ [543, 55, 503, 504, 505, 5, 506, 101, 315, 174, 46, 50, 381, 382, 383, 384, 47, 507, 508, 509, 510, 56, 45, 52, 53, 54, 260, 261, 262, 263, 511, 512, 513, 514, 515, 516, 517, 518, 179, 180, 181, 182, 616, 617, 618, 619, 620, 621, 622, 623, 624, 625, 626, 627, 628, 629, 630, 631, 632, 633, 634] (by decide +kernel) (by decide +kernel)
set_option maxRecDepth 20000 in
theorem gL_law_X5_winningLetters : GoodIn wsL_law (wsV RL 144 RX5 yX5_winningLetters wsX5_winningLetters) := goodIn_app (goodIn_of _ (by decide +kernel)) ggL_law_X5_winningLetters
set_option maxRecDepth 20000 in
theorem ggL_law_X4_canWin : GoodIn wsL_law wsX4_canWin := goodIn_r _ [547, 16, 20, 327, 328, 329, 19, 330, 39, 548, 549, 485, 550, 535, 536, 537, 538, 247, 248, 249, 539, 75, 76, 77, 78, 79, 80, 526, 484, 486, 487, 167, 168, 15, 169, 27, 488, 272, 273, 274, 26, 489, 490, 491, 492, 341, 342, 343, 28, 241, 493, 494, 495, 496, 224, 225, 226, 227, 228, 84, 85, 86, 87, 497, 498, 137, 138, 527, 528, 529, 530, 531, 532, 533, 82, 83, 534, 337, 338, 339, 340, 158, 159, 160, 161, 162, 163, 164, 165, 613, 614, 615, 638, 639, 640, 641, 642, 643, 635, 636, 637] (by decide +kernel) (by decide +kernel)
set_option maxRecDepth 20000 in
theorem gL_law_X4_canWin : GoodIn wsL_law (wsV RL 145 RX4 yX4_canWin wsX4_canWin) := goodIn_app (goodIn_of _ (by decide +kernel)) ggL_law_X4_canWin
set_option maxRecDepth 20000 in
theorem ggL_law_X5_canWin : GoodIn wsL_law wsX5_canWin := goodIn_r _ [554, 52, 503, 504, 505, 5, 506, 101, 315, 174, 46, 50, 381, 382, 383, 384, 47, 507, 508, 509, 510, 56, 55, 45, 53, 54, 260, 261, 262, 263, 511, 512, 513, 514, 515, 516, 517, 518, 179, 180, 181, 182, 616, 617, 618, 619, 620, 621, 622, 623, 624, 625, 626, 627, 628, 629, 630, 631, 632, 633, 634] (by decide +kernel) (by decide +kernel)
set_option maxRecDepth 20000 in
theorem gL_law_X5_canWin : GoodIn wsL_law (wsV RL 148 RX5 yX5_canWin wsX5_canWin) := goodIn_app (goodIn_of _ (by decide +kernel)) ggL_law_X5_canWin
set_option maxRecDepth 20000 in
theorem ggL_law_X4_end : GoodIn wsL_law wsX4_end := goodIn_r _ [558, 16, 20, 327, 328, 329, 19, 330, 39, 559, 560, 485, 561, 562, 563, 248, 564, 535, 536, 537, 538, 247, 249, 539, 75, 76, 77, 78, 79, 80, 526, 484, 486, 487, 167, 168, 15, 169, 27, 488, 272, 273, 274, 26, 489, 490, 491, 492, 341, 342, 343, 28, 241, 493, 494, 495, 496, 224, 225, 226, 227, 228, 84, 85, 86, 87, 497, 498, 137, 138, 527, 528, 529, 530, 531, 532, 533, 82, 83, 534, 337, 338, 339, 340, 158, 159, 160, 161, 162, 163, 164, 165, 613, 614, 615, 638, 639, 640, 641, 642, 643, 635, 636, 637] (by decide +kernel) (by decide +kernel)
set_option maxRecDepth 20000 in
theorem gL_law_X4_end : GoodIn wsL_law (wsV RL 149 RX4 yX4_end wsX4_end) := goodIn_app (goodIn_of _ (by decide +kernel)) ggL_law_X4_end
set_option maxRecDepth 20000 in
theorem ggL_law_X5_end : GoodIn wsL_law wsX5_end := goodIn_r _ [568, 53, 503, 504, 505, 5, 506, 101, 315, 174, 46, 50, 381, 382, 383, 384, 47, 507, 508, 509, 510, 56, 55, 45, 52, 54, 260, 261, 262, 263, 511, 512, 513, 514, 515, 516, 517, 518, 179, 180, 181, 182, 616, 617, 618, 619, 620, 621, 622, 623, 624, 625, 626, 627, 628, 629, 630, 631, 632, 633, 634] (by decide +kernel) (by decide +kernel)
set_option maxRecDepth 20000 in
theorem gL_law_X5_end : GoodIn wsL_law (wsV RL 152 RX5 yX5_end wsX5_end) := goodIn_app (goodIn_of _ (by decide +kernel)) ggL_law_X5_end
set_option maxRecDepth 20000 in
theorem ggL_law_X4_bestLetter : GoodIn wsL_law wsX4_bestLetter := goodIn_r _ [572, 16, 20, 327, 328, 329, 19, 330, 39, 573, 574, 485, 575, 526, 484, 486, 487, 167, 168, 15, 169, 27, 488, 272, 273, 274, 26, 489, 490, 491, 492, 341, 342, 343, 28, 241, 79, 76, 80, 493, 494, 495, 496, 224, 225, 78, 226, 227, 228, 84, 85, 86, 87, 497, 498, 137, 138, 535, 536, 537, 538, 247, 248, 249, 539, 75, 77, 527, 528, 529, 530, 531, 532, 533, 82, 83, 534, 337, 338, 339, 340, 158, 159, 160, 161, 162, 163, 164, 165, 613, 614, 615, 638, 639, 640, 641, 642, 643, 635, 636, 637] (by decide +kernel) (by decide +kernel)
set_option maxRecDepth 20000 in
theorem gL_law_X4_bestLetter : GoodIn wsL_law (wsV RL 153 RX4 yX4_bestLetter wsX4_bestLetter) := goodIn_app (goodIn_of _ (by decide +kernel)) ggL_law_X4_bestLetter
set_option maxRecDepth 20000 in
theorem ggL_law_X5_bestLetter : GoodIn wsL_law wsX5_bestLetter := goodIn_r _ [579, 54, 503, 504, 505, 5, 506, 101, 315, 174, 46, 50, 381, 382, 383, 384, 47, 507, 508, 509, 510, 56, 55, 45, 52, 53, 260, 261, 262, 263, 511, 512, 513, 514, 515, 516, 517, 518, 179, 180, 181, 182, 616, 617, 618, 619, 620, 621, 622, 623, 624, 625, 626, 627, 628, 629, 630, 631, 632, 633, 634] (by decide +kernel) (by decide +kernel)
set_option maxRecDepth 20000 in
theorem gL_law_X5_bestLetter : GoodIn wsL_law (wsV RL 156 RX5 yX5_bestLetter wsX5_bestLetter) := goodIn_app (goodIn_of _ (by decide +kernel)) ggL_law_X5_bestLetter
set_option maxRecDepth 20000 in
theorem ggL_law_X4_waysToPlay : GoodIn wsL_law wsX4_waysToPlay := goodIn_r _ [583, 16, 20, 327, 328, 329, 19, 330, 39, 584, 585, 485, 586, 487, 167, 168, 15, 169, 27, 488, 272, 273, 274, 26, 587, 588, 589, 489, 490, 491, 492, 341, 342, 343, 28, 241, 79, 76, 80, 493, 494, 495, 496, 224, 225, 78, 226, 227, 228, 84, 85, 86, 87, 497, 590, 534, 337, 338, 339, 340, 158, 159, 160, 161, 162, 163, 164, 165, 613, 614, 615, 638, 639, 640, 641, 642, 643, 635, 636, 637] (by decide +kernel) (by decide +kernel)
set_option maxRecDepth 20000 in
theorem gL_law_X4_waysToPlay : GoodIn wsL_law (wsV RL 157 RX4 yX4_waysToPlay wsX4_waysToPlay) := goodIn_app (goodIn_of _ (by decide +kernel)) ggL_law_X4_waysToPlay
set_option maxRecDepth 20000 in
theorem ggL_law_X5_waysToPlay : GoodIn wsL_law wsX5_waysToPlay := goodIn_r _ [594, 174, 595, 596, 597, 5, 598, 46, 315, 50, 381, 382, 383, 384, 47, 179, 180, 181, 182, 45, 511, 512, 513, 514, 260, 261, 262, 263, 114, 115, 116, 117, 101, 616, 617, 618, 619, 620, 621, 622, 623, 624, 625, 626, 627, 628, 629, 630, 631, 632, 633, 634] (by decide +kernel) (by decide +kernel)
set_option maxRecDepth 20000 in
theorem gL_law_X5_waysToPlay : GoodIn wsL_law (wsV RL 160 RX5 yX5_waysToPlay wsX5_waysToPlay) := goodIn_app (goodIn_of _ (by decide +kernel)) ggL_law_X5_waysToPlay
set_option maxRecDepth 20000 in
theorem ggL_law_X4_waysToWin : GoodIn wsL_law wsX4_waysToWin := goodIn_r _ [602, 16, 20, 327, 328, 329, 19, 330, 39, 603, 604, 485, 605, 487, 167, 168, 15, 169, 27, 488, 272, 273, 274, 26, 587, 588, 589, 489, 490, 491, 492, 341, 342, 343, 28, 241, 79, 76, 80, 493, 494, 495, 496, 224, 225, 78, 226, 227, 228, 84, 85, 86, 87, 497, 590, 534, 337, 338, 339, 340, 158, 159, 160, 161, 162, 163, 164, 165, 606, 607, 608, 613, 614, 615, 638, 639, 640, 641, 642, 643, 635, 636, 637] (by decide +kernel) (by decide +kernel)
set_option maxRecDepth 20000 in
theorem gL_law_X4_waysToWin : GoodIn wsL_law (wsV RL 161 RX4 yX4_waysToWin wsX4_waysToWin) := goodIn_app (goodIn_of _ (by decide +kernel)) ggL_law_X4_waysToWin
set_option maxRecDepth 20000 in
theorem ggL_law_X5_waysToWin : GoodIn wsL_law wsX5_waysToWin := goodIn_r _ [612, 174, 46, 315, 595, 596, 597, 5, 598, 50, 381, 382, 383, 384, 47, 179, 180, 181, 182, 45, 511, 512, 513, 514, 260, 261, 262, 263, 114, 115, 116, 117, 101, 616, 617, 618, 619, 620, 621, 622, 623, 624, 625, 626, 627, 628, 629, 630, 631, 632, 633, 634] (by decide +kernel) (by decide +kernel)
set_option maxRecDepth 20000 in
theorem gL_law_X5_waysToWin : GoodIn wsL_law (wsV RL 164 RX5 yX5_waysToWin wsX5_waysToWin) := goodIn_app (goodIn_of _ (by decide +kernel)) ggL_law_X5_waysToWin
