set_option maxRecDepth 20000 in
theorem ggT_X4_openLetters : GoodIn lw_tbl wsX4_openLetters := goodIn_r _ [207, 90, 91, 200, 201, 202, 28, 203, 75, 208, 209, 38, 210, 211, 128, 129, 27, 130, 54, 212, 213, 214, 215, 53, 216, 217, 218, 219, 220, 221, 222, 55, 152, 105, 34, 106, 223, 140, 141, 143, 142, 224, 225, 226, 227, 93, 95, 97, 76, 78, 80, 82, 84, 86, 56, 58, 60] (by rfl) (by decide +kernel)
set_option maxRecDepth 20000 in
theorem gT_X4_openLetters : GoodIn lw_tbl (wsV RL 137 RX4 yX4_openLetters wsX4_openLetters) := goodIn_app (goodIn_r _ [204, 205, 206, 26] (by rfl) (by decide +kernel)) ggT_X4_openLetters
set_option maxRecDepth 20000 in
theorem ggT_X5_openLetters : GoodIn lw_tbl wsX5_openLetters := goodIn_r _ [766, 582, 767, 769, 20, 29, 770, 583, 577, 569, 568, 576, 723, 725, 17, 726, 570, 771, 773, 21, 774, 581, 567, 578, 579, 580, 691, 693, 13, 694, 775, 777, 22, 778, 779, 781, 23, 782, 667, 669, 12, 670, 584, 586, 588, 590, 592, 594, 596, 598, 600, 602, 604, 606, 608, 610, 612, 614, 616, 618, 620] (by rfl) (by decide +kernel)
set_option maxRecDepth 20000 in
theorem gT_X5_openLetters : GoodIn lw_tbl (wsV RL 140 RX5 yX5_openLetters wsX5_openLetters) := goodIn_app (goodIn_r _ [763, 764, 765, 29] (by rfl) (by decide +kernel)) ggT_X5_openLetters
set_option maxRecDepth 20000 in
theorem ggT_X4_winningLetters : GoodIn lw_tbl wsX4_winningLetters := goodIn_r _ [231, 90, 91, 200, 201, 202, 28, 203, 75, 232, 233, 38, 234, 235, 209, 210, 211, 128, 129, 27, 130, 54, 212, 213, 214, 215, 53, 216, 217, 218, 219, 220, 221, 222, 55, 152, 105, 34, 106, 223, 140, 141, 143, 142, 224, 225, 226, 227, 236, 237, 238, 239, 240, 241, 242, 243, 244, 166, 167, 168, 245, 246, 247, 248, 249, 250, 116, 117, 118, 119, 121, 0, 122, 251, 252, 253, 257, 170, 37, 171, 254, 255, 256, 93, 95, 97, 76, 78, 80, 82, 84, 86, 56, 58, 60] (by rfl) (by decide +kernel)
set_option maxRecDepth 20000 in
theorem gT_X4_winningLetters : GoodIn lw_tbl (wsV RL 141 RX4 yX4_winningLetters wsX4_winningLetters) := goodIn_app (goodIn_r _ [228, 229, 230, 26] (by rfl) (by decide +kernel)) ggT_X4_winningLetters
set_option maxRecDepth 20000 in
theorem ggT_X5_winningLetters : GoodIn lw_tbl wsX5_winningLetters := goodIn_r _ [786, 581, 767, 769, 20, 29, 770, 583, 577, 569, 568, 576, 723, 725, 17, 726, 570, 771, 773, 21, 774, 582, 567, 578, 579, 580, 691, 693, 13, 694, 775, 777, 22, 778, 779, 781, 23, 782, 667, 669, 12, 670, 584, 586, 588, 590, 592, 594, 596, 598, 600, 602, 604, 606, 608, 610, 612, 614, 616, 618, 620] (by rfl) (by decide +kernel)
set_option maxRecDepth 20000 in
theorem gT_X5_winningLetters : GoodIn lw_tbl (wsV RL 144 RX5 yX5_winningLetters wsX5_winningLetters) := goodIn_app (goodIn_r _ [783, 784, 785, 29] (by rfl) (by decide +kernel)) ggT_X5_winningLetters
set_option maxRecDepth 20000 in
theorem ggT_X4_canWin : GoodIn lw_tbl wsX4_canWin := goodIn_r _ [261, 90, 91, 200, 201, 202, 28, 203, 75, 262, 263, 38, 264, 251, 252, 253, 257, 170, 37, 171, 254, 255, 34, 256, 142, 105, 106, 235, 209, 210, 211, 128, 129, 27, 130, 54, 212, 213, 214, 215, 53, 216, 217, 218, 219, 220, 221, 222, 55, 152, 223, 140, 141, 143, 224, 225, 226, 227, 236, 237, 238, 239, 240, 241, 242, 243, 244, 166, 167, 168, 245, 246, 247, 248, 249, 250, 116, 117, 118, 119, 121, 0, 122, 93, 95, 97, 76, 78, 80, 82, 84, 86, 56, 58, 60] (by rfl) (by decide +kernel)
set_option maxRecDepth 20000 in
theorem gT_X4_canWin : GoodIn lw_tbl (wsV RL 145 RX4 yX4_canWin wsX4_canWin) := goodIn_app (goodIn_r _ [258, 259, 260, 26] (by rfl) (by decide +kernel)) ggT_X4_canWin
set_option maxRecDepth 20000 in
theorem ggT_X5_canWin : GoodIn lw_tbl wsX5_canWin := goodIn_r _ [790, 578, 767, 769, 20, 29, 770, 583, 577, 569, 568, 576, 723, 725, 17, 726, 570, 771, 773, 21, 774, 582, 581, 567, 579, 580, 691, 693, 13, 694, 775, 777, 22, 778, 779, 781, 23, 782, 667, 669, 12, 670, 584, 586, 588, 590, 592, 594, 596, 598, 600, 602, 604, 606, 608, 610, 612, 614, 616, 618, 620] (by rfl) (by decide +kernel)
set_option maxRecDepth 20000 in
theorem gT_X5_canWin : GoodIn lw_tbl (wsV RL 148 RX5 yX5_canWin wsX5_canWin) := goodIn_app (goodIn_r _ [787, 788, 789, 29] (by rfl) (by decide +kernel)) ggT_X5_canWin
set_option maxRecDepth 20000 in
theorem ggT_X4_end : GoodIn lw_tbl wsX4_end := goodIn_r _ [268, 90, 91, 200, 201, 202, 28, 203, 75, 269, 270, 38, 271, 272, 273, 37, 274, 251, 252, 253, 257, 170, 171, 254, 255, 34, 256, 142, 105, 106, 235, 209, 210, 211, 128, 129, 27, 130, 54, 212, 213, 214, 215, 53, 216, 217, 218, 219, 220, 221, 222, 55, 152, 223, 140, 141, 143, 224, 225, 226, 227, 236, 237, 238, 239, 240, 241, 242, 243, 244, 166, 167, 168, 245, 246, 247, 248, 249, 250, 116, 117, 118, 119, 121, 0, 122, 93, 95, 97, 76, 78, 80, 82, 84, 86, 56, 58, 60] (by rfl) (by decide +kernel)
set_option maxRecDepth 20000 in
theorem gT_X4_end : GoodIn lw_tbl (wsV RL 149 RX4 yX4_end wsX4_end) := goodIn_app (goodIn_r _ [265, 266, 267, 26] (by rfl) (by decide +kernel)) ggT_X4_end
set_option maxRecDepth 20000 in
theorem ggT_X5_end : GoodIn lw_tbl wsX5_end := goodIn_r _ [794, 579, 767, 769, 20, 29, 770, 583, 577, 569, 568, 576, 723, 725, 17, 726, 570, 771, 773, 21, 774, 582, 581, 567, 578, 580, 691, 693, 13, 694, 775, 777, 22, 778, 779, 781, 23, 782, 667, 669, 12, 670, 584, 586, 588, 590, 592, 594, 596, 598, 600, 602, 604, 606, 608, 610, 612, 614, 616, 618, 620] (by rfl) (by decide +kernel)
set_option maxRecDepth 20000 in
theorem gT_X5_end : GoodIn lw_tbl (wsV RL 152 RX5 yX5_end wsX5_end) := goodIn_app (goodIn_r _ [791, 792, 793, 29] (by rfl) (by decide +kernel)) ggT_X5_end
set_option maxRecDepth 20000 in
theorem ggT_X4_bestLetter : GoodIn lw_tbl wsX4_bestLetter := goodIn_r _ [278, 90, 91, 200, 201, 202, 28, 203, 75, 279, 280, 38, 281, 235, 209, 210, 211, 128, 129, 27, 130, 54, 212, 213, 214, 215, 53, 216, 217, 218, 219, 220, 221, 222, 55, 152, 105, 34, 106, 223, 140, 141, 143, 142, 224, 225, 226, 227, 251, 252, 253, 257, 170, 37, 171, 254, 255, 256, 236, 237, 238, 239, 240, 241, 242, 243, 244, 166, 167, 168, 245, 246, 247, 248, 249, 250, 116, 117, 118, 119, 121, 0, 122, 93, 95, 97, 76, 78, 80, 82, 84, 86, 56, 58, 60] (by rfl) (by decide +kernel)
set_option maxRecDepth 20000 in
theorem gT_X4_bestLetter : GoodIn lw_tbl (wsV RL 153 RX4 yX4_bestLetter wsX4_bestLetter) := goodIn_app (goodIn_r _ [275, 276, 277, 26] (by rfl) (by decide +kernel)) ggT_X4_bestLetter
set_option maxRecDepth 20000 in
theorem ggT_X5_bestLetter : GoodIn lw_tbl wsX5_bestLetter := goodIn_r _ [798, 580, 767, 769, 20, 29, 770, 583, 577, 569, 568, 576, 723, 725, 17, 726, 570, 771, 773, 21, 774, 582, 581, 567, 578, 579, 691, 693, 13, 694, 775, 777, 22, 778, 779, 781, 23, 782, 667, 669, 12, 670, 584, 586, 588, 590, 592, 594, 596, 598, 600, 602, 604, 606, 608, 610, 612, 614, 616, 618, 620] (by rfl) (by decide +kernel)
set_option maxRecDepth 20000 in
theorem gT_X5_bestLetter : GoodIn lw_tbl (wsV RL 156 RX5 yX5_bestLetter wsX5_bestLetter) := goodIn_app (goodIn_r _ [795, 796, 797, 29] (by rfl) (by decide +kernel)) ggT_X5_bestLetter
set_option maxRecDepth 20000 in
theorem ggT_X4_waysToPlay : GoodIn lw_tbl wsX4_waysToPlay := goodIn_r _ [285, 90, 91, 200, 201, 202, 28, 203, 75, 286, 287, 38, 288, 211, 128, 129, 27, 130, 54, 212, 213, 214, 215, 53, 289, 290, 291, 216, 217, 218, 219, 220, 221, 222, 55, 152, 105, 34, 106, 223, 140, 141, 143, 142, 224, 292, 164, 165, 166, 167, 168, 245, 246, 247, 248, 249, 250, 116, 117, 118, 119, 121, 0, 122, 93, 95, 97, 76, 78, 80, 82, 84, 86, 56, 58, 60] (by rfl) (by decide +kernel)
set_option maxRecDepth 20000 in
theorem gT_X4_waysToPlay : GoodIn lw_tbl (wsV RL 157 RX4 yX4_waysToPlay wsX4_waysToPlay) := goodIn_app (goodIn_r _ [282, 283, 284, 26] (by rfl) (by decide +kernel)) ggT_X4_waysToPlay
set_option maxRecDepth 20000 in
theorem ggT_X5_waysToPlay : GoodIn lw_tbl wsX5_waysToPlay := goodIn_r _ [802, 569, 803, 805, 24, 29, 806, 568, 577, 576, 723, 725, 17, 726, 570, 667, 669, 12, 670, 567, 775, 777, 22, 778, 691, 693, 13, 694, 643, 645, 9, 646, 583, 584, 586, 588, 590, 592, 594, 596, 598, 600, 602, 604, 606, 608, 610, 612, 614, 616, 618, 620] (by rfl) (by decide +kernel)
set_option maxRecDepth 20000 in
theorem gT_X5_waysToPlay : GoodIn lw_tbl (wsV RL 160 RX5 yX5_waysToPlay wsX5_waysToPlay) := goodIn_app (goodIn_r _ [799, 800, 801, 29] (by rfl) (by decide +kernel)) ggT_X5_waysToPlay
set_option maxRecDepth 20000 in
theorem ggT_X4_waysToWin : GoodIn lw_tbl wsX4_waysToWin := goodIn_r _ [296, 90, 91, 200, 201, 202, 28, 203, 75, 297, 298, 38, 299, 211, 128, 129, 27, 130, 54, 212, 213, 214, 215, 53, 289, 290, 291, 216, 217, 218, 219, 220, 221, 222, 55, 152, 105, 34, 106, 223, 140, 141, 143, 142, 224, 292, 164, 165, 166, 167, 168, 245, 246, 247, 248, 249, 250, 116, 117, 118, 119, 121, 0, 122, 300, 301, 302, 93, 95, 97, 76, 78, 80, 82, 84, 86, 56, 58, 60] (by rfl) (by decide +kernel)
set_option maxRecDepth 20000 in
theorem gT_X4_waysToWin : GoodIn lw_tbl (wsV RL 161 RX4 yX4_waysToWin wsX4_waysToWin) := goodIn_app (goodIn_r _ [293, 294, 295, 26] (by rfl) (by decide +kernel)) ggT_X4_waysToWin
set_option maxRecDepth 20000 in
theorem ggT_X5_waysToWin : GoodIn lw_tbl wsX5_waysToWin := goodIn_r _ [810, 569, 568, 577, 803, 805, 24, 29, 806, 576, 723, 725, 17, 726, 570, 667, 669, 12, 670, 567, 775, 777, 22, 778, 691, 693, 13, 694, 643, 645, 9, 646, 583, 584, 586, 588, 590, 592, 594, 596, 598, 600, 602, 604, 606, 608, 610, 612, 614, 616, 618, 620] (by rfl) (by decide +kernel)
set_option maxRecDepth 20000 in
theorem gT_X5_waysToWin : GoodIn lw_tbl (wsV RL 164 RX5 yX5_waysToWin wsX5_waysToWin) := goodIn_app (goodIn_r _ [807, 808, 809, 29] (by rfl) (by decide +kernel)) ggT_X5_waysToWin
