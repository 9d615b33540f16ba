set_option maxRecDepth 20000 in
theorem ggT_X4_openLetters : GoodIn lw_tbl wsX4_openLetters := goodIn_r _ [207, 90, 91, 200, 201, 202, 28, 203, 75, 208, 209, 38, 210, 211, 128, 129, 27, 130, 54, 212, 213, 214, 215, 53, 216, 217, 218, 219, 220, 221, 222, 55, 158, 105, 34, 106, 223, 224, 225, 226, 140, 141, 142, 143, 144, 145, 146, 147, 148, 149, 227, 228, 229, 230, 93, 95, 97, 76, 78, 80, 82, 84, 86, 56, 58, 60] (by rfl) (by decide +kernel)
set_option maxRecDepth 20000 in
theorem gT_X4_openLetters : GoodIn lw_tbl (wsV RL 137 RX4 yX4_openLetters wsX4_openLetters) := goodIn_app (goodIn_r _ [204, 205, 206, 26] (by rfl) (by decide +kernel)) ggT_X4_openLetters
set_option maxRecDepth 20000 in
theorem ggT_X5_openLetters : GoodIn lw_tbl wsX5_openLetters := goodIn_r _ [769, 585, 770, 772, 20, 29, 773, 586, 580, 572, 571, 579, 726, 728, 17, 729, 573, 774, 776, 21, 777, 584, 570, 581, 582, 583, 694, 696, 13, 697, 778, 780, 22, 781, 782, 784, 23, 785, 670, 672, 12, 673, 587, 589, 591, 593, 595, 597, 599, 601, 603, 605, 607, 609, 611, 613, 615, 617, 619, 621, 623] (by rfl) (by decide +kernel)
set_option maxRecDepth 20000 in
theorem gT_X5_openLetters : GoodIn lw_tbl (wsV RL 140 RX5 yX5_openLetters wsX5_openLetters) := goodIn_app (goodIn_r _ [766, 767, 768, 29] (by rfl) (by decide +kernel)) ggT_X5_openLetters
set_option maxRecDepth 20000 in
theorem ggT_X4_winningLetters : GoodIn lw_tbl wsX4_winningLetters := goodIn_r _ [234, 90, 91, 200, 201, 202, 28, 203, 75, 235, 236, 38, 237, 238, 209, 210, 211, 128, 129, 27, 130, 54, 212, 213, 214, 215, 53, 216, 217, 218, 219, 220, 221, 222, 55, 158, 105, 34, 106, 223, 224, 225, 226, 140, 141, 142, 143, 144, 145, 146, 147, 148, 149, 227, 228, 229, 230, 239, 240, 241, 242, 243, 244, 245, 246, 247, 248, 249, 250, 251, 252, 253, 116, 117, 118, 119, 121, 0, 122, 254, 255, 256, 260, 170, 37, 171, 257, 258, 259, 93, 95, 97, 76, 78, 80, 82, 84, 86, 56, 58, 60] (by rfl) (by decide +kernel)
set_option maxRecDepth 20000 in
theorem gT_X4_winningLetters : GoodIn lw_tbl (wsV RL 141 RX4 yX4_winningLetters wsX4_winningLetters) := goodIn_app (goodIn_r _ [231, 232, 233, 26] (by rfl) (by decide +kernel)) ggT_X4_winningLetters
set_option maxRecDepth 20000 in
theorem ggT_X5_winningLetters : GoodIn lw_tbl wsX5_winningLetters := goodIn_r _ [789, 584, 770, 772, 20, 29, 773, 586, 580, 572, 571, 579, 726, 728, 17, 729, 573, 774, 776, 21, 777, 585, 570, 581, 582, 583, 694, 696, 13, 697, 778, 780, 22, 781, 782, 784, 23, 785, 670, 672, 12, 673, 587, 589, 591, 593, 595, 597, 599, 601, 603, 605, 607, 609, 611, 613, 615, 617, 619, 621, 623] (by rfl) (by decide +kernel)
set_option maxRecDepth 20000 in
theorem gT_X5_winningLetters : GoodIn lw_tbl (wsV RL 144 RX5 yX5_winningLetters wsX5_winningLetters) := goodIn_app (goodIn_r _ [786, 787, 788, 29] (by rfl) (by decide +kernel)) ggT_X5_winningLetters
set_option maxRecDepth 20000 in
theorem ggT_X4_canWin : GoodIn lw_tbl wsX4_canWin := goodIn_r _ [264, 90, 91, 200, 201, 202, 28, 203, 75, 265, 266, 38, 267, 254, 255, 256, 260, 170, 37, 171, 257, 258, 34, 259, 142, 105, 106, 238, 209, 210, 211, 128, 129, 27, 130, 54, 212, 213, 214, 215, 53, 216, 217, 218, 219, 220, 221, 222, 55, 158, 223, 224, 225, 226, 140, 141, 143, 144, 145, 146, 147, 148, 149, 227, 228, 229, 230, 239, 240, 241, 242, 243, 244, 245, 246, 247, 248, 249, 250, 251, 252, 253, 116, 117, 118, 119, 121, 0, 122, 93, 95, 97, 76, 78, 80, 82, 84, 86, 56, 58, 60] (by rfl) (by decide +kernel)
set_option maxRecDepth 20000 in
theorem gT_X4_canWin : GoodIn lw_tbl (wsV RL 145 RX4 yX4_canWin wsX4_canWin) := goodIn_app (goodIn_r _ [261, 262, 263, 26] (by rfl) (by decide +kernel)) ggT_X4_canWin
set_option maxRecDepth 20000 in
theorem ggT_X5_canWin : GoodIn lw_tbl wsX5_canWin := goodIn_r _ [793, 581, 770, 772, 20, 29, 773, 586, 580, 572, 571, 579, 726, 728, 17, 729, 573, 774, 776, 21, 777, 585, 584, 570, 582, 583, 694, 696, 13, 697, 778, 780, 22, 781, 782, 784, 23, 785, 670, 672, 12, 673, 587, 589, 591, 593, 595, 597, 599, 601, 603, 605, 607, 609, 611, 613, 615, 617, 619, 621, 623] (by rfl) (by decide +kernel)
set_option maxRecDepth 20000 in
theorem gT_X5_canWin : GoodIn lw_tbl (wsV RL 148 RX5 yX5_canWin wsX5_canWin) := goodIn_app (goodIn_r _ [790, 791, 792, 29] (by rfl) (by decide +kernel)) ggT_X5_canWin
set_option maxRecDepth 20000 in
theorem ggT_X4_end : GoodIn lw_tbl wsX4_end := goodIn_r _ [271, 90, 91, 200, 201, 202, 28, 203, 75, 272, 273, 38, 274, 275, 276, 37, 277, 254, 255, 256, 260, 170, 171, 257, 258, 34, 259, 142, 105, 106, 238, 209, 210, 211, 128, 129, 27, 130, 54, 212, 213, 214, 215, 53, 216, 217, 218, 219, 220, 221, 222, 55, 158, 223, 224, 225, 226, 140, 141, 143, 144, 145, 146, 147, 148, 149, 227, 228, 229, 230, 239, 240, 241, 242, 243, 244, 245, 246, 247, 248, 249, 250, 251, 252, 253, 116, 117, 118, 119, 121, 0, 122, 93, 95, 97, 76, 78, 80, 82, 84, 86, 56, 58, 60] (by rfl) (by decide +kernel)
set_option maxRecDepth 20000 in
theorem gT_X4_end : GoodIn lw_tbl (wsV RL 149 RX4 yX4_end wsX4_end) := goodIn_app (goodIn_r _ [268, 269, 270, 26] (by rfl) (by decide +kernel)) ggT_X4_end
set_option maxRecDepth 20000 in
theorem ggT_X5_end : GoodIn lw_tbl wsX5_end := goodIn_r _ [797, 582, 770, 772, 20, 29, 773, 586, 580, 572, 571, 579, 726, 728, 17, 729, 573, 774, 776, 21, 777, 585, 584, 570, 581, 583, 694, 696, 13, 697, 778, 780, 22, 781, 782, 784, 23, 785, 670, 672, 12, 673, 587, 589, 591, 593, 595, 597, 599, 601, 603, 605, 607, 609, 611, 613, 615, 617, 619, 621, 623] (by rfl) (by decide +kernel)
set_option maxRecDepth 20000 in
theorem gT_X5_end : GoodIn lw_tbl (wsV RL 152 RX5 yX5_end wsX5_end) := goodIn_app (goodIn_r _ [794, 795, 796, 29] (by rfl) (by decide +kernel)) ggT_X5_end
set_option maxRecDepth 20000 in
theorem ggT_X4_bestLetter : GoodIn lw_tbl wsX4_bestLetter := goodIn_r _ [281, 90, 91, 200, 201, 202, 28, 203, 75, 282, 283, 38, 284, 238, 209, 210, 211, 128, 129, 27, 130, 54, 212, 213, 214, 215, 53, 216, 217, 218, 219, 220, 221, 222, 55, 158, 105, 34, 106, 223, 224, 225, 226, 140, 141, 142, 143, 144, 145, 146, 147, 148, 149, 227, 228, 229, 230, 254, 255, 256, 260, 170, 37, 171, 257, 258, 259, 239, 240, 241, 242, 243, 244, 245, 246, 247, 248, 249, 250, 251, 252, 253, 116, 117, 118, 119, 121, 0, 122, 93, 95, 97, 76, 78, 80, 82, 84, 86, 56, 58, 60] (by rfl) (by decide +kernel)
set_option maxRecDepth 20000 in
theorem gT_X4_bestLetter : GoodIn lw_tbl (wsV RL 153 RX4 yX4_bestLetter wsX4_bestLetter) := goodIn_app (goodIn_r _ [278, 279, 280, 26] (by rfl) (by decide +kernel)) ggT_X4_bestLetter
set_option maxRecDepth 20000 in
theorem ggT_X5_bestLetter : GoodIn lw_tbl wsX5_bestLetter := goodIn_r _ [801, 583, 770, 772, 20, 29, 773, 586, 580, 572, 571, 579, 726, 728, 17, 729, 573, 774, 776, 21, 777, 585, 584, 570, 581, 582, 694, 696, 13, 697, 778, 780, 22, 781, 782, 784, 23, 785, 670, 672, 12, 673, 587, 589, 591, 593, 595, 597, 599, 601, 603, 605, 607, 609, 611, 613, 615, 617, 619, 621, 623] (by rfl) (by decide +kernel)
set_option maxRecDepth 20000 in
theorem gT_X5_bestLetter : GoodIn lw_tbl (wsV RL 156 RX5 yX5_bestLetter wsX5_bestLetter) := goodIn_app (goodIn_r _ [798, 799, 800, 29] (by rfl) (by decide +kernel)) ggT_X5_bestLetter
set_option maxRecDepth 20000 in
theorem ggT_X4_waysToPlay : GoodIn lw_tbl wsX4_waysToPlay := goodIn_r _ [288, 90, 91, 200, 201, 202, 28, 203, 75, 289, 290, 38, 291, 211, 128, 129, 27, 130, 54, 212, 213, 214, 215, 53, 292, 293, 294, 216, 217, 218, 219, 220, 221, 222, 55, 158, 105, 34, 106, 223, 224, 225, 226, 140, 141, 142, 143, 144, 145, 146, 147, 148, 149, 227, 295, 248, 249, 250, 251, 252, 253, 116, 117, 118, 119, 121, 0, 122, 93, 95, 97, 76, 78, 80, 82, 84, 86, 56, 58, 60] (by rfl) (by decide +kernel)
set_option maxRecDepth 20000 in
theorem gT_X4_waysToPlay : GoodIn lw_tbl (wsV RL 157 RX4 yX4_waysToPlay wsX4_waysToPlay) := goodIn_app (goodIn_r _ [285, 286, 287, 26] (by rfl) (by decide +kernel)) ggT_X4_waysToPlay
set_option maxRecDepth 20000 in
theorem ggT_X5_waysToPlay : GoodIn lw_tbl wsX5_waysToPlay := goodIn_r _ [805, 572, 806, 808, 24, 29, 809, 571, 580, 579, 726, 728, 17, 729, 573, 670, 672, 12, 673, 570, 778, 780, 22, 781, 694, 696, 13, 697, 646, 648, 9, 649, 586, 587, 589, 591, 593, 595, 597, 599, 601, 603, 605, 607, 609, 611, 613, 615, 617, 619, 621, 623] (by rfl) (by decide +kernel)
set_option maxRecDepth 20000 in
theorem gT_X5_waysToPlay : GoodIn lw_tbl (wsV RL 160 RX5 yX5_waysToPlay wsX5_waysToPlay) := goodIn_app (goodIn_r _ [802, 803, 804, 29] (by rfl) (by decide +kernel)) ggT_X5_waysToPlay
set_option maxRecDepth 20000 in
theorem ggT_X4_waysToWin : GoodIn lw_tbl wsX4_waysToWin := goodIn_r _ [299, 90, 91, 200, 201, 202, 28, 203, 75, 300, 301, 38, 302, 211, 128, 129, 27, 130, 54, 212, 213, 214, 215, 53, 292, 293, 294, 216, 217, 218, 219, 220, 221, 222, 55, 158, 105, 34, 106, 223, 224, 225, 226, 140, 141, 142, 143, 144, 145, 146, 147, 148, 149, 227, 295, 248, 249, 250, 251, 252, 253, 116, 117, 118, 119, 121, 0, 122, 303, 304, 305, 93, 95, 97, 76, 78, 80, 82, 84, 86, 56, 58, 60] (by rfl) (by decide +kernel)
set_option maxRecDepth 20000 in
theorem gT_X4_waysToWin : GoodIn lw_tbl (wsV RL 161 RX4 yX4_waysToWin wsX4_waysToWin) := goodIn_app (goodIn_r _ [296, 297, 298, 26] (by rfl) (by decide +kernel)) ggT_X4_waysToWin
set_option maxRecDepth 20000 in
theorem ggT_X5_waysToWin : GoodIn lw_tbl wsX5_waysToWin := goodIn_r _ [813, 572, 571, 580, 806, 808, 24, 29, 809, 579, 726, 728, 17, 729, 573, 670, 672, 12, 673, 570, 778, 780, 22, 781, 694, 696, 13, 697, 646, 648, 9, 649, 586, 587, 589, 591, 593, 595, 597, 599, 601, 603, 605, 607, 609, 611, 613, 615, 617, 619, 621, 623] (by rfl) (by decide +kernel)
set_option maxRecDepth 20000 in
theorem gT_X5_waysToWin : GoodIn lw_tbl (wsV RL 164 RX5 yX5_waysToWin wsX5_waysToWin) := goodIn_app (goodIn_r _ [810, 811, 812, 29] (by rfl) (by decide +kernel)) ggT_X5_waysToWin
