set_option maxRecDepth 20000 in
theorem ggT_X4_init : GoodIn lw_tbl wsX4_init := goodIn_r _ [25, 26, 27, 28, 29, 30, 10, 72, 46, 47, 11, 73, 74, 31, 32, 33, 34, 45, 35, 36, 37, 48, 49, 50, 51, 71, 52, 53, 54, 55, 56, 57, 38, 40, 42, 75, 77, 79, 58, 60, 62, 64, 66, 68] (by rfl) (by decide +kernel)
set_option maxRecDepth 20000 in
theorem gT_X4_init : GoodIn lw_tbl (wsX4_init) := ggT_X4_init
set_option maxRecDepth 20000 in
theorem ggT_L_drawn : GoodIn lw_tbl wsL_drawn := goodIn_r _ [91, 92] (by rfl) (by decide +kernel)
set_option maxRecDepth 20000 in
theorem gT_L_drawn : GoodIn lw_tbl (va_wsS RL 108 yL_drawn wsL_drawn) := goodIn_app (goodIn_r _ [89, 90, 8] (by rfl) (by decide +kernel)) ggT_L_drawn
set_option maxRecDepth 20000 in
theorem ggT_L_starts : GoodIn lw_tbl wsL_starts := goodIn_ca (goodIn_r _ [362, 96, 363, 364, 365, 9, 366, 105, 15, 73, 368, 369, 370, 11, 371, 52, 53, 54, 55, 56, 57, 75, 77, 79, 58, 60, 62, 64, 66, 68] (by rfl) (by decide +kernel)) (goodIn_sub wsL_law_x0 (by decide +kernel))
set_option maxRecDepth 20000 in
theorem gT_L_starts : GoodIn lw_tbl (va_wsS RL 112 yL_starts wsL_starts) := goodIn_app (goodIn_r _ [360, 361, 8] (by rfl) (by decide +kernel)) ggT_L_starts
set_option maxRecDepth 20000 in
theorem ggT_L_with : GoodIn lw_tbl wsL_with := goodIn_ca (goodIn_ca (goodIn_r _ [95, 96, 97, 98, 99, 100, 9, 101, 105, 15, 177, 17, 74, 102, 103, 104, 173, 174, 16, 175, 176, 87, 88, 193, 194, 195, 196, 197, 198, 199, 86, 200, 201, 202, 203, 73, 72, 204, 205, 206, 11, 207, 54, 208, 209, 210, 211, 57, 213, 214, 215, 216, 55, 217, 218, 219, 220, 10, 221, 222, 223, 224, 225, 37, 226, 227, 228, 229, 230, 231, 233, 1, 234, 36, 35, 235, 237, 2, 238, 52, 56, 239, 241, 3, 242, 53, 243, 245, 4, 246, 247, 249, 5, 250, 251, 252, 253, 254, 255, 257, 6, 258, 75, 77, 79, 58, 60, 62, 64, 66, 68, 38, 40, 42] (by rfl) (by decide +kernel)) (goodIn_sub wsL_law_x0 (by decide +kernel))) (goodIn_sub wsL_law_x1 (by decide +kernel))
set_option maxRecDepth 20000 in
theorem gT_L_with : GoodIn lw_tbl (va_wsS RL 116 yL_with wsL_with) := goodIn_app (goodIn_r _ [93, 94, 8] (by rfl) (by decide +kernel)) ggT_L_with
set_option maxRecDepth 20000 in
theorem ggT_L_does : GoodIn lw_tbl wsL_does := goodIn_ca (goodIn_ca (goodIn_r _ [261, 96, 97, 262, 263, 264, 9, 265, 105, 15, 177, 17, 74, 72, 86, 87, 16, 88, 267, 268, 269, 10, 270, 36, 35, 227, 228, 229, 230, 231, 233, 1, 234, 272, 273, 274, 275, 276, 277, 278, 279, 280, 281, 282, 283, 285, 286, 287, 288, 73, 204, 205, 206, 11, 207, 54, 208, 209, 210, 211, 57, 290, 291, 292, 293, 55, 294, 295, 296, 297, 222, 223, 224, 225, 37, 226, 298, 299, 300, 196, 176, 235, 237, 2, 238, 52, 56, 239, 241, 3, 242, 53, 243, 245, 4, 246, 247, 249, 5, 250, 251, 252, 253, 254, 255, 257, 6, 258, 75, 77, 79, 38, 40, 42, 58, 60, 62, 64, 66, 68] (by rfl) (by decide +kernel)) (goodIn_sub wsL_law_x0 (by decide +kernel))) (goodIn_sub wsL_law_x1 (by decide +kernel))
set_option maxRecDepth 20000 in
theorem gT_L_does : GoodIn lw_tbl (va_wsS RL 120 yL_does wsL_does) := goodIn_app (goodIn_r _ [259, 260, 8] (by rfl) (by decide +kernel)) ggT_L_does
set_option maxRecDepth 20000 in
theorem ggT_X4_wipe : GoodIn lw_tbl wsX4_wipe := goodIn_r _ [85, 74, 86, 87, 16, 88, 75, 77, 79] (by rfl) (by decide +kernel)
set_option maxRecDepth 20000 in
theorem gT_X4_wipe : GoodIn lw_tbl (wsV RL 124 RX4 yX4_wipe wsX4_wipe) := goodIn_app (goodIn_r _ [82, 83, 84, 9] (by rfl) (by decide +kernel)) ggT_X4_wipe
set_option maxRecDepth 20000 in
theorem ggT_L_at : GoodIn lw_tbl wsL_at := goodIn_ca (goodIn_r _ [303, 304, 305, 306, 307, 9, 308, 313, 18, 72, 74, 309, 310, 311, 10, 312, 36, 35, 86, 87, 16, 88, 329, 330, 331, 332, 333, 334, 335, 176, 337, 338, 339, 340, 73, 208, 209, 210, 11, 211, 57, 342, 343, 344, 345, 346, 252, 253, 254, 52, 239, 241, 3, 242, 53, 75, 77, 79, 38, 40, 42, 58, 60, 62, 64, 66, 68] (by rfl) (by decide +kernel)) (goodIn_sub wsL_law_x2 (by decide +kernel))
set_option maxRecDepth 20000 in
theorem gT_L_at : GoodIn lw_tbl (va_wsS RL 101 yL_at wsL_at) := goodIn_app (goodIn_r _ [301, 302, 8] (by rfl) (by decide +kernel)) ggT_L_at
set_option maxRecDepth 20000 in
theorem ggT_L_least : GoodIn lw_tbl wsL_least := goodIn_ca (goodIn_r _ [350, 96, 351, 352, 353, 9, 354, 105, 15, 72, 356, 357, 358, 10, 359, 37, 75, 77, 79, 38, 40, 42] (by rfl) (by decide +kernel)) (goodIn_sub wsL_law_x0 (by decide +kernel))
set_option maxRecDepth 20000 in
theorem gT_L_least : GoodIn lw_tbl (va_wsS RL 127 yL_least wsL_least) := goodIn_app (goodIn_r _ [348, 349, 8] (by rfl) (by decide +kernel)) ggT_L_least
set_option maxRecDepth 20000 in
theorem ggT_L_areAlike : GoodIn lw_tbl wsL_areAlike := goodIn_ca (goodIn_r _ [374, 375, 376, 377, 9, 378, 72, 272, 273, 274, 10, 275, 36, 379, 380, 381, 382, 383, 384, 385, 386, 35, 226, 87, 16, 88, 387, 389, 7, 390, 400, 401, 19, 402, 391, 392, 393, 394, 395, 396, 176, 397, 398, 399, 196, 197, 198, 199, 403, 404, 405, 406, 74, 407, 228, 229, 230, 231, 233, 1, 234, 408, 409, 410, 411, 412, 413, 414, 415, 298, 299, 300, 416, 417, 418, 419, 73, 420, 421, 422, 11, 423, 54, 424, 425, 426, 427, 428, 429, 430, 431, 56, 432, 433, 434, 435, 86, 436, 437, 438, 439, 208, 209, 210, 211, 57, 440, 441, 442, 443, 444, 445, 446, 447, 53, 448, 449, 450, 451, 452, 453, 20, 454, 455, 456, 310, 311, 312, 457, 458, 459, 460, 223, 224, 225, 37, 461, 462, 463, 334, 335, 464, 465, 466, 467, 468, 469, 470, 471, 472, 473, 474, 475, 476, 477, 478, 194, 195, 479, 219, 220, 221, 222, 227, 480, 481, 482, 484, 483, 174, 175, 485, 486, 487, 488, 489, 490, 491, 492, 493, 494, 495, 496, 497, 498, 499, 500, 501, 502, 503, 504, 505, 506, 507, 508, 509, 510, 511, 512, 513, 514, 515, 516, 517, 518, 519, 520, 521, 522, 523, 524, 525, 526, 527, 528, 529, 301, 302, 8, 303, 304, 305, 306, 307, 308, 313, 18, 309, 329, 330, 331, 332, 333, 337, 338, 339, 340, 342, 343, 344, 345, 346, 252, 253, 254, 52, 239, 241, 3, 242, 75, 77, 79, 38, 40, 42, 58, 60, 62, 64, 66, 68] (by rfl) (by decide +kernel)) (goodIn_sub wsL_law_x2 (by decide +kernel))
set_option maxRecDepth 20000 in
theorem gT_L_areAlike : GoodIn lw_tbl (va_wsS RL 130 yL_areAlike wsL_areAlike) := goodIn_app (goodIn_r _ [372, 373, 8] (by rfl) (by decide +kernel)) ggT_L_areAlike
