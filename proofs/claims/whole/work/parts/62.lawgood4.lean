set_option maxRecDepth 20000 in
theorem ggL_law_L_set : GoodIn wsL_law wsL_set := goodIn_ca (goodIn_r _ [567, 81, 568, 569, 570, 2, 571, 87, 88, 21, 31, 572, 357, 29, 358, 359, 360, 361, 362, 363, 513, 514, 515, 20, 516, 268, 41, 40, 28, 517, 518, 519, 520, 50, 51, 52, 12, 13, 47, 53, 54, 55, 56, 57, 58, 59, 60, 61, 521, 374, 375, 376, 284, 303, 317, 312, 377, 318, 331, 378, 379, 380, 381, 352, 353, 354, 355, 356, 773, 774, 775, 776, 777, 778, 793, 794, 799, 800, 801, 802, 803, 804, 805, 806, 807, 808, 809, 810, 811, 812, 813, 814] (by decide +kernel) (by decide +kernel)) (goodIn_sub (fun _ h => List.mem_append_left _ (List.mem_append_left _ (List.mem_append_right _ h))) (by decide +kernel))
set_option maxRecDepth 20000 in
theorem gL_law_L_set : GoodIn wsL_law (va_wsS RL 131 yL_set wsL_set) := goodIn_app (goodIn_of _ (by decide +kernel)) ggL_law_L_set
set_option maxRecDepth 20000 in
theorem ggL_law_X8_set : GoodIn wsL_law wsX8_set := goodIn_r _ [576, 67, 229, 230, 5, 231, 232, 233, 182, 106, 107, 108, 109, 110, 111, 112, 113, 526, 527, 528, 529, 414, 70, 245, 246, 247, 234, 235, 236, 779, 780, 781, 782, 783, 784, 785, 786, 787, 788, 789, 790] (by decide +kernel) (by decide +kernel)
set_option maxRecDepth 20000 in
theorem gL_law_X8_set : GoodIn wsL_law (wsV RL 133 RX8 yX8_set wsX8_set) := goodIn_app (goodIn_of _ (by decide +kernel)) ggL_law_X8_set
set_option maxRecDepth 20000 in
theorem ggL_law_L_undo : GoodIn wsL_law wsL_undo := goodIn_ca (goodIn_r _ [579, 82, 580, 581, 582, 2, 583, 89, 90, 21, 31, 584, 585, 586, 20, 587, 268, 588, 589, 590, 591, 41, 521, 374, 375, 29, 376, 284, 303, 317, 312, 377, 318, 331, 53, 378, 379, 380, 381, 54, 55, 56, 57, 58, 59, 60, 61, 592, 593, 594, 595, 773, 774, 775, 776, 777, 778, 793, 794, 799, 800, 801, 802, 803, 804, 805, 806, 807, 808, 809, 810, 811, 812, 813, 814] (by decide +kernel) (by decide +kernel)) (goodIn_sub (fun _ h => List.mem_append_left _ (List.mem_append_right _ h)) (by decide +kernel))
set_option maxRecDepth 20000 in
theorem gL_law_L_undo : GoodIn wsL_law (va_wsS RL 134 yL_undo wsL_undo) := goodIn_app (goodIn_of _ (by decide +kernel)) ggL_law_L_undo
set_option maxRecDepth 20000 in
theorem ggL_law_X8_undo : GoodIn wsL_law wsX8_undo := goodIn_r _ [599, 414, 70, 67, 109, 110, 111, 5, 112, 113, 245, 246, 247, 779, 780, 781, 782, 783, 784, 785, 786, 787, 788, 789, 790] (by decide +kernel) (by decide +kernel)
set_option maxRecDepth 20000 in
theorem gL_law_X8_undo : GoodIn wsL_law (wsV RL 136 RX8 yX8_undo wsX8_undo) := goodIn_app (goodIn_of _ (by decide +kernel)) ggL_law_X8_undo
set_option maxRecDepth 20000 in
theorem ggL_law_L_why : GoodIn wsL_law wsL_why := goodIn_ca (goodIn_r _ [602, 438, 603, 604, 605, 2, 606, 31, 443, 444, 445, 446, 447, 448, 449, 305, 306, 29, 307, 284, 607, 300, 301, 302, 58, 59, 53, 303, 54, 304, 773, 774, 775, 776, 777, 778, 799, 800, 801, 802, 803, 804, 805, 806, 807, 808, 809, 810, 811, 812, 813, 814] (by decide +kernel) (by decide +kernel)) (goodIn_sub (fun _ h => List.mem_append_right _ h) (by decide +kernel))
set_option maxRecDepth 20000 in
theorem gL_law_L_why : GoodIn wsL_law (va_wsS RL 137 yL_why wsL_why) := goodIn_app (goodIn_of _ (by decide +kernel)) ggL_law_L_why
set_option maxRecDepth 20000 in
theorem ggL_law_X8_why : GoodIn wsL_law wsX8_why := goodIn_r _ [611, 67, 193, 194, 5, 195, 106, 107, 108, 109, 110, 111, 112, 113, 196, 197, 198, 199, 200, 201, 779, 780, 781, 782, 783, 784, 785, 786, 787, 788, 789, 790] (by decide +kernel) (by decide +kernel)
set_option maxRecDepth 20000 in
theorem gL_law_X8_why : GoodIn wsL_law (wsV RL 139 RX8 yX8_why wsX8_why) := goodIn_app (goodIn_of _ (by decide +kernel)) ggL_law_X8_why
set_option maxRecDepth 20000 in
theorem ggL_law_L_fewest : GoodIn wsL_law wsL_fewest := goodIn_ca (goodIn_r _ [614, 81, 615, 616, 617, 2, 618, 87, 88, 25, 31, 619, 620, 621, 24, 622, 46, 373, 374, 375, 29, 376, 284, 303, 317, 312, 377, 318, 331, 53, 378, 379, 380, 381, 54, 55, 56, 57, 58, 59, 60, 61, 390, 391, 392, 393, 407, 408, 409, 402, 403, 404, 405, 382, 383, 384, 385, 386, 387, 388, 389, 398, 399, 400, 401, 406, 296, 297, 298, 299, 300, 301, 302, 304, 305, 306, 307, 308, 309, 310, 311, 313, 314, 315, 316, 319, 320, 321, 322, 323, 324, 325, 326, 327, 328, 329, 330, 332, 333, 334, 335, 336, 337, 338, 339, 623, 369, 370, 371, 372, 49, 48, 394, 395, 396, 397, 773, 774, 775, 776, 777, 778, 795, 796, 797, 798, 799, 800, 801, 802, 803, 804, 805, 806, 807, 808, 809, 810, 811, 812, 813, 814] (by decide +kernel) (by decide +kernel)) (goodIn_sub (fun _ h => List.mem_append_left _ (List.mem_append_left _ (List.mem_append_right _ h))) (by decide +kernel))
set_option maxRecDepth 20000 in
theorem gL_law_L_fewest : GoodIn wsL_law (va_wsS RL 140 yL_fewest wsL_fewest) := goodIn_app (goodIn_of _ (by decide +kernel)) ggL_law_L_fewest
set_option maxRecDepth 20000 in
theorem ggL_law_X8_fewest : GoodIn wsL_law wsX8_fewest := goodIn_r _ [627, 67, 106, 107, 5, 108, 109, 110, 111, 112, 113, 237, 238, 239, 240, 241, 242, 243, 244, 69, 245, 246, 247, 193, 194, 195, 196, 197, 198, 199, 200, 201, 205, 206, 207, 208, 209, 210, 211, 212, 213, 186, 187, 188, 214, 215, 216, 217, 218, 219, 248, 249, 250, 251, 252, 253, 779, 780, 781, 782, 783, 784, 785, 786, 787, 788, 789, 790] (by decide +kernel) (by decide +kernel)
set_option maxRecDepth 20000 in
theorem gL_law_X8_fewest : GoodIn wsL_law (wsV RL 142 RX8 yX8_fewest wsX8_fewest) := goodIn_app (goodIn_of _ (by decide +kernel)) ggL_law_X8_fewest
set_option maxRecDepth 20000 in
theorem ggL_law_X7_best : GoodIn wsL_law wsX7_best := goodIn_r _ [631, 25, 31, 364, 365, 366, 24, 367, 46, 368, 369, 370, 371, 372, 49, 48, 373, 374, 375, 29, 376, 284, 303, 317, 312, 377, 318, 331, 53, 378, 379, 380, 381, 54, 55, 56, 57, 58, 59, 60, 61, 382, 383, 384, 385, 386, 387, 388, 389, 390, 391, 392, 393, 394, 395, 396, 397, 398, 399, 400, 401, 402, 403, 404, 405, 406, 296, 297, 298, 299, 300, 301, 302, 304, 305, 306, 307, 308, 309, 310, 311, 313, 314, 315, 316, 319, 320, 321, 322, 323, 324, 325, 326, 327, 328, 329, 330, 332, 333, 334, 335, 336, 337, 338, 339, 407, 408, 409, 773, 774, 775, 776, 777, 778, 795, 796, 797, 798, 799, 800, 801, 802, 803, 804, 805, 806, 807, 808, 809, 810, 811, 812, 813, 814] (by decide +kernel) (by decide +kernel)
set_option maxRecDepth 20000 in
theorem gL_law_X7_best : GoodIn wsL_law (wsV RL 143 RX7 yX7_best wsX7_best) := goodIn_app (goodIn_of _ (by decide +kernel)) ggL_law_X7_best
