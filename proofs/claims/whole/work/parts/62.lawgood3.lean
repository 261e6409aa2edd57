set_option maxRecDepth 20000 in
theorem ggL_law_X8_setting : GoodIn wsL_law wsX8_setting := goodIn_r _ [503, 483, 67, 106, 107, 5, 108, 109, 110, 111, 112, 113, 779, 780, 781, 782, 783, 784, 785, 786, 787, 788, 789, 790] (by decide +kernel) (by decide +kernel)
set_option maxRecDepth 20000 in
theorem gL_law_X8_setting : GoodIn wsL_law (wsV RL 116 RX8 yX8_setting wsX8_setting) := goodIn_app (goodIn_of _ (by decide +kernel)) ggL_law_X8_setting
set_option maxRecDepth 20000 in
theorem ggL_law_L_come : GoodIn wsL_law wsL_come := goodIn_ca (goodIn_ca (goodIn_ca (goodIn_r _ [506, 438, 81, 82, 507, 508, 509, 2, 510, 447, 448, 87, 88, 89, 90, 31, 21, 470, 286, 29, 287, 511, 289, 290, 512, 292, 293, 294, 284, 513, 514, 515, 20, 516, 268, 41, 40, 28, 517, 518, 519, 520, 50, 51, 52, 12, 13, 47, 53, 54, 55, 56, 57, 58, 59, 60, 61, 521, 374, 375, 376, 303, 317, 312, 377, 318, 331, 378, 379, 380, 381, 280, 281, 282, 283, 285, 288, 291, 773, 774, 775, 776, 777, 778, 799, 800, 801, 802, 803, 804, 805, 806, 807, 808, 809, 810, 811, 812, 813, 814, 793, 794] (by decide +kernel) (by decide +kernel)) (goodIn_sub (fun _ h => List.mem_append_right _ h) (by decide +kernel))) (goodIn_sub (fun _ h => List.mem_append_left _ (List.mem_append_left _ (List.mem_append_right _ h))) (by decide +kernel))) (goodIn_sub (fun _ h => List.mem_append_left _ (List.mem_append_right _ h)) (by decide +kernel))
set_option maxRecDepth 20000 in
theorem gL_law_L_come : GoodIn wsL_law (va_wsS RL 117 yL_come wsL_come) := goodIn_app (goodIn_of _ (by decide +kernel)) ggL_law_L_come
set_option maxRecDepth 20000 in
theorem ggL_law_X8_come : GoodIn wsL_law wsX8_come := goodIn_r _ [525, 232, 67, 484, 485, 5, 486, 487, 106, 107, 108, 109, 110, 111, 112, 113, 526, 527, 528, 529, 414, 70, 245, 246, 247, 183, 184, 185, 186, 187, 188, 779, 780, 781, 782, 783, 784, 785, 786, 787, 788, 789, 790] (by decide +kernel) (by decide +kernel)
set_option maxRecDepth 20000 in
theorem gL_law_X8_come : GoodIn wsL_law (wsV RL 120 RX8 yX8_come wsX8_come) := goodIn_app (goodIn_of _ (by decide +kernel)) ggL_law_X8_come
set_option maxRecDepth 20000 in
theorem ggL_law_L_leave : GoodIn wsL_law wsL_leave := goodIn_ca (goodIn_r _ [532, 438, 533, 534, 535, 2, 536, 21, 31, 443, 444, 445, 446, 447, 448, 449, 305, 306, 29, 307, 284, 513, 514, 515, 20, 516, 268, 41, 40, 28, 517, 518, 519, 520, 50, 51, 52, 12, 13, 47, 53, 54, 55, 56, 57, 58, 59, 60, 61, 521, 374, 375, 376, 303, 317, 312, 377, 318, 331, 378, 379, 380, 381, 344, 345, 346, 347, 304, 348, 349, 350, 351, 773, 774, 775, 776, 777, 778, 799, 800, 801, 802, 803, 804, 805, 806, 807, 808, 809, 810, 811, 812, 813, 814, 793, 794] (by decide +kernel) (by decide +kernel)) (goodIn_sub (fun _ h => List.mem_append_right _ h) (by decide +kernel))
set_option maxRecDepth 20000 in
theorem gL_law_L_leave : GoodIn wsL_law (va_wsS RL 121 yL_leave wsL_leave) := goodIn_app (goodIn_of _ (by decide +kernel)) ggL_law_L_leave
set_option maxRecDepth 20000 in
theorem ggL_law_X8_leave : GoodIn wsL_law wsX8_leave := goodIn_r _ [540, 67, 193, 194, 5, 195, 106, 107, 108, 109, 110, 111, 112, 113, 526, 527, 528, 529, 414, 70, 245, 246, 247, 226, 227, 228, 199, 200, 201, 779, 780, 781, 782, 783, 784, 785, 786, 787, 788, 789, 790] (by decide +kernel) (by decide +kernel)
set_option maxRecDepth 20000 in
theorem gL_law_X8_leave : GoodIn wsL_law (wsV RL 123 RX8 yX8_leave wsX8_leave) := goodIn_app (goodIn_of _ (by decide +kernel)) ggL_law_X8_leave
set_option maxRecDepth 20000 in
theorem ggL_law_L_press : GoodIn wsL_law wsL_press := goodIn_ca (goodIn_r _ [543, 438, 544, 545, 546, 2, 547, 21, 31, 443, 444, 445, 446, 447, 448, 449, 305, 306, 29, 307, 284, 513, 514, 515, 20, 516, 268, 41, 40, 28, 517, 518, 519, 520, 50, 51, 52, 12, 13, 47, 53, 54, 55, 56, 57, 58, 59, 60, 61, 521, 374, 375, 376, 303, 317, 312, 377, 318, 331, 378, 379, 380, 381, 548, 549, 550, 551, 299, 300, 301, 302, 304, 308, 309, 310, 311, 313, 314, 315, 316, 319, 320, 321, 322, 323, 324, 325, 326, 327, 328, 329, 330, 332, 333, 334, 335, 336, 337, 338, 339, 773, 774, 775, 776, 777, 778, 799, 800, 801, 802, 803, 804, 805, 806, 807, 808, 809, 810, 811, 812, 813, 814, 793, 794] (by decide +kernel) (by decide +kernel)) (goodIn_sub (fun _ h => List.mem_append_right _ h) (by decide +kernel))
set_option maxRecDepth 20000 in
theorem gL_law_L_press : GoodIn wsL_law (va_wsS RL 124 yL_press wsL_press) := goodIn_app (goodIn_of _ (by decide +kernel)) ggL_law_L_press
set_option maxRecDepth 20000 in
theorem ggL_law_X8_press : GoodIn wsL_law wsX8_press := goodIn_r _ [555, 67, 193, 194, 5, 195, 106, 107, 108, 109, 110, 111, 112, 113, 526, 527, 528, 529, 414, 70, 245, 246, 247, 202, 203, 204, 196, 197, 198, 199, 200, 201, 205, 206, 207, 208, 209, 210, 211, 212, 213, 186, 187, 188, 214, 215, 216, 217, 218, 219, 779, 780, 781, 782, 783, 784, 785, 786, 787, 788, 789, 790] (by decide +kernel) (by decide +kernel)
set_option maxRecDepth 20000 in
theorem gL_law_X8_press : GoodIn wsL_law (wsV RL 126 RX8 yX8_press wsX8_press) := goodIn_app (goodIn_of _ (by decide +kernel)) ggL_law_X8_press
set_option maxRecDepth 20000 in
theorem ggL_law_X7_rest : GoodIn wsL_law wsX7_rest := goodIn_r _ [559, 21, 31, 513, 514, 515, 20, 516, 268, 41, 40, 28, 29, 517, 518, 519, 520, 50, 51, 52, 12, 13, 47, 53, 54, 55, 56, 57, 58, 59, 60, 61, 521, 374, 375, 376, 284, 303, 317, 312, 377, 318, 331, 378, 379, 380, 381, 340, 341, 342, 343, 560, 427, 428, 429, 773, 774, 775, 776, 777, 778, 793, 794, 799, 800, 801, 802, 803, 804, 805, 806, 807, 808, 809, 810, 811, 812, 813, 814] (by decide +kernel) (by decide +kernel)
set_option maxRecDepth 20000 in
theorem gL_law_X7_rest : GoodIn wsL_law (wsV RL 127 RX7 yX7_rest wsX7_rest) := goodIn_app (goodIn_of _ (by decide +kernel)) ggL_law_X7_rest
set_option maxRecDepth 20000 in
theorem ggL_law_X8_rest : GoodIn wsL_law wsX8_rest := goodIn_r _ [564, 113, 67, 526, 527, 528, 5, 529, 414, 70, 245, 246, 247, 220, 221, 222, 199, 200, 201, 186, 187, 188, 223, 224, 225, 779, 780, 781, 782, 783, 784, 785, 786, 787, 788, 789, 790] (by decide +kernel) (by decide +kernel)
set_option maxRecDepth 20000 in
theorem gL_law_X8_rest : GoodIn wsL_law (wsV RL 130 RX8 yX8_rest wsX8_rest) := goodIn_app (goodIn_of _ (by decide +kernel)) ggL_law_X8_rest
