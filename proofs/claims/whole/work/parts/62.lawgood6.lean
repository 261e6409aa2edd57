set_option maxRecDepth 20000 in
theorem ggL_law_L_save : GoodIn wsL_law wsL_save := goodIn_ca (goodIn_r _ [749, 438, 750, 751, 752, 2, 753, 27, 26, 28, 29, 31, 754, 755, 756, 757, 447, 448, 50, 51, 52, 12, 13, 47, 53, 54, 55, 56, 57, 58, 59, 60, 61, 649, 374, 375, 376, 284, 303, 317, 312, 377, 318, 331, 378, 379, 380, 381, 422, 423, 424, 425, 336, 337, 338, 339, 386, 387, 388, 389, 426, 427, 428, 429, 773, 774, 775, 776, 777, 778, 799, 800, 801, 802, 803, 804, 805, 806, 807, 808, 809, 810, 811, 812, 813, 814] (by decide +kernel) (by decide +kernel)) (goodIn_sub (fun _ h => List.mem_append_right _ h) (by decide +kernel))
set_option maxRecDepth 20000 in
theorem gL_law_L_save : GoodIn wsL_law (va_wsS RL 164 yL_save wsL_save) := goodIn_app (goodIn_of _ (by decide +kernel)) ggL_law_L_save
set_option maxRecDepth 20000 in
theorem ggL_law_X8_save : GoodIn wsL_law wsX8_save := goodIn_r _ [761, 67, 71, 73, 106, 107, 5, 108, 109, 110, 111, 112, 113, 245, 246, 247, 779, 780, 781, 782, 783, 784, 785, 786, 787, 788, 789, 790] (by decide +kernel) (by decide +kernel)
set_option maxRecDepth 20000 in
theorem gL_law_X8_save : GoodIn wsL_law (wsV RL 166 RX8 yX8_save wsX8_save) := goodIn_app (goodIn_of _ (by decide +kernel)) ggL_law_X8_save
set_option maxRecDepth 20000 in
theorem ggL_law_L_restore : GoodIn wsL_law wsL_restore := goodIn_ca (goodIn_ca (goodIn_r _ [764, 438, 82, 765, 766, 767, 2, 768, 89, 90, 27, 31, 21, 754, 755, 756, 757, 447, 448, 649, 374, 375, 29, 376, 284, 303, 317, 312, 377, 318, 331, 53, 378, 379, 380, 381, 54, 55, 56, 57, 58, 59, 60, 61, 264, 265, 266, 20, 267, 268, 422, 423, 424, 425, 336, 337, 338, 339, 386, 387, 388, 389, 426, 427, 428, 429, 773, 774, 775, 776, 777, 778, 799, 800, 801, 802, 803, 804, 805, 806, 807, 808, 809, 810, 811, 812, 813, 814, 793, 794] (by decide +kernel) (by decide +kernel)) (goodIn_sub (fun _ h => List.mem_append_left _ (List.mem_append_right _ h)) (by decide +kernel))) (goodIn_sub (fun _ h => List.mem_append_right _ h) (by decide +kernel))
set_option maxRecDepth 20000 in
theorem gL_law_L_restore : GoodIn wsL_law (va_wsS RL 167 yL_restore wsL_restore) := goodIn_app (goodIn_of _ (by decide +kernel)) ggL_law_L_restore
set_option maxRecDepth 20000 in
theorem ggL_law_X8_restore : GoodIn wsL_law wsX8_restore := goodIn_r _ [772, 73, 71, 67, 414, 106, 107, 5, 108, 109, 110, 111, 112, 113, 245, 246, 247, 779, 780, 781, 782, 783, 784, 785, 786, 787, 788, 789, 790] (by decide +kernel) (by decide +kernel)
set_option maxRecDepth 20000 in
theorem gL_law_X8_restore : GoodIn wsL_law (wsV RL 169 RX8 yX8_restore wsX8_restore) := goodIn_app (goodIn_of _ (by decide +kernel)) ggL_law_X8_restore
