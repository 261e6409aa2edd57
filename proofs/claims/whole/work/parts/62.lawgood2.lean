set_option maxRecDepth 20000 in
theorem ggL_law_L_load : GoodIn wsL_law wsL_load := goodIn_ca (goodIn_r _ [259, 82, 260, 261, 262, 2, 263, 89, 90, 17, 26, 28, 29, 31, 21, 27, 134, 135, 136, 16, 137, 95, 138, 139, 140, 141, 36, 142, 143, 144, 145, 146, 147, 148, 149, 150, 151, 152, 153, 154, 155, 156, 157, 158, 159, 50, 51, 52, 12, 13, 47, 53, 54, 55, 56, 57, 58, 59, 60, 61, 264, 265, 266, 20, 267, 268, 269, 270, 271, 272, 273, 274, 275, 276, 277, 25, 278, 279, 280, 281, 282, 283, 284, 285, 286, 287, 288, 289, 290, 291, 292, 293, 294, 295, 296, 297, 298, 299, 300, 301, 302, 303, 304, 305, 306, 307, 308, 309, 310, 311, 312, 313, 314, 315, 316, 317, 318, 319, 320, 321, 322, 323, 324, 325, 326, 327, 328, 329, 330, 331, 332, 333, 334, 335, 336, 337, 338, 339, 340, 341, 342, 343, 344, 345, 346, 347, 348, 349, 350, 351, 352, 353, 354, 355, 356, 357, 358, 359, 360, 361, 362, 363, 364, 365, 366, 24, 367, 46, 368, 369, 370, 371, 372, 49, 48, 373, 374, 375, 376, 377, 378, 379, 380, 381, 382, 383, 384, 385, 386, 387, 388, 389, 390, 391, 392, 393, 394, 395, 396, 397, 398, 399, 400, 401, 402, 403, 404, 405, 406, 407, 408, 409, 773, 774, 775, 776, 777, 778, 799, 800, 801, 802, 803, 804, 805, 806, 807, 808, 809, 810, 811, 812, 813, 814, 791, 792, 793, 794, 795, 796, 797, 798] (by decide +kernel) (by decide +kernel)) (goodIn_sub (fun _ h => List.mem_append_left _ (List.mem_append_right _ h)) (by decide +kernel))
set_option maxRecDepth 20000 in
theorem gL_law_L_load : GoodIn wsL_law (va_wsS RL 100 yL_load wsL_load) := goodIn_app (goodIn_of _ (by decide +kernel)) ggL_law_L_load
set_option maxRecDepth 20000 in
theorem ggL_law_X8_load : GoodIn wsL_law wsX8_load := goodIn_r _ [413, 68, 67, 414, 73, 168, 164, 165, 166, 5, 167, 169, 105, 66, 74, 75, 76, 170, 171, 172, 173, 174, 175, 176, 177, 178, 179, 180, 181, 182, 106, 107, 108, 183, 184, 185, 186, 187, 188, 189, 190, 191, 192, 193, 194, 195, 196, 197, 198, 199, 200, 201, 202, 203, 204, 205, 206, 207, 208, 209, 210, 211, 212, 213, 214, 215, 216, 217, 218, 219, 220, 221, 222, 223, 224, 225, 226, 227, 228, 229, 230, 231, 232, 233, 234, 235, 236, 237, 238, 239, 240, 241, 242, 243, 244, 69, 245, 246, 247, 248, 249, 250, 251, 252, 253, 254, 255, 256, 109, 110, 111, 112, 113, 779, 780, 781, 782, 783, 784, 785, 786, 787, 788, 789, 790] (by decide +kernel) (by decide +kernel)
set_option maxRecDepth 20000 in
theorem gL_law_X8_load : GoodIn wsL_law (wsV RL 103 RX8 yX8_load wsX8_load) := goodIn_app (goodIn_of _ (by decide +kernel)) ggL_law_X8_load
set_option maxRecDepth 20000 in
theorem ggL_law_L_about : GoodIn wsL_law wsL_about := goodIn_ca (goodIn_r _ [417, 81, 418, 419, 420, 2, 421, 87, 88, 31, 422, 423, 424, 29, 425, 284, 303, 317, 312, 377, 318, 331, 336, 337, 338, 339, 58, 57, 386, 387, 388, 389, 426, 427, 428, 429, 59, 773, 774, 775, 776, 777, 778, 799, 800, 801, 802, 803, 804, 805, 806, 807, 808, 809, 810, 811, 812, 813, 814] (by decide +kernel) (by decide +kernel)) (goodIn_sub (fun _ h => List.mem_append_left _ (List.mem_append_left _ (List.mem_append_right _ h))) (by decide +kernel))
set_option maxRecDepth 20000 in
theorem gL_law_L_about : GoodIn wsL_law (va_wsS RL 104 yL_about wsL_about) := goodIn_app (goodIn_of _ (by decide +kernel)) ggL_law_L_about
set_option maxRecDepth 20000 in
theorem ggL_law_X8_about : GoodIn wsL_law wsX8_about := goodIn_r _ [433, 434, 67, 106, 107, 5, 108, 109, 110, 111, 112, 113, 217, 218, 219, 199, 200, 201, 251, 252, 253, 223, 224, 225, 779, 780, 781, 782, 783, 784, 785, 786, 787, 788, 789, 790] (by decide +kernel) (by decide +kernel)
set_option maxRecDepth 20000 in
theorem gL_law_X8_about : GoodIn wsL_law (wsV RL 106 RX8 yX8_about wsX8_about) := goodIn_app (goodIn_of _ (by decide +kernel)) ggL_law_X8_about
set_option maxRecDepth 20000 in
theorem ggL_law_L_guestOf : GoodIn wsL_law wsL_guestOf := goodIn_ca (goodIn_ca (goodIn_r _ [437, 438, 81, 439, 440, 441, 2, 442, 87, 88, 31, 443, 444, 445, 446, 447, 448, 449, 305, 306, 29, 307, 284, 450, 451, 452, 453, 54, 56, 57, 58, 59, 60, 61, 304, 454, 455, 456, 457, 303, 55, 773, 774, 775, 776, 777, 778, 799, 800, 801, 802, 803, 804, 805, 806, 807, 808, 809, 810, 811, 812, 813, 814] (by decide +kernel) (by decide +kernel)) (goodIn_sub (fun _ h => List.mem_append_left _ (List.mem_append_left _ (List.mem_append_right _ h))) (by decide +kernel))) (goodIn_sub (fun _ h => List.mem_append_right _ h) (by decide +kernel))
set_option maxRecDepth 20000 in
theorem gL_law_L_guestOf : GoodIn wsL_law (va_wsS RL 107 yL_guestOf wsL_guestOf) := goodIn_app (goodIn_of _ (by decide +kernel)) ggL_law_L_guestOf
set_option maxRecDepth 20000 in
theorem ggL_law_X8_guestOf : GoodIn wsL_law wsX8_guestOf := goodIn_r _ [461, 67, 462, 193, 194, 5, 195, 106, 107, 108, 109, 110, 111, 112, 113, 199, 200, 201, 779, 780, 781, 782, 783, 784, 785, 786, 787, 788, 789, 790] (by decide +kernel) (by decide +kernel)
set_option maxRecDepth 20000 in
theorem gL_law_X8_guestOf : GoodIn wsL_law (wsV RL 110 RX8 yX8_guestOf wsX8_guestOf) := goodIn_app (goodIn_of _ (by decide +kernel)) ggL_law_X8_guestOf
set_option maxRecDepth 20000 in
theorem ggL_law_L_floorOf : GoodIn wsL_law wsL_floorOf := goodIn_ca (goodIn_ca (goodIn_r _ [465, 438, 81, 466, 467, 468, 2, 469, 447, 448, 87, 88, 31, 470, 286, 29, 287, 471, 472, 473, 474, 284, 475, 476, 477, 478, 58, 55, 56, 54, 773, 774, 775, 776, 777, 778, 799, 800, 801, 802, 803, 804, 805, 806, 807, 808, 809, 810, 811, 812, 813, 814] (by decide +kernel) (by decide +kernel)) (goodIn_sub (fun _ h => List.mem_append_right _ h) (by decide +kernel))) (goodIn_sub (fun _ h => List.mem_append_left _ (List.mem_append_left _ (List.mem_append_right _ h))) (by decide +kernel))
set_option maxRecDepth 20000 in
theorem gL_law_L_floorOf : GoodIn wsL_law (va_wsS RL 111 yL_floorOf wsL_floorOf) := goodIn_app (goodIn_of _ (by decide +kernel)) ggL_law_L_floorOf
set_option maxRecDepth 20000 in
theorem ggL_law_X8_floorOf : GoodIn wsL_law wsX8_floorOf := goodIn_r _ [482, 483, 67, 484, 485, 5, 486, 487, 106, 107, 108, 109, 110, 111, 112, 113, 199, 200, 201, 779, 780, 781, 782, 783, 784, 785, 786, 787, 788, 789, 790] (by decide +kernel) (by decide +kernel)
set_option maxRecDepth 20000 in
theorem gL_law_X8_floorOf : GoodIn wsL_law (wsV RL 113 RX8 yX8_floorOf wsX8_floorOf) := goodIn_app (goodIn_of _ (by decide +kernel)) ggL_law_X8_floorOf
set_option maxRecDepth 20000 in
theorem ggL_law_L_setting : GoodIn wsL_law wsL_setting := goodIn_ca (goodIn_r _ [490, 81, 491, 492, 493, 2, 494, 87, 88, 31, 495, 362, 29, 363, 359, 496, 497, 498, 499, 53, 361, 773, 774, 775, 776, 777, 778, 799, 800, 801, 802, 803, 804, 805, 806, 807, 808, 809, 810, 811, 812, 813, 814] (by decide +kernel) (by decide +kernel)) (goodIn_sub (fun _ h => List.mem_append_left _ (List.mem_append_left _ (List.mem_append_right _ h))) (by decide +kernel))
set_option maxRecDepth 20000 in
theorem gL_law_L_setting : GoodIn wsL_law (va_wsS RL 114 yL_setting wsL_setting) := goodIn_app (goodIn_of _ (by decide +kernel)) ggL_law_L_setting
