set_option maxRecDepth 20000 in
theorem ggX7_setting_X1_isSetting : GoodIn wsX7_setting wsX1_isSetting := goodIn_r _ [7, 8] (by decide +kernel) (by decide +kernel)
set_option maxRecDepth 20000 in
theorem gX7_setting_X1_isSetting : GoodIn wsX7_setting (va_wsS RX7 141 yX1_isSetting wsX1_isSetting) := goodIn_app (goodIn_of _ (by decide +kernel)) ggX7_setting_X1_isSetting
set_option maxRecDepth 20000 in
theorem ggX7_setting_X1_settingOf : GoodIn wsX7_setting wsX1_settingOf := goodIn_r _ [12, 13, 14, 5, 6, 7, 8, 21, 22, 23, 24, 25, 26, 27, 28, 29, 30, 31, 32, 33, 34, 35, 36] (by decide +kernel) (by decide +kernel)
set_option maxRecDepth 20000 in
theorem gX7_setting_X1_settingOf : GoodIn wsX7_setting (wsV RX7 146 RX1 yX1_settingOf wsX1_settingOf) := goodIn_app (goodIn_of _ (by decide +kernel)) ggX7_setting_X1_settingOf
set_option maxRecDepth 20000 in
theorem ggX7_come_X1_isFloor : GoodIn wsX7_come wsX1_isFloor := goodIn_r _ [12] (by decide +kernel) (by decide +kernel)
set_option maxRecDepth 20000 in
theorem gX7_come_X1_isFloor : GoodIn wsX7_come (va_wsS RX7 128 yX1_isFloor wsX1_isFloor) := goodIn_app (goodIn_of _ (by decide +kernel)) ggX7_come_X1_isFloor
set_option maxRecDepth 20000 in
theorem ggX7_come_X1_isWeight : GoodIn wsX7_come wsX1_isWeight := goodIn_r _ [15] (by decide +kernel) (by decide +kernel)
set_option maxRecDepth 20000 in
theorem gX7_come_X1_isWeight : GoodIn wsX7_come (va_wsS RX7 149 yX1_isWeight wsX1_isWeight) := goodIn_app (goodIn_of _ (by decide +kernel)) ggX7_come_X1_isWeight
set_option maxRecDepth 20000 in
theorem ggX7_come_X1_isFull : GoodIn wsX7_come wsX1_isFull := goodIn_r _ [19, 20, 76, 77, 78, 79, 80, 81, 82, 83, 84, 85, 86, 87, 88, 89, 90, 91] (by decide +kernel) (by decide +kernel)
set_option maxRecDepth 20000 in
theorem gX7_come_X1_isFull : GoodIn wsX7_come (wsV RX7 154 RX1 yX1_isFull wsX1_isFull) := goodIn_app (goodIn_of _ (by decide +kernel)) ggX7_come_X1_isFull
set_option maxRecDepth 20000 in
theorem ggX7_come_X3_remember : GoodIn wsX7_come wsX3_remember := goodIn_r _ [25, 26, 27, 28, 29, 11, 30, 31, 32, 24, 33, 34, 35, 36, 37, 38, 39, 40, 41, 42, 43, 44, 45, 46, 47, 48, 49, 50, 51, 52, 20, 53, 54, 55, 56, 57, 58, 59, 60, 61, 62, 92, 93, 76, 77, 78, 79, 80, 81, 82, 83, 84, 85, 86, 87, 88, 89, 90, 91] (by decide +kernel) (by decide +kernel)
set_option maxRecDepth 20000 in
theorem gX7_come_X3_remember : GoodIn wsX7_come (wsV RX7 157 RX3 yX3_remember wsX3_remember) := goodIn_app (goodIn_of _ (by decide +kernel)) ggX7_come_X3_remember
set_option maxRecDepth 20000 in
theorem ggX7_come_X1_admit : GoodIn wsX7_come wsX1_admit := goodIn_r _ [66, 20, 41, 42, 43, 44, 45, 46, 47, 48, 67, 10, 11, 12, 68, 14, 15, 69, 17, 18, 19, 76, 77, 78, 79, 80, 81, 82, 83, 84, 85, 86, 87, 88, 89, 90, 91] (by decide +kernel) (by decide +kernel)
set_option maxRecDepth 20000 in
theorem gX7_come_X1_admit : GoodIn wsX7_come (wsV RX7 93 RX1 yX1_admit wsX1_admit) := goodIn_app (goodIn_of _ (by decide +kernel)) ggX7_come_X1_admit
set_option maxRecDepth 20000 in
theorem ggX7_leave_X7_requireGuest : GoodIn wsX7_leave wsX7_requireGuest := goodIn_ca (goodIn_r _ [7, 8, 9, 2, 10, 11, 12, 13, 14, 15, 67, 68, 69, 70, 71, 72, 73, 74, 75, 76, 77, 78, 79, 80, 81, 82, 83, 84, 85, 86, 87, 88] (by decide +kernel) (by decide +kernel)) (goodIn_sub (fun _ h => List.mem_cons_of_mem _ (List.mem_append_right _ h)) (by decide +kernel))
set_option maxRecDepth 20000 in
theorem gX7_leave_X7_requireGuest : GoodIn wsX7_leave (wsV RX7 119 RX7 yX7_requireGuest wsX7_requireGuest) := goodIn_app (goodIn_of _ (by decide +kernel)) ggX7_leave_X7_requireGuest
set_option maxRecDepth 20000 in
theorem ggX7_leave_X3_remember : GoodIn wsX7_leave wsX3_remember := goodIn_r _ [20, 21, 22, 23, 24, 13, 25, 26, 27, 19, 28, 29, 30, 31, 32, 33, 34, 35, 36, 37, 38, 39, 40, 41, 42, 43, 44, 45, 46, 47, 15, 48, 49, 50, 51, 52, 53, 54, 55, 56, 57, 89, 90, 73, 74, 75, 76, 77, 78, 79, 80, 81, 82, 83, 84, 85, 86, 87, 88] (by decide +kernel) (by decide +kernel)
set_option maxRecDepth 20000 in
theorem gX7_leave_X3_remember : GoodIn wsX7_leave (wsV RX7 157 RX3 yX3_remember wsX3_remember) := goodIn_app (goodIn_of _ (by decide +kernel)) ggX7_leave_X3_remember
set_option maxRecDepth 20000 in
theorem ggX7_leave_X1_dismiss : GoodIn wsX7_leave wsX1_dismiss := goodIn_r _ [61, 41, 15, 62, 11, 12, 13, 14, 63, 64, 65, 66, 36, 37, 38, 39, 40, 42, 43, 73, 74, 75, 76, 77, 78, 79, 80, 81, 82, 83, 84, 85, 86, 87, 88] (by decide +kernel) (by decide +kernel)
set_option maxRecDepth 20000 in
theorem gX7_leave_X1_dismiss : GoodIn wsX7_leave (wsV RX7 103 RX1 yX1_dismiss wsX1_dismiss) := goodIn_app (goodIn_of _ (by decide +kernel)) ggX7_leave_X1_dismiss
set_option maxRecDepth 20000 in
theorem ggX7_press_X7_requireGuest : GoodIn wsX7_press wsX7_requireGuest := goodIn_ca (goodIn_r _ [7, 8, 9, 2, 10, 11, 12, 13, 14, 15, 95, 96, 97, 98, 99, 100, 101, 102, 103, 104, 105, 106, 107, 108, 109, 110, 111, 112, 113, 114, 115, 116] (by decide +kernel) (by decide +kernel)) (goodIn_sub (fun _ h => List.mem_cons_of_mem _ (List.mem_append_right _ h)) (by decide +kernel))
set_option maxRecDepth 20000 in
theorem gX7_press_X7_requireGuest : GoodIn wsX7_press (wsV RX7 119 RX7 yX7_requireGuest wsX7_requireGuest) := goodIn_app (goodIn_of _ (by decide +kernel)) ggX7_press_X7_requireGuest
set_option maxRecDepth 20000 in
theorem ggX7_press_X3_remember : GoodIn wsX7_press wsX3_remember := goodIn_r _ [20, 21, 22, 23, 24, 13, 25, 26, 27, 19, 28, 29, 30, 31, 32, 33, 34, 35, 36, 37, 38, 39, 40, 41, 42, 43, 44, 45, 46, 47, 15, 48, 49, 50, 51, 52, 53, 54, 55, 56, 57, 117, 118, 101, 102, 103, 104, 105, 106, 107, 108, 109, 110, 111, 112, 113, 114, 115, 116] (by decide +kernel) (by decide +kernel)
set_option maxRecDepth 20000 in
theorem gX7_press_X3_remember : GoodIn wsX7_press (wsV RX7 157 RX3 yX3_remember wsX3_remember) := goodIn_app (goodIn_of _ (by decide +kernel)) ggX7_press_X3_remember
set_option maxRecDepth 20000 in
theorem ggX7_press_X1_pressBy : GoodIn wsX7_press wsX1_pressBy := goodIn_r _ [61, 51, 62, 63, 64, 13, 65, 40, 41, 35, 48, 36, 66, 11, 12, 14, 15, 67, 68, 69, 70, 50, 42, 71, 72, 73, 74, 43, 49, 52, 75, 76, 77, 78, 38, 37, 79, 80, 81, 82, 83, 84, 85, 86, 53, 87, 88, 89, 90, 39, 91, 92, 93, 94, 101, 102, 103, 104, 105, 106, 107, 108, 109, 110, 111, 112, 113, 114, 115, 116] (by decide +kernel) (by decide +kernel)
set_option maxRecDepth 20000 in
theorem gX7_press_X1_pressBy : GoodIn wsX7_press (wsV RX7 161 RX1 yX1_pressBy wsX1_pressBy) := goodIn_app (goodIn_of _ (by decide +kernel)) ggX7_press_X1_pressBy
set_option maxRecDepth 20000 in
theorem ggX7_rest_X3_remember : GoodIn wsX7_rest wsX3_remember := goodIn_r _ [7, 8, 9, 10, 11, 12, 13, 14, 15, 6, 16, 17, 18, 19, 20, 21, 22, 23, 24, 25, 26, 27, 28, 29, 30, 31, 32, 33, 34, 35, 36, 37, 38, 39, 40, 41, 42, 43, 44, 45, 46, 61, 62, 63, 64, 65, 66, 67, 68, 69, 70, 71, 72, 73, 74, 75, 76, 77, 78] (by decide +kernel) (by decide +kernel)
set_option maxRecDepth 20000 in
theorem gX7_rest_X3_remember : GoodIn wsX7_rest (wsV RX7 157 RX3 yX3_remember wsX3_remember) := goodIn_app (goodIn_of _ (by decide +kernel)) ggX7_rest_X3_remember
set_option maxRecDepth 20000 in
theorem ggX7_rest_X1_letAllRest : GoodIn wsX7_rest wsX1_letAllRest := goodIn_r _ [50, 38, 36, 29, 63, 64, 65, 66, 67, 68, 69, 70, 71, 72, 73, 74, 75, 76, 77, 78] (by decide +kernel) (by decide +kernel)
set_option maxRecDepth 20000 in
theorem gX7_rest_X1_letAllRest : GoodIn wsX7_rest (wsV RX7 100 RX1 yX1_letAllRest wsX1_letAllRest) := goodIn_app (goodIn_of _ (by decide +kernel)) ggX7_rest_X1_letAllRest
set_option maxRecDepth 20000 in
theorem ggX7_rest_X1_allGrudges : GoodIn wsX7_rest wsX1_allGrudges := goodIn_r _ [54, 36, 29, 63, 64, 65, 66, 67, 68, 69, 70, 71, 72, 73, 74, 75, 76, 77, 78] (by decide +kernel) (by decide +kernel)
set_option maxRecDepth 20000 in
theorem gX7_rest_X1_allGrudges : GoodIn wsX7_rest (wsV RX7 164 RX1 yX1_allGrudges wsX1_allGrudges) := goodIn_app (goodIn_of _ (by decide +kernel)) ggX7_rest_X1_allGrudges
set_option maxRecDepth 20000 in
theorem ggX7_set_X1_isSettingValue : GoodIn wsX7_set wsX1_isSettingValue := goodIn_r _ [8, 9, 10, 11, 12, 7, 13] (by decide +kernel) (by decide +kernel)
set_option maxRecDepth 20000 in
theorem gX7_set_X1_isSettingValue : GoodIn wsX7_set (va_wsS RX7 167 yX1_isSettingValue wsX1_isSettingValue) := goodIn_app (goodIn_of _ (by decide +kernel)) ggX7_set_X1_isSettingValue
set_option maxRecDepth 20000 in
theorem ggX7_set_X3_remember : GoodIn wsX7_set wsX3_remember := goodIn_r _ [18, 19, 20, 21, 22, 7, 23, 24, 25, 17, 26, 27, 28, 29, 30, 31, 32, 33, 34, 35, 36, 37, 38, 39, 40, 41, 42, 43, 44, 45, 46, 47, 48, 49, 50, 51, 52, 53, 54, 55, 56, 68, 69, 70, 71, 72, 73, 74, 75, 76, 77, 78, 79, 80, 81, 82, 83, 84, 85] (by decide +kernel) (by decide +kernel)
set_option maxRecDepth 20000 in
theorem gX7_set_X3_remember : GoodIn wsX7_set (wsV RX7 157 RX3 yX3_remember wsX3_remember) := goodIn_app (goodIn_of _ (by decide +kernel)) ggX7_set_X3_remember
set_option maxRecDepth 20000 in
theorem ggX7_set_X1_change : GoodIn wsX7_set wsX1_change := goodIn_r _ [60, 33, 61, 6, 7, 8, 9, 10, 11, 12, 13, 70, 71, 72, 73, 74, 75, 76, 77, 78, 79, 80, 81, 82, 83, 84, 85] (by decide +kernel) (by decide +kernel)
set_option maxRecDepth 20000 in
theorem gX7_set_X1_change : GoodIn wsX7_set (wsV RX7 106 RX1 yX1_change wsX1_change) := goodIn_app (goodIn_of _ (by decide +kernel)) ggX7_set_X1_change
set_option maxRecDepth 20000 in
theorem ggX7_undo_X3_isEmpty : GoodIn wsX7_undo wsX3_isEmpty := goodIn_r _ [9, 10, 51, 52] (by decide +kernel) (by decide +kernel)
set_option maxRecDepth 20000 in
theorem gX7_undo_X3_isEmpty : GoodIn wsX7_undo (wsV RX7 173 RX3 yX3_isEmpty wsX3_isEmpty) := goodIn_app (goodIn_of _ (by decide +kernel)) ggX7_undo_X3_isEmpty
set_option maxRecDepth 20000 in
theorem ggX7_undo_X3_takeBack : GoodIn wsX7_undo wsX3_takeBack := goodIn_r _ [14, 10, 15, 16, 17, 18, 19, 20, 21, 22, 23, 24, 25, 26, 27, 28, 29, 30, 31, 32, 33, 34, 35, 36, 37, 38, 39, 40, 51, 52, 53, 54, 55, 56, 57, 58, 59, 60, 61, 62, 63, 64, 65, 66, 67, 68] (by decide +kernel) (by decide +kernel)
set_option maxRecDepth 20000 in
theorem gX7_undo_X3_takeBack : GoodIn wsX7_undo (wsV RX7 178 RX3 yX3_takeBack wsX3_takeBack) := goodIn_app (goodIn_of _ (by decide +kernel)) ggX7_undo_X3_takeBack
set_option maxRecDepth 20000 in
theorem ggX7_undo_X3_size : GoodIn wsX7_undo wsX3_size := goodIn_r _ [44, 10, 51, 52] (by decide +kernel) (by decide +kernel)
set_option maxRecDepth 20000 in
theorem gX7_undo_X3_size : GoodIn wsX7_undo (wsV RX7 181 RX3 yX3_size wsX3_size) := goodIn_app (goodIn_of _ (by decide +kernel)) ggX7_undo_X3_size
set_option maxRecDepth 20000 in
theorem ggX7_why_X7_requireGuest : GoodIn wsX7_why wsX7_requireGuest := goodIn_ca (goodIn_r _ [6, 7, 8, 1, 9, 10, 11, 12, 13, 14, 25, 26, 27, 28, 29, 30, 31, 32, 33, 34, 35, 36, 37, 38, 39, 40, 41, 42, 43, 44, 45, 46] (by decide +kernel) (by decide +kernel)) (goodIn_sub (fun _ h => List.mem_cons_of_mem _ (List.mem_append_right _ h)) (by decide +kernel))
set_option maxRecDepth 20000 in
theorem gX7_why_X7_requireGuest : GoodIn wsX7_why (wsV RX7 119 RX7 yX7_requireGuest wsX7_requireGuest) := goodIn_app (goodIn_of _ (by decide +kernel)) ggX7_why_X7_requireGuest
set_option maxRecDepth 20000 in
theorem ggX7_why_X1_reasonOf : GoodIn wsX7_why wsX1_reasonOf := goodIn_r _ [18, 19, 20, 21, 22, 23, 24, 10, 11, 12, 13, 14, 31, 32, 33, 34, 35, 36, 37, 38, 39, 40, 41, 42, 43, 44, 45, 46] (by decide +kernel) (by decide +kernel)
set_option maxRecDepth 20000 in
theorem gX7_why_X1_reasonOf : GoodIn wsX7_why (wsV RX7 182 RX1 yX1_reasonOf wsX1_reasonOf) := goodIn_app (goodIn_of _ (by decide +kernel)) ggX7_why_X1_reasonOf
set_option maxRecDepth 20000 in
theorem ggX7_fewest_X5_fewestByRows : GoodIn wsX7_fewest wsX5_fewestByRows := goodIn_r _ [9, 10, 11, 12, 13, 14, 15, 16, 17, 18, 19, 20, 21, 22, 23, 24, 25, 26, 27, 28, 29, 30, 31, 32, 33, 34, 35, 36, 37, 38, 39, 40, 41, 8, 42, 43, 44, 45, 46, 47, 48, 49, 50, 51, 52, 53, 54, 55, 56, 57, 58, 59, 60, 61, 62, 63, 64, 65, 66, 67, 68, 69, 70, 71, 72, 73, 74, 75, 76, 77, 78, 79, 80, 81, 82, 83, 84, 85, 86, 87, 88, 89, 90, 91, 92, 93, 94, 95, 96, 97, 98, 116, 117, 118, 119, 120, 121, 122, 123, 124, 125, 126, 127, 128, 129, 130, 131, 132, 133, 134, 135] (by decide +kernel) (by decide +kernel)
set_option maxRecDepth 20000 in
theorem gX7_fewest_X5_fewestByRows : GoodIn wsX7_fewest (wsV RX7 187 RX5 yX5_fewestByRows wsX5_fewestByRows) := goodIn_app (goodIn_of _ (by decide +kernel)) ggX7_fewest_X5_fewestByRows
set_option maxRecDepth 20000 in
theorem ggX7_fewest_X5_fewestByPositions : GoodIn wsX7_fewest wsX5_fewestByPositions := goodIn_r _ [102, 10, 103, 104, 105, 11, 12, 13, 14, 15, 16, 17, 18, 19, 20, 21, 22, 23, 24, 25, 26, 27, 28, 29, 30, 31, 32, 33, 34, 35, 47, 48, 49, 50, 51, 52, 53, 54, 36, 37, 38, 39, 106, 107, 108, 8, 109, 55, 56, 57, 58, 43, 44, 45, 46, 59, 60, 61, 62, 63, 64, 65, 66, 67, 68, 69, 70, 71, 72, 73, 74, 75, 76, 77, 78, 79, 80, 81, 82, 83, 84, 85, 86, 87, 88, 89, 90, 91, 92, 93, 94, 95, 96, 97, 98, 116, 117, 118, 119, 120, 121, 122, 123, 124, 125, 126, 127, 128, 129, 130, 131, 132, 133, 134, 135] (by decide +kernel) (by decide +kernel)
set_option maxRecDepth 20000 in
theorem gX7_fewest_X5_fewestByPositions : GoodIn wsX7_fewest (wsV RX7 190 RX5 yX5_fewestByPositions wsX5_fewestByPositions) := goodIn_app (goodIn_of _ (by decide +kernel)) ggX7_fewest_X5_fewestByPositions
set_option maxRecDepth 20000 in
theorem ggX7_best_X5_bestPress : GoodIn wsX7_best wsX5_bestPress := goodIn_r _ [7, 8, 9, 10, 11, 6, 12, 13, 14, 15, 16, 17, 18, 19, 20, 21, 22, 23, 24, 25, 26, 27, 28, 29, 30, 31, 32, 33, 34, 35, 36, 37, 38, 39, 40, 41, 42, 43, 44, 45, 46, 47, 48, 49, 50, 51, 52, 53, 54, 55, 56, 57, 58, 59, 60, 61, 62, 63, 64, 65, 66, 67, 68, 69, 70, 71, 72, 73, 74, 75, 76, 77, 78, 79, 80, 81, 82, 83, 84, 85, 86, 87, 88, 89, 90, 91, 92, 93, 94, 95, 96, 97, 98, 99, 100, 101, 102, 103, 104, 105, 106, 107, 114, 115, 116, 117, 118, 119, 120, 121, 122, 123, 124, 125, 126, 127, 128, 129, 130, 131, 132, 133] (by decide +kernel) (by decide +kernel)
set_option maxRecDepth 20000 in
theorem gX7_best_X5_bestPress : GoodIn wsX7_best (wsV RX7 110 RX5 yX5_bestPress wsX5_bestPress) := goodIn_app (goodIn_of _ (by decide +kernel)) ggX7_best_X5_bestPress
set_option maxRecDepth 20000 in
theorem ggX7_ifPressed_X0_without : GoodIn wsX7_ifPressed wsX0_without := goodIn_r _ [9, 10] (by decide +kernel) (by decide +kernel)
set_option maxRecDepth 20000 in
theorem gX7_ifPressed_X0_without : GoodIn wsX7_ifPressed (va_wsS RX7 195 yX0_without wsX0_without) := goodIn_app (goodIn_of _ (by decide +kernel)) ggX7_ifPressed_X0_without
