set_option maxRecDepth 20000 in
theorem ggX7_doCommand_X1_dismiss : GoodIn wsX7_doCommand wsX1_dismiss := goodIn_r _ [93, 27, 21, 50, 51, 52, 19, 53, 94, 95, 96, 97, 22, 23, 24, 25, 26, 28, 29, 168, 169, 170, 171, 172, 173, 174, 175, 176, 177, 178, 179, 180, 181, 182, 183] (by decide +kernel) (by decide +kernel)
set_option maxRecDepth 20000 in
theorem gX7_doCommand_X1_dismiss : GoodIn wsX7_doCommand (wsV RX7 103 RX1 yX1_dismiss wsX1_dismiss) := goodIn_app (goodIn_of _ (by decide +kernel)) ggX7_doCommand_X1_dismiss
set_option maxRecDepth 20000 in
theorem ggX7_doCommand_X1_change : GoodIn wsX7_doCommand wsX1_change := goodIn_r _ [101, 48, 102, 103, 19, 104, 105, 106, 107, 108, 109, 168, 169, 170, 171, 172, 173, 174, 175, 176, 177, 178, 179, 180, 181, 182, 183] (by decide +kernel) (by decide +kernel)
set_option maxRecDepth 20000 in
theorem gX7_doCommand_X1_change : GoodIn wsX7_doCommand (wsV RX7 106 RX1 yX1_change wsX1_change) := goodIn_app (goodIn_of _ (by decide +kernel)) ggX7_doCommand_X1_change
set_option maxRecDepth 20000 in
theorem ggX7_doCommand_X5_bestPress : GoodIn wsX7_doCommand wsX5_bestPress := goodIn_r _ [114, 115, 116, 117, 118, 113, 119, 120, 121, 122, 123, 124, 125, 19, 126, 21, 49, 63, 58, 127, 64, 77, 48, 128, 129, 130, 131, 22, 23, 24, 25, 26, 27, 28, 29, 132, 133, 134, 135, 136, 137, 138, 139, 140, 141, 142, 143, 144, 145, 146, 147, 148, 149, 150, 151, 152, 153, 154, 155, 156, 41, 42, 43, 44, 45, 46, 47, 50, 51, 52, 53, 54, 55, 56, 57, 59, 60, 61, 62, 65, 66, 67, 68, 69, 70, 71, 72, 73, 74, 75, 76, 78, 79, 80, 81, 82, 83, 84, 85, 157, 158, 159, 184, 185, 186, 187, 168, 169, 170, 171, 172, 173, 174, 175, 176, 177, 178, 179, 180, 181, 182, 183] (by decide +kernel) (by decide +kernel)
set_option maxRecDepth 20000 in
theorem gX7_doCommand_X5_bestPress : GoodIn wsX7_doCommand (wsV RX7 110 RX5 yX5_bestPress wsX5_bestPress) := goodIn_app (goodIn_of _ (by decide +kernel)) ggX7_doCommand_X5_bestPress
set_option maxRecDepth 20000 in
theorem ggX7_about_X1_number : GoodIn wsX7_about wsX1_number := goodIn_r _ [8, 9, 10, 11, 12, 13, 14, 15, 16, 17, 18, 7, 19, 20, 21, 22, 23, 24, 25, 26, 27, 28, 29, 30, 37, 38, 39, 40, 41, 42, 43, 44, 45, 46, 47, 48, 49, 50, 51, 52] (by decide +kernel) (by decide +kernel)
set_option maxRecDepth 20000 in
theorem gX7_about_X1_number : GoodIn wsX7_about (wsV RX7 116 RX1 yX1_number wsX1_number) := goodIn_app (goodIn_of _ (by decide +kernel)) ggX7_about_X1_number
set_option maxRecDepth 20000 in
theorem ggX7_guestOf_X7_requireGuest : GoodIn wsX7_guestOf wsX7_requireGuest := goodIn_ca (goodIn_r _ [8, 9, 10, 3, 11, 12, 13, 14, 15, 16, 35, 36, 37, 38, 39, 40, 41, 42, 43, 44, 45, 46, 47, 48, 49, 50, 51, 52, 53, 54, 55, 56] (by decide +kernel) (by decide +kernel)) (goodIn_sub (fun _ h => List.mem_cons_of_mem _ (List.mem_append_right _ h)) (by decide +kernel))
set_option maxRecDepth 20000 in
theorem gX7_guestOf_X7_requireGuest : GoodIn wsX7_guestOf (wsV RX7 119 RX7 yX7_requireGuest wsX7_requireGuest) := goodIn_app (goodIn_of _ (by decide +kernel)) ggX7_guestOf_X7_requireGuest
set_option maxRecDepth 20000 in
theorem ggX7_guestOf_X1_guestNumber : GoodIn wsX7_guestOf wsX1_guestNumber := goodIn_r _ [20, 21, 22, 23, 24, 25, 26, 27, 28, 12, 13, 14, 15, 16, 29, 30, 31, 32, 33, 34, 41, 42, 43, 44, 45, 46, 47, 48, 49, 50, 51, 52, 53, 54, 55, 56] (by decide +kernel) (by decide +kernel)
set_option maxRecDepth 20000 in
theorem gX7_guestOf_X1_guestNumber : GoodIn wsX7_guestOf (wsV RX7 125 RX1 yX1_guestNumber wsX1_guestNumber) := goodIn_app (goodIn_of _ (by decide +kernel)) ggX7_guestOf_X1_guestNumber
set_option maxRecDepth 20000 in
theorem ggX7_floorOf_X1_isFloor : GoodIn wsX7_floorOf wsX1_isFloor := goodIn_r _ [9] (by decide +kernel) (by decide +kernel)
set_option maxRecDepth 20000 in
theorem gX7_floorOf_X1_isFloor : GoodIn wsX7_floorOf (va_wsS RX7 128 yX1_isFloor wsX1_isFloor) := goodIn_app (goodIn_of _ (by decide +kernel)) ggX7_floorOf_X1_isFloor
set_option maxRecDepth 20000 in
theorem ggX7_floorOf_X1_floorSet : GoodIn wsX7_floorOf wsX1_floorSet := goodIn_r _ [13, 14, 15, 16, 17, 8, 18, 19, 20, 21, 22, 29, 30, 31, 32, 33, 34, 35, 36, 37, 38, 39, 40, 41, 42, 43, 44] (by decide +kernel) (by decide +kernel)
set_option maxRecDepth 20000 in
theorem gX7_floorOf_X1_floorSet : GoodIn wsX7_floorOf (wsV RX7 138 RX1 yX1_floorSet wsX1_floorSet) := goodIn_app (goodIn_of _ (by decide +kernel)) ggX7_floorOf_X1_floorSet
set_option maxRecDepth 20000 in
theorem ggX7_setting_X1_isSetting : GoodIn wsX7_setting wsX1_isSetting := goodIn_r _ [7, 8] (by decide +kernel) (by decide +kernel)
set_option maxRecDepth 20000 in
theorem gX7_setting_X1_isSetting : GoodIn wsX7_setting (va_wsS RX7 141 yX1_isSetting wsX1_isSetting) := goodIn_app (goodIn_of _ (by decide +kernel)) ggX7_setting_X1_isSetting
set_option maxRecDepth 20000 in
theorem ggX7_setting_X1_settingOf : GoodIn wsX7_setting wsX1_settingOf := goodIn_r _ [12, 13, 14, 5, 6, 7, 8, 21, 22, 23, 24, 25, 26, 27, 28, 29, 30, 31, 32, 33, 34, 35, 36] (by decide +kernel) (by decide +kernel)
set_option maxRecDepth 20000 in
theorem gX7_setting_X1_settingOf : GoodIn wsX7_setting (wsV RX7 146 RX1 yX1_settingOf wsX1_settingOf) := goodIn_app (goodIn_of _ (by decide +kernel)) ggX7_setting_X1_settingOf
set_option maxRecDepth 20000 in
theorem ggX7_come_X1_isFloor : GoodIn wsX7_come wsX1_isFloor := goodIn_r _ [12] (by decide +kernel) (by decide +kernel)
set_option maxRecDepth 20000 in
theorem gX7_come_X1_isFloor : GoodIn wsX7_come (va_wsS RX7 128 yX1_isFloor wsX1_isFloor) := goodIn_app (goodIn_of _ (by decide +kernel)) ggX7_come_X1_isFloor
set_option maxRecDepth 20000 in
theorem ggX7_come_X1_isWeight : GoodIn wsX7_come wsX1_isWeight := goodIn_r _ [15] (by decide +kernel) (by decide +kernel)
set_option maxRecDepth 20000 in
theorem gX7_come_X1_isWeight : GoodIn wsX7_come (va_wsS RX7 149 yX1_isWeight wsX1_isWeight) := goodIn_app (goodIn_of _ (by decide +kernel)) ggX7_come_X1_isWeight
set_option maxRecDepth 20000 in
theorem ggX7_come_X1_isFull : GoodIn wsX7_come wsX1_isFull := goodIn_r _ [19, 20, 76, 77, 78, 79, 80, 81, 82, 83, 84, 85, 86, 87, 88, 89, 90, 91] (by decide +kernel) (by decide +kernel)
set_option maxRecDepth 20000 in
theorem gX7_come_X1_isFull : GoodIn wsX7_come (wsV RX7 154 RX1 yX1_isFull wsX1_isFull) := goodIn_app (goodIn_of _ (by decide +kernel)) ggX7_come_X1_isFull
set_option maxRecDepth 20000 in
theorem ggX7_come_X3_remember : GoodIn wsX7_come wsX3_remember := goodIn_r _ [25, 26, 27, 28, 29, 11, 30, 31, 32, 24, 33, 34, 35, 36, 37, 38, 39, 40, 41, 42, 43, 44, 45, 46, 47, 48, 49, 50, 51, 52, 20, 53, 54, 55, 56, 57, 58, 59, 60, 61, 62, 92, 93, 76, 77, 78, 79, 80, 81, 82, 83, 84, 85, 86, 87, 88, 89, 90, 91] (by decide +kernel) (by decide +kernel)
set_option maxRecDepth 20000 in
theorem gX7_come_X3_remember : GoodIn wsX7_come (wsV RX7 157 RX3 yX3_remember wsX3_remember) := goodIn_app (goodIn_of _ (by decide +kernel)) ggX7_come_X3_remember
set_option maxRecDepth 20000 in
theorem ggX7_come_X1_admit : GoodIn wsX7_come wsX1_admit := goodIn_r _ [66, 20, 41, 42, 43, 44, 45, 46, 47, 48, 67, 10, 11, 12, 68, 14, 15, 69, 17, 18, 19, 76, 77, 78, 79, 80, 81, 82, 83, 84, 85, 86, 87, 88, 89, 90, 91] (by decide +kernel) (by decide +kernel)
set_option maxRecDepth 20000 in
theorem gX7_come_X1_admit : GoodIn wsX7_come (wsV RX7 93 RX1 yX1_admit wsX1_admit) := goodIn_app (goodIn_of _ (by decide +kernel)) ggX7_come_X1_admit
set_option maxRecDepth 20000 in
theorem ggX7_leave_X7_requireGuest : GoodIn wsX7_leave wsX7_requireGuest := goodIn_ca (goodIn_r _ [7, 8, 9, 2, 10, 11, 12, 13, 14, 15, 67, 68, 69, 70, 71, 72, 73, 74, 75, 76, 77, 78, 79, 80, 81, 82, 83, 84, 85, 86, 87, 88] (by decide +kernel) (by decide +kernel)) (goodIn_sub (fun _ h => List.mem_cons_of_mem _ (List.mem_append_right _ h)) (by decide +kernel))
set_option maxRecDepth 20000 in
theorem gX7_leave_X7_requireGuest : GoodIn wsX7_leave (wsV RX7 119 RX7 yX7_requireGuest wsX7_requireGuest) := goodIn_app (goodIn_of _ (by decide +kernel)) ggX7_leave_X7_requireGuest
set_option maxRecDepth 20000 in
theorem ggX7_leave_X3_remember : GoodIn wsX7_leave wsX3_remember := goodIn_r _ [20, 21, 22, 23, 24, 13, 25, 26, 27, 19, 28, 29, 30, 31, 32, 33, 34, 35, 36, 37, 38, 39, 40, 41, 42, 43, 44, 45, 46, 47, 15, 48, 49, 50, 51, 52, 53, 54, 55, 56, 57, 89, 90, 73, 74, 75, 76, 77, 78, 79, 80, 81, 82, 83, 84, 85, 86, 87, 88] (by decide +kernel) (by decide +kernel)
set_option maxRecDepth 20000 in
theorem gX7_leave_X3_remember : GoodIn wsX7_leave (wsV RX7 157 RX3 yX3_remember wsX3_remember) := goodIn_app (goodIn_of _ (by decide +kernel)) ggX7_leave_X3_remember
set_option maxRecDepth 20000 in
theorem ggX7_leave_X1_dismiss : GoodIn wsX7_leave wsX1_dismiss := goodIn_r _ [61, 41, 15, 62, 11, 12, 13, 14, 63, 64, 65, 66, 36, 37, 38, 39, 40, 42, 43, 73, 74, 75, 76, 77, 78, 79, 80, 81, 82, 83, 84, 85, 86, 87, 88] (by decide +kernel) (by decide +kernel)
set_option maxRecDepth 20000 in
theorem gX7_leave_X1_dismiss : GoodIn wsX7_leave (wsV RX7 103 RX1 yX1_dismiss wsX1_dismiss) := goodIn_app (goodIn_of _ (by decide +kernel)) ggX7_leave_X1_dismiss
set_option maxRecDepth 20000 in
theorem ggX7_press_X7_requireGuest : GoodIn wsX7_press wsX7_requireGuest := goodIn_ca (goodIn_r _ [7, 8, 9, 2, 10, 11, 12, 13, 14, 15, 95, 96, 97, 98, 99, 100, 101, 102, 103, 104, 105, 106, 107, 108, 109, 110, 111, 112, 113, 114, 115, 116] (by decide +kernel) (by decide +kernel)) (goodIn_sub (fun _ h => List.mem_cons_of_mem _ (List.mem_append_right _ h)) (by decide +kernel))
set_option maxRecDepth 20000 in
theorem gX7_press_X7_requireGuest : GoodIn wsX7_press (wsV RX7 119 RX7 yX7_requireGuest wsX7_requireGuest) := goodIn_app (goodIn_of _ (by decide +kernel)) ggX7_press_X7_requireGuest
set_option maxRecDepth 20000 in
theorem ggX7_press_X3_remember : GoodIn wsX7_press wsX3_remember := goodIn_r _ [20, 21, 22, 23, 24, 13, 25, 26, 27, 19, 28, 29, 30, 31, 32, 33, 34, 35, 36, 37, 38, 39, 40, 41, 42, 43, 44, 45, 46, 47, 15, 48, 49, 50, 51, 52, 53, 54, 55, 56, 57, 117, 118, 101, 102, 103, 104, 105, 106, 107, 108, 109, 110, 111, 112, 113, 114, 115, 116] (by decide +kernel) (by decide +kernel)
set_option maxRecDepth 20000 in
theorem gX7_press_X3_remember : GoodIn wsX7_press (wsV RX7 157 RX3 yX3_remember wsX3_remember) := goodIn_app (goodIn_of _ (by decide +kernel)) ggX7_press_X3_remember
set_option maxRecDepth 20000 in
theorem ggX7_press_X1_pressBy : GoodIn wsX7_press wsX1_pressBy := goodIn_r _ [61, 51, 62, 63, 64, 13, 65, 40, 41, 35, 48, 36, 66, 11, 12, 14, 15, 67, 68, 69, 70, 50, 42, 71, 72, 73, 74, 43, 49, 52, 75, 76, 77, 78, 38, 37, 79, 80, 81, 82, 83, 84, 85, 86, 53, 87, 88, 89, 90, 39, 91, 92, 93, 94, 101, 102, 103, 104, 105, 106, 107, 108, 109, 110, 111, 112, 113, 114, 115, 116] (by decide +kernel) (by decide +kernel)
set_option maxRecDepth 20000 in
theorem gX7_press_X1_pressBy : GoodIn wsX7_press (wsV RX7 161 RX1 yX1_pressBy wsX1_pressBy) := goodIn_app (goodIn_of _ (by decide +kernel)) ggX7_press_X1_pressBy
set_option maxRecDepth 20000 in
theorem ggX7_rest_X3_remember : GoodIn wsX7_rest wsX3_remember := goodIn_r _ [7, 8, 9, 10, 11, 12, 13, 14, 15, 6, 16, 17, 18, 19, 20, 21, 22, 23, 24, 25, 26, 27, 28, 29, 30, 31, 32, 33, 34, 35, 36, 37, 38, 39, 40, 41, 42, 43, 44, 45, 46, 61, 62, 63, 64, 65, 66, 67, 68, 69, 70, 71, 72, 73, 74, 75, 76, 77, 78] (by decide +kernel) (by decide +kernel)
set_option maxRecDepth 20000 in
theorem gX7_rest_X3_remember : GoodIn wsX7_rest (wsV RX7 157 RX3 yX3_remember wsX3_remember) := goodIn_app (goodIn_of _ (by decide +kernel)) ggX7_rest_X3_remember
set_option maxRecDepth 20000 in
theorem ggX7_rest_X1_letAllRest : GoodIn wsX7_rest wsX1_letAllRest := goodIn_r _ [50, 38, 36, 29, 63, 64, 65, 66, 67, 68, 69, 70, 71, 72, 73, 74, 75, 76, 77, 78] (by decide +kernel) (by decide +kernel)
set_option maxRecDepth 20000 in
theorem gX7_rest_X1_letAllRest : GoodIn wsX7_rest (wsV RX7 100 RX1 yX1_letAllRest wsX1_letAllRest) := goodIn_app (goodIn_of _ (by decide +kernel)) ggX7_rest_X1_letAllRest
set_option maxRecDepth 20000 in
theorem ggX7_rest_X1_allGrudges : GoodIn wsX7_rest wsX1_allGrudges := goodIn_r _ [54, 36, 29, 63, 64, 65, 66, 67, 68, 69, 70, 71, 72, 73, 74, 75, 76, 77, 78] (by decide +kernel) (by decide +kernel)
set_option maxRecDepth 20000 in
theorem gX7_rest_X1_allGrudges : GoodIn wsX7_rest (wsV RX7 164 RX1 yX1_allGrudges wsX1_allGrudges) := goodIn_app (goodIn_of _ (by decide +kernel)) ggX7_rest_X1_allGrudges
set_option maxRecDepth 20000 in
theorem ggX7_set_X1_isSettingValue : GoodIn wsX7_set wsX1_isSettingValue := goodIn_r _ [8, 9, 10, 11, 12, 7, 13] (by decide +kernel) (by decide +kernel)
set_option maxRecDepth 20000 in
theorem gX7_set_X1_isSettingValue : GoodIn wsX7_set (va_wsS RX7 167 yX1_isSettingValue wsX1_isSettingValue) := goodIn_app (goodIn_of _ (by decide +kernel)) ggX7_set_X1_isSettingValue
set_option maxRecDepth 20000 in
theorem ggX7_set_X3_remember : GoodIn wsX7_set wsX3_remember := goodIn_r _ [18, 19, 20, 21, 22, 7, 23, 24, 25, 17, 26, 27, 28, 29, 30, 31, 32, 33, 34, 35, 36, 37, 38, 39, 40, 41, 42, 43, 44, 45, 46, 47, 48, 49, 50, 51, 52, 53, 54, 55, 56, 68, 69, 70, 71, 72, 73, 74, 75, 76, 77, 78, 79, 80, 81, 82, 83, 84, 85] (by decide +kernel) (by decide +kernel)
set_option maxRecDepth 20000 in
theorem gX7_set_X3_remember : GoodIn wsX7_set (wsV RX7 157 RX3 yX3_remember wsX3_remember) := goodIn_app (goodIn_of _ (by decide +kernel)) ggX7_set_X3_remember
set_option maxRecDepth 20000 in
theorem ggX7_set_X1_change : GoodIn wsX7_set wsX1_change := goodIn_r _ [60, 33, 61, 6, 7, 8, 9, 10, 11, 12, 13, 70, 71, 72, 73, 74, 75, 76, 77, 78, 79, 80, 81, 82, 83, 84, 85] (by decide +kernel) (by decide +kernel)
set_option maxRecDepth 20000 in
theorem gX7_set_X1_change : GoodIn wsX7_set (wsV RX7 106 RX1 yX1_change wsX1_change) := goodIn_app (goodIn_of _ (by decide +kernel)) ggX7_set_X1_change
set_option maxRecDepth 20000 in
theorem ggX7_undo_X3_isEmpty : GoodIn wsX7_undo wsX3_isEmpty := goodIn_r _ [9, 10, 51, 52] (by decide +kernel) (by decide +kernel)
set_option maxRecDepth 20000 in
theorem gX7_undo_X3_isEmpty : GoodIn wsX7_undo (wsV RX7 173 RX3 yX3_isEmpty wsX3_isEmpty) := goodIn_app (goodIn_of _ (by decide +kernel)) ggX7_undo_X3_isEmpty
set_option maxRecDepth 20000 in
theorem ggX7_undo_X3_takeBack : GoodIn wsX7_undo wsX3_takeBack := goodIn_r _ [14, 10, 15, 16, 17, 18, 19, 20, 21, 22, 23, 24, 25, 26, 27, 28, 29, 30, 31, 32, 33, 34, 35, 36, 37, 38, 39, 40, 51, 52, 53, 54, 55, 56, 57, 58, 59, 60, 61, 62, 63, 64, 65, 66, 67, 68] (by decide +kernel) (by decide +kernel)
set_option maxRecDepth 20000 in
theorem gX7_undo_X3_takeBack : GoodIn wsX7_undo (wsV RX7 178 RX3 yX3_takeBack wsX3_takeBack) := goodIn_app (goodIn_of _ (by decide +kernel)) ggX7_undo_X3_takeBack
set_option maxRecDepth 20000 in
theorem ggX7_undo_X3_size : GoodIn wsX7_undo wsX3_size := goodIn_r _ [44, 10, 51, 52] (by decide +kernel) (by decide +kernel)
set_option maxRecDepth 20000 in
theorem gX7_undo_X3_size : GoodIn wsX7_undo (wsV RX7 181 RX3 yX3_size wsX3_size) := goodIn_app (goodIn_of _ (by decide +kernel)) ggX7_undo_X3_size
set_option maxRecDepth 20000 in
theorem ggX7_why_X7_requireGuest : GoodIn wsX7_why wsX7_requireGuest := goodIn_ca (goodIn_r _ [6, 7, 8, 1, 9, 10, 11, 12, 13, 14, 25, 26, 27, 28, 29, 30, 31, 32, 33, 34, 35, 36, 37, 38, 39, 40, 41, 42, 43, 44, 45, 46] (by decide +kernel) (by decide +kernel)) (goodIn_sub (fun _ h => List.mem_cons_of_mem _ (List.mem_append_right _ h)) (by decide +kernel))
set_option maxRecDepth 20000 in
theorem gX7_why_X7_requireGuest : GoodIn wsX7_why (wsV RX7 119 RX7 yX7_requireGuest wsX7_requireGuest) := goodIn_app (goodIn_of _ (by decide +kernel)) ggX7_why_X7_requireGuest
set_option maxRecDepth 20000 in
theorem ggX7_why_X1_reasonOf : GoodIn wsX7_why wsX1_reasonOf := goodIn_r _ [18, 19, 20, 21, 22, 23, 24, 10, 11, 12, 13, 14, 31, 32, 33, 34, 35, 36, 37, 38, 39, 40, 41, 42, 43, 44, 45, 46] (by decide +kernel) (by decide +kernel)
set_option maxRecDepth 20000 in
theorem gX7_why_X1_reasonOf : GoodIn wsX7_why (wsV RX7 182 RX1 yX1_reasonOf wsX1_reasonOf) := goodIn_app (goodIn_of _ (by decide +kernel)) ggX7_why_X1_reasonOf
set_option maxRecDepth 20000 in
theorem ggX7_fewest_X5_fewestByRows : GoodIn wsX7_fewest wsX5_fewestByRows := goodIn_r _ [9, 10, 11, 12, 13, 14, 15, 16, 17, 18, 19, 20, 21, 22, 23, 24, 25, 26, 27, 28, 29, 30, 31, 32, 33, 34, 35, 36, 37, 38, 39, 40, 41, 8, 42, 43, 44, 45, 46, 47, 48, 49, 50, 51, 52, 53, 54, 55, 56, 57, 58, 59, 60, 61, 62, 63, 64, 65, 66, 67, 68, 69, 70, 71, 72, 73, 74, 75, 76, 77, 78, 79, 80, 81, 82, 83, 84, 85, 86, 87, 88, 89, 90, 91, 92, 93, 94, 95, 96, 97, 98, 116, 117, 118, 119, 120, 121, 122, 123, 124, 125, 126, 127, 128, 129, 130, 131, 132, 133, 134, 135] (by decide +kernel) (by decide +kernel)
set_option maxRecDepth 20000 in
theorem gX7_fewest_X5_fewestByRows : GoodIn wsX7_fewest (wsV RX7 187 RX5 yX5_fewestByRows wsX5_fewestByRows) := goodIn_app (goodIn_of _ (by decide +kernel)) ggX7_fewest_X5_fewestByRows
set_option maxRecDepth 20000 in
theorem ggX7_fewest_X5_fewestByPositions : GoodIn wsX7_fewest wsX5_fewestByPositions := goodIn_r _ [102, 10, 103, 104, 105, 11, 12, 13, 14, 15, 16, 17, 18, 19, 20, 21, 22, 23, 24, 25, 26, 27, 28, 29, 30, 31, 32, 33, 34, 35, 47, 48, 49, 50, 51, 52, 53, 54, 36, 37, 38, 39, 106, 107, 108, 8, 109, 55, 56, 57, 58, 43, 44, 45, 46, 59, 60, 61, 62, 63, 64, 65, 66, 67, 68, 69, 70, 71, 72, 73, 74, 75, 76, 77, 78, 79, 80, 81, 82, 83, 84, 85, 86, 87, 88, 89, 90, 91, 92, 93, 94, 95, 96, 97, 98, 116, 117, 118, 119, 120, 121, 122, 123, 124, 125, 126, 127, 128, 129, 130, 131, 132, 133, 134, 135] (by decide +kernel) (by decide +kernel)
set_option maxRecDepth 20000 in
theorem gX7_fewest_X5_fewestByPositions : GoodIn wsX7_fewest (wsV RX7 190 RX5 yX5_fewestByPositions wsX5_fewestByPositions) := goodIn_app (goodIn_of _ (by decide +kernel)) ggX7_fewest_X5_fewestByPositions
set_option maxRecDepth 20000 in
theorem ggX7_best_X5_bestPress : GoodIn wsX7_best wsX5_bestPress := goodIn_r _ [7, 8, 9, 10, 11, 6, 12, 13, 14, 15, 16, 17, 18, 19, 20, 21, 22, 23, 24, 25, 26, 27, 28, 29, 30, 31, 32, 33, 34, 35, 36, 37, 38, 39, 40, 41, 42, 43, 44, 45, 46, 47, 48, 49, 50, 51, 52, 53, 54, 55, 56, 57, 58, 59, 60, 61, 62, 63, 64, 65, 66, 67, 68, 69, 70, 71, 72, 73, 74, 75, 76, 77, 78, 79, 80, 81, 82, 83, 84, 85, 86, 87, 88, 89, 90, 91, 92, 93, 94, 95, 96, 97, 98, 99, 100, 101, 102, 103, 104, 105, 106, 107, 114, 115, 116, 117, 118, 119, 120, 121, 122, 123, 124, 125, 126, 127, 128, 129, 130, 131, 132, 133] (by decide +kernel) (by decide +kernel)
set_option maxRecDepth 20000 in
theorem gX7_best_X5_bestPress : GoodIn wsX7_best (wsV RX7 110 RX5 yX5_bestPress wsX5_bestPress) := goodIn_app (goodIn_of _ (by decide +kernel)) ggX7_best_X5_bestPress
set_option maxRecDepth 20000 in
theorem ggX7_ifPressed_X0_without : GoodIn wsX7_ifPressed wsX0_without := goodIn_r _ [9, 10] (by decide +kernel) (by decide +kernel)
set_option maxRecDepth 20000 in
theorem gX7_ifPressed_X0_without : GoodIn wsX7_ifPressed (va_wsS RX7 195 yX0_without wsX0_without) := goodIn_app (goodIn_of _ (by decide +kernel)) ggX7_ifPressed_X0_without
set_option maxRecDepth 20000 in
theorem ggX7_ifPressed_X1_copyFrom : GoodIn wsX7_ifPressed wsX1_copyFrom := goodIn_r _ [15, 16, 17, 18, 19, 20, 21, 22, 23, 24, 25, 26, 27, 28, 29, 30, 31, 32, 33, 34, 35, 100, 101, 102, 103, 104, 105, 106, 107, 108, 109, 110, 111, 112, 113, 114, 115] (by decide +kernel) (by decide +kernel)
set_option maxRecDepth 20000 in
theorem gX7_ifPressed_X1_copyFrom : GoodIn wsX7_ifPressed (wsV RX7 205 RX1 yX1_copyFrom wsX1_copyFrom) := goodIn_app (goodIn_of _ (by decide +kernel)) ggX7_ifPressed_X1_copyFrom
set_option maxRecDepth 20000 in
theorem ggX7_ifPressed_X1_pressBy : GoodIn wsX7_ifPressed wsX1_pressBy := goodIn_r _ [39, 20, 40, 41, 42, 14, 43, 32, 33, 23, 17, 28, 44, 45, 46, 47, 16, 48, 49, 50, 51, 19, 34, 52, 53, 54, 55, 35, 18, 21, 56, 57, 58, 59, 30, 29, 60, 61, 62, 63, 64, 65, 66, 67, 22, 68, 69, 70, 71, 31, 72, 73, 74, 75, 100, 101, 102, 103, 104, 105, 106, 107, 108, 109, 110, 111, 112, 113, 114, 115] (by decide +kernel) (by decide +kernel)
set_option maxRecDepth 20000 in
theorem gX7_ifPressed_X1_pressBy : GoodIn wsX7_ifPressed (wsV RX7 161 RX1 yX1_pressBy wsX1_pressBy) := goodIn_app (goodIn_of _ (by decide +kernel)) ggX7_ifPressed_X1_pressBy
set_option maxRecDepth 20000 in
theorem ggX7_ifPressed_X7_brought : GoodIn wsX7_ifPressed wsX7_brought := goodIn_r _ [80, 3, 4, 81, 82, 83, 14, 84, 16, 17, 18, 19, 20, 21, 22, 72, 73, 74, 75, 32, 31, 85, 86, 87, 88, 89, 90, 91, 92, 33, 93, 94, 95, 96, 97, 98, 99, 100, 101, 102, 103, 104, 105, 106, 107, 108, 109, 110, 111, 112, 113, 114, 115] (by decide +kernel) (by decide +kernel)
set_option maxRecDepth 20000 in
theorem gX7_ifPressed_X7_brought : GoodIn wsX7_ifPressed (wsV RX7 210 RX7 yX7_brought wsX7_brought) := goodIn_app (goodIn_of _ (by decide +kernel)) ggX7_ifPressed_X7_brought
set_option maxRecDepth 20000 in
theorem ggX7_brought_X1_number : GoodIn wsX7_brought wsX1_number := goodIn_r _ [7, 8, 9, 10, 11, 12, 13, 14, 15, 16, 17, 6, 18, 19, 20, 21, 22, 23, 24, 25, 26, 27, 28, 29, 37, 38, 39, 40, 41, 42, 43, 44, 45, 46, 47, 48, 49, 50, 51, 52] (by decide +kernel) (by decide +kernel)
set_option maxRecDepth 20000 in
theorem gX7_brought_X1_number : GoodIn wsX7_brought (wsV RX7 116 RX1 yX1_number wsX1_number) := goodIn_app (goodIn_of _ (by decide +kernel)) ggX7_brought_X1_number
set_option maxRecDepth 20000 in
theorem ggX7_brought_X1_allGrudges : GoodIn wsX7_brought wsX1_allGrudges := goodIn_r _ [28, 8, 29, 37, 38, 39, 40, 41, 42, 43, 44, 45, 46, 47, 48, 49, 50, 51, 52] (by decide +kernel) (by decide +kernel)
set_option maxRecDepth 20000 in
theorem gX7_brought_X1_allGrudges : GoodIn wsX7_brought (wsV RX7 164 RX1 yX1_allGrudges wsX1_allGrudges) := goodIn_app (goodIn_of _ (by decide +kernel)) ggX7_brought_X1_allGrudges
set_option maxRecDepth 20000 in
theorem ggX7_leftStanding_X7_requireGuest : GoodIn wsX7_leftStanding wsX7_requireGuest := goodIn_ca (goodIn_r _ [7, 8, 9, 2, 10, 11, 12, 13, 14, 15, 80, 81, 82, 83, 84, 85, 86, 87, 88, 89, 90, 91, 92, 93, 94, 95, 96, 97, 98, 99, 100, 101] (by decide +kernel) (by decide +kernel)) (goodIn_sub (fun _ h => List.mem_cons_of_mem _ (List.mem_append_right _ h)) (by decide +kernel))
set_option maxRecDepth 20000 in
theorem gX7_leftStanding_X7_requireGuest : GoodIn wsX7_leftStanding (wsV RX7 119 RX7 yX7_requireGuest wsX7_requireGuest) := goodIn_app (goodIn_of _ (by decide +kernel)) ggX7_leftStanding_X7_requireGuest
set_option maxRecDepth 20000 in
theorem ggX7_leftStanding_X1_copyFrom : GoodIn wsX7_leftStanding wsX1_copyFrom := goodIn_r _ [19, 15, 20, 21, 22, 23, 24, 25, 26, 27, 28, 29, 30, 31, 32, 33, 34, 35, 36, 37, 38, 86, 87, 88, 89, 90, 91, 92, 93, 94, 95, 96, 97, 98, 99, 100, 101] (by decide +kernel) (by decide +kernel)
set_option maxRecDepth 20000 in
theorem gX7_leftStanding_X1_copyFrom : GoodIn wsX7_leftStanding (wsV RX7 205 RX1 yX1_copyFrom wsX1_copyFrom) := goodIn_app (goodIn_of _ (by decide +kernel)) ggX7_leftStanding_X1_copyFrom
set_option maxRecDepth 20000 in
theorem ggX7_leftStanding_X1_standingBehind : GoodIn wsX7_leftStanding wsX1_standingBehind := goodIn_r _ [42, 20, 31, 43, 11, 12, 13, 14, 15, 44, 45, 46, 47, 22, 37, 48, 49, 50, 51, 35, 38, 21, 26, 24, 52, 53, 54, 55, 33, 32, 56, 57, 58, 59, 36, 60, 61, 62, 63, 25, 64, 65, 66, 67, 34, 68, 69, 70, 71, 72, 73, 74, 75, 76, 77, 78, 79, 86, 87, 88, 89, 90, 91, 92, 93, 94, 95, 96, 97, 98, 99, 100, 101] (by decide +kernel) (by decide +kernel)
set_option maxRecDepth 20000 in
theorem gX7_leftStanding_X1_standingBehind : GoodIn wsX7_leftStanding (wsV RX7 213 RX1 yX1_standingBehind wsX1_standingBehind) := goodIn_app (goodIn_of _ (by decide +kernel)) ggX7_leftStanding_X1_standingBehind
set_option maxRecDepth 20000 in
theorem ggX7_runScript_X0_without : GoodIn wsX7_runScript wsX0_without := goodIn_r _ [9, 10] (by decide +kernel) (by decide +kernel)
set_option maxRecDepth 20000 in
theorem gX7_runScript_X0_without : GoodIn wsX7_runScript (va_wsS RX7 195 yX0_without wsX0_without) := goodIn_app (goodIn_of _ (by decide +kernel)) ggX7_runScript_X0_without
set_option maxRecDepth 20000 in
theorem ggX7_runScript_X1_copyFrom : GoodIn wsX7_runScript wsX1_copyFrom := goodIn_r _ [15, 16, 17, 18, 19, 20, 21, 22, 23, 24, 25, 26, 27, 28, 29, 30, 31, 32, 33, 34, 35, 148, 149, 150, 151, 152, 153, 154, 155, 156, 157, 158, 159, 160, 161, 162, 163] (by decide +kernel) (by decide +kernel)
set_option maxRecDepth 20000 in
theorem gX7_runScript_X1_copyFrom : GoodIn wsX7_runScript (wsV RX7 205 RX1 yX1_copyFrom wsX1_copyFrom) := goodIn_app (goodIn_of _ (by decide +kernel)) ggX7_runScript_X1_copyFrom
set_option maxRecDepth 20000 in
theorem ggX7_runScript_X4_succeeds : GoodIn wsX7_runScript wsX4_succeeds := goodIn_r _ [39, 40, 41, 42, 14, 43, 16, 28, 29, 30, 31, 32, 33, 34, 35, 44, 45, 46, 47, 48, 49, 50, 51, 52, 53, 54, 55, 56, 57, 20, 58, 59, 60, 61, 23, 17, 62, 63, 64, 65, 66, 67, 68, 69, 19, 70, 71, 72, 73, 18, 21, 74, 75, 76, 77, 78, 79, 80, 81, 82, 83, 84, 85, 22, 86, 87, 88, 89, 90, 91, 92, 93, 94, 95, 38, 96, 97, 98, 99, 100, 101, 102, 103, 104, 105, 106, 107, 108, 109, 110, 111, 112, 113, 114, 115, 116, 117, 118, 119, 120, 121, 122, 123, 124, 125, 126, 127, 128, 129, 130, 131, 132, 133, 134, 135, 136, 137, 138, 139, 140, 141, 148, 149, 150, 151, 152, 153, 154, 155, 156, 157, 158, 159, 160, 161, 162, 163] (by decide +kernel) (by decide +kernel)
set_option maxRecDepth 20000 in
theorem gX7_runScript_X4_succeeds : GoodIn wsX7_runScript (va_wsS RX7 222 yX4_succeeds wsX4_succeeds) := goodIn_app (goodIn_of _ (by decide +kernel)) ggX7_runScript_X4_succeeds
set_option maxRecDepth 20000 in
theorem ggX7_simulate_X1_copyFrom : GoodIn wsX7_simulate wsX1_copyFrom := goodIn_r _ [11, 12, 13, 14, 15, 16, 17, 18, 19, 20, 21, 22, 23, 24, 25, 26, 27, 28, 29, 30, 31, 133, 134, 135, 136, 137, 138, 139, 140, 141, 142, 143, 144, 145, 146, 147, 148] (by decide +kernel) (by decide +kernel)
set_option maxRecDepth 20000 in
theorem gX7_simulate_X1_copyFrom : GoodIn wsX7_simulate (wsV RX7 205 RX1 yX1_copyFrom wsX1_copyFrom) := goodIn_app (goodIn_of _ (by decide +kernel)) ggX7_simulate_X1_copyFrom
set_option maxRecDepth 20000 in
theorem ggX7_simulate_X6_take : GoodIn wsX7_simulate wsX6_take := goodIn_r _ [35, 36, 37, 38, 10, 39, 12, 24, 25, 26, 27, 28, 29, 30, 31, 40, 41, 42, 43, 44, 45, 46, 47, 48, 49, 50, 51, 52, 53, 54, 55, 56, 57, 58, 59, 60, 61, 62, 63, 64, 65, 14, 66, 67, 68, 69, 19, 70, 71, 72, 73, 74, 75, 76, 77, 78, 79, 80, 81, 16, 82, 83, 84, 85, 13, 86, 87, 88, 89, 15, 90, 91, 92, 93, 17, 94, 95, 96, 97, 98, 99, 100, 101, 102, 103, 104, 105, 18, 106, 107, 108, 109, 110, 111, 112, 113, 133, 134, 135, 136, 137, 138, 139, 140, 141, 142, 143, 144, 145, 146, 147, 148] (by decide +kernel) (by decide +kernel)
set_option maxRecDepth 20000 in
theorem gX7_simulate_X6_take : GoodIn wsX7_simulate (va_wsS RX7 234 yX6_take wsX6_take) := goodIn_app (goodIn_of _ (by decide +kernel)) ggX7_simulate_X6_take
set_option maxRecDepth 20000 in
theorem ggX7_simulate_X1_number : GoodIn wsX7_simulate wsX1_number := goodIn_r _ [117, 12, 13, 14, 15, 16, 17, 18, 110, 111, 112, 10, 113, 28, 27, 118, 119, 120, 121, 122, 123, 124, 125, 29, 133, 134, 135, 136, 137, 138, 139, 140, 141, 142, 143, 144, 145, 146, 147, 148] (by decide +kernel) (by decide +kernel)
set_option maxRecDepth 20000 in
theorem gX7_simulate_X1_number : GoodIn wsX7_simulate (wsV RX7 116 RX1 yX1_number wsX1_number) := goodIn_app (goodIn_of _ (by decide +kernel)) ggX7_simulate_X1_number
set_option maxRecDepth 20000 in
theorem ggX7_simulate_X1_allGrudges : GoodIn wsX7_simulate wsX1_allGrudges := goodIn_r _ [125, 12, 29, 133, 134, 135, 136, 137, 138, 139, 140, 141, 142, 143, 144, 145, 146, 147, 148] (by decide +kernel) (by decide +kernel)
set_option maxRecDepth 20000 in
theorem gX7_simulate_X1_allGrudges : GoodIn wsX7_simulate (wsV RX7 164 RX1 yX1_allGrudges wsX1_allGrudges) := goodIn_app (goodIn_of _ (by decide +kernel)) ggX7_simulate_X1_allGrudges
set_option maxRecDepth 20000 in
theorem ggX7_save_X7_requireSlot : GoodIn wsX7_save wsX7_requireSlot := goodIn_ca (goodIn_r _ [10, 11, 12, 1, 59, 60, 61, 62, 63, 64] (by decide +kernel) (by decide +kernel)) (goodIn_sub (fun _ h => List.mem_cons_of_mem _ (List.mem_append_right _ h)) (by decide +kernel))
set_option maxRecDepth 20000 in
theorem gX7_save_X7_requireSlot : GoodIn wsX7_save (wsV RX7 240 RX7 yX7_requireSlot wsX7_requireSlot) := goodIn_app (goodIn_of _ (by decide +kernel)) ggX7_save_X7_requireSlot
set_option maxRecDepth 20000 in
theorem ggX7_save_X1_init : GoodIn wsX7_save wsX1_init := goodIn_r _ [14, 15, 16, 17, 18, 19, 20, 21, 22, 23, 24, 25, 26, 27, 65, 66, 67, 68, 69, 70, 71, 72, 73, 74, 75, 76, 77, 78, 79, 80] (by decide +kernel) (by decide +kernel)
set_option maxRecDepth 20000 in
theorem gX7_save_X1_init_n36 : GoodIn wsX7_save (wsX1_init) := ggX7_save_X1_init
