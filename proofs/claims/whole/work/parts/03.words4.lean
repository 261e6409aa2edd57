set_option maxRecDepth 20000 in
theorem ggX8_readCommand_X8_restOn : GoodIn wsX8_readCommand wsX8_restOn := goodIn_r _ [57, 34, 35, 6, 36, 20, 21, 22, 58, 59, 60] (by decide +kernel) (by decide +kernel)
set_option maxRecDepth 20000 in
theorem gX8_readCommand_X8_restOn : GoodIn wsX8_readCommand (va_wsS RX8 136 yX8_restOn wsX8_restOn) := goodIn_app (goodIn_of _ (by decide +kernel)) ggX8_readCommand_X8_restOn
set_option maxRecDepth 20000 in
theorem ggX8_readCommand_X8_leaveOn : GoodIn wsX8_readCommand wsX8_leaveOn := goodIn_r _ [63, 34, 35, 6, 36] (by decide +kernel) (by decide +kernel)
set_option maxRecDepth 20000 in
theorem gX8_readCommand_X8_leaveOn : GoodIn wsX8_readCommand (va_wsS RX8 139 yX8_leaveOn wsX8_leaveOn) := goodIn_app (goodIn_of _ (by decide +kernel)) ggX8_readCommand_X8_leaveOn
set_option maxRecDepth 20000 in
theorem ggX8_readCommand_X8_isSetting : GoodIn wsX8_readCommand wsX8_isSetting := goodIn_r _ [66, 67, 68, 13, 14, 15, 6, 16] (by decide +kernel) (by decide +kernel)
set_option maxRecDepth 20000 in
theorem gX8_readCommand_X8_isSetting : GoodIn wsX8_readCommand (va_wsS RX8 142 yX8_isSetting wsX8_isSetting) := goodIn_app (goodIn_of _ (by decide +kernel)) ggX8_readCommand_X8_isSetting
set_option maxRecDepth 20000 in
theorem ggX8_readCommand_X8_change : GoodIn wsX8_readCommand wsX8_change := goodIn_r _ [71] (by decide +kernel) (by decide +kernel)
set_option maxRecDepth 20000 in
theorem gX8_readCommand_X8_change : GoodIn wsX8_readCommand (va_wsS RX8 146 yX8_change wsX8_change) := goodIn_app (goodIn_of _ (by decide +kernel)) ggX8_readCommand_X8_change
set_option maxRecDepth 20000 in
theorem ggX8_readCommand_X8_fewestRow : GoodIn wsX8_readCommand wsX8_fewestRow := goodIn_r _ [75, 76, 77, 78, 6, 79, 80, 81, 82, 83, 28, 29, 30, 14, 15, 16, 31, 32, 33, 34, 35, 36, 40, 41, 42, 43, 44, 45, 46, 47, 48, 20, 21, 22, 49, 50, 51, 52, 53, 54, 84, 85, 86, 87, 88, 89, 93, 94, 95, 96, 97, 98, 99, 100, 101, 102, 103, 104] (by decide +kernel) (by decide +kernel)
set_option maxRecDepth 20000 in
theorem gX8_readCommand_X8_fewestRow : GoodIn wsX8_readCommand (wsV RX8 149 RX8 yX8_fewestRow wsX8_fewestRow) := goodIn_app (goodIn_of _ (by decide +kernel)) ggX8_readCommand_X8_fewestRow
set_option maxRecDepth 20000 in
theorem ggX8_readCommand_X8_bestOf : GoodIn wsX8_readCommand wsX8_bestOf := goodIn_r _ [92] (by decide +kernel) (by decide +kernel)
set_option maxRecDepth 20000 in
theorem gX8_readCommand_X8_bestOf : GoodIn wsX8_readCommand (va_wsS RX8 152 yX8_bestOf wsX8_bestOf) := goodIn_app (goodIn_of _ (by decide +kernel)) ggX8_readCommand_X8_bestOf
set_option maxRecDepth 20000 in
theorem ggX8_readText_X8_clear : GoodIn wsX8_readText wsX8_clear := goodIn_r _ [8] (by decide +kernel) (by decide +kernel)
set_option maxRecDepth 20000 in
theorem gX8_readText_X8_clear : GoodIn wsX8_readText (va_wsS RX8 32 yX8_clear wsX8_clear) := goodIn_app (goodIn_of _ (by decide +kernel)) ggX8_readText_X8_clear
set_option maxRecDepth 20000 in
theorem ggX8_readText_X8_readCommand : GoodIn wsX8_readText wsX8_readCommand := goodIn_r _ [12, 4, 2, 13, 14, 15, 7, 16, 17, 18, 19, 20, 3, 21, 22, 23, 24, 25, 26, 27, 28, 29, 30, 31, 32, 33, 34, 1, 35, 36, 37, 38, 39, 40, 41, 42, 43, 44, 45, 46, 47, 48, 49, 50, 51, 52, 53, 54, 55, 56, 57, 58, 59, 60, 61, 62, 63, 64, 65, 66, 67, 68, 69, 70, 71, 72, 73, 74, 75, 76, 77, 78, 79, 80, 81, 82, 83, 84, 85, 86, 87, 88, 89, 90, 91, 92, 93, 94, 95, 96, 97, 98, 99, 100, 101, 102, 103, 104, 105, 106, 107, 108, 109, 110, 111] (by decide +kernel) (by decide +kernel)
set_option maxRecDepth 20000 in
theorem gX8_readText_X8_readCommand : GoodIn wsX8_readText (wsV RX8 156 RX8 yX8_readCommand wsX8_readCommand) := goodIn_app (goodIn_of _ (by decide +kernel)) ggX8_readText_X8_readCommand
set_option maxRecDepth 20000 in
theorem ggX8_errorPosition_X8_readText : GoodIn wsX8_errorPosition wsX8_readText := goodIn_r _ [7, 8, 9, 10, 11, 12, 13, 6, 14, 15, 16, 17, 18, 19, 20, 21, 22, 23, 24, 25, 26, 27, 28, 29, 30, 31, 32, 33, 34, 35, 36, 37, 38, 39, 40, 41, 42, 43, 44, 45, 46, 47, 48, 49, 50, 51, 52, 53, 54, 55, 56, 57, 58, 59, 60, 61, 62, 63, 64, 65, 66, 67, 68, 69, 70, 71, 72, 73, 74, 75, 76, 77, 78, 79, 80, 81, 82, 83, 84, 85, 86, 87, 88, 89, 90, 91, 92, 93, 94, 95, 96, 97, 98, 99, 100, 101, 102, 103, 104, 105, 106, 107, 108, 109, 110, 111, 112, 113, 114, 115, 116, 117] (by decide +kernel) (by decide +kernel)
set_option maxRecDepth 20000 in
theorem gX8_errorPosition_X8_readText : GoodIn wsX8_errorPosition (wsV RX8 159 RX8 yX8_readText wsX8_readText) := goodIn_app (goodIn_of _ (by decide +kernel)) ggX8_errorPosition_X8_readText
set_option maxRecDepth 20000 in
theorem ggX8_load_X8_readText : GoodIn wsX8_load wsX8_readText := goodIn_r _ [10, 5, 11, 12, 13, 14, 15, 9, 16, 17, 18, 19, 20, 21, 22, 23, 24, 25, 26, 27, 28, 29, 30, 31, 32, 33, 34, 35, 36, 37, 38, 39, 40, 41, 42, 43, 44, 45, 46, 47, 48, 49, 50, 51, 52, 53, 54, 55, 56, 57, 58, 59, 60, 61, 62, 63, 64, 65, 66, 67, 68, 69, 70, 71, 72, 73, 74, 75, 76, 77, 78, 79, 80, 81, 82, 83, 84, 85, 86, 87, 88, 89, 90, 91, 92, 93, 94, 95, 96, 97, 98, 99, 100, 101, 102, 103, 104, 105, 106, 107, 113, 114, 115, 116, 117, 118, 119, 120, 121, 122, 123, 124] (by decide +kernel) (by decide +kernel)
set_option maxRecDepth 20000 in
theorem gX8_load_X8_readText : GoodIn wsX8_load (wsV RX8 159 RX8 yX8_readText wsX8_readText) := goodIn_app (goodIn_of _ (by decide +kernel)) ggX8_load_X8_readText
set_option maxRecDepth 20000 in
theorem ggX8_load_X8_refused : GoodIn wsX8_load wsX8_refused := goodIn_r _ [111, 112, 113, 114, 115, 116, 117, 118, 119, 120, 121, 122, 123, 124] (by decide +kernel) (by decide +kernel)
set_option maxRecDepth 20000 in
theorem gX8_load_X8_refused : GoodIn wsX8_load (wsV RX8 108 RX8 yX8_refused wsX8_refused) := goodIn_app (goodIn_of _ (by decide +kernel)) ggX8_load_X8_refused
set_option maxRecDepth 20000 in
theorem ggX8_load_X8_copyState : GoodIn wsX8_load wsX8_copyState := goodIn_r _ [98] (by decide +kernel) (by decide +kernel)
set_option maxRecDepth 20000 in
theorem gX8_load_X8_copyState : GoodIn wsX8_load (va_wsS RX8 87 yX8_copyState wsX8_copyState) := goodIn_app (goodIn_of _ (by decide +kernel)) ggX8_load_X8_copyState
set_option maxRecDepth 20000 in
theorem ggX8_about_X8_in : GoodIn wsX8_about wsX8_in := goodIn_r _ [6] (by decide +kernel) (by decide +kernel)
set_option maxRecDepth 20000 in
theorem gX8_about_X8_in : GoodIn wsX8_about (va_wsS RX8 40 yX8_in wsX8_in) := goodIn_app (goodIn_of _ (by decide +kernel)) ggX8_about_X8_in
set_option maxRecDepth 20000 in
theorem ggX8_about_X8_refused : GoodIn wsX8_about wsX8_refused := goodIn_r _ [10, 11, 24, 25, 26, 27, 28, 29, 30, 31, 32, 33, 34, 35] (by decide +kernel) (by decide +kernel)
set_option maxRecDepth 20000 in
theorem gX8_about_X8_refused : GoodIn wsX8_about (wsV RX8 108 RX8 yX8_refused wsX8_refused) := goodIn_app (goodIn_of _ (by decide +kernel)) ggX8_about_X8_refused
set_option maxRecDepth 20000 in
theorem ggX8_about_X8_load1 : GoodIn wsX8_about wsX8_load1 := goodIn_r _ [14, 15, 16, 5, 17] (by decide +kernel) (by decide +kernel)
set_option maxRecDepth 20000 in
theorem gX8_about_X8_load1 : GoodIn wsX8_about (va_wsS RX8 64 yX8_load1 wsX8_load1) := goodIn_app (goodIn_of _ (by decide +kernel)) ggX8_about_X8_load1
set_option maxRecDepth 20000 in
theorem ggX8_about_X8_inState : GoodIn wsX8_about wsX8_inState := goodIn_r _ [20, 15, 16, 5, 17] (by decide +kernel) (by decide +kernel)
set_option maxRecDepth 20000 in
theorem gX8_about_X8_inState : GoodIn wsX8_about (va_wsS RX8 84 yX8_inState wsX8_inState) := goodIn_app (goodIn_of _ (by decide +kernel)) ggX8_about_X8_inState
set_option maxRecDepth 20000 in
theorem ggX8_about_X8_allGrudges : GoodIn wsX8_about wsX8_allGrudges := goodIn_r _ [23, 15, 16, 5, 17] (by decide +kernel) (by decide +kernel)
set_option maxRecDepth 20000 in
theorem gX8_about_X8_allGrudges : GoodIn wsX8_about (va_wsS RX8 81 yX8_allGrudges wsX8_allGrudges) := goodIn_app (goodIn_of _ (by decide +kernel)) ggX8_about_X8_allGrudges
set_option maxRecDepth 20000 in
theorem ggX8_guestOf_X8_isGuest : GoodIn wsX8_guestOf wsX8_isGuest := goodIn_r _ [6, 7, 8, 5, 9] (by decide +kernel) (by decide +kernel)
set_option maxRecDepth 20000 in
theorem gX8_guestOf_X8_isGuest : GoodIn wsX8_guestOf (va_wsS RX8 91 yX8_isGuest wsX8_isGuest) := goodIn_app (goodIn_of _ (by decide +kernel)) ggX8_guestOf_X8_isGuest
set_option maxRecDepth 20000 in
theorem ggX8_guestOf_X8_in : GoodIn wsX8_guestOf wsX8_in := goodIn_r _ [9] (by decide +kernel) (by decide +kernel)
set_option maxRecDepth 20000 in
theorem gX8_guestOf_X8_in : GoodIn wsX8_guestOf (va_wsS RX8 40 yX8_in wsX8_in) := goodIn_app (goodIn_of _ (by decide +kernel)) ggX8_guestOf_X8_in
set_option maxRecDepth 20000 in
theorem ggX8_guestOf_X8_refused : GoodIn wsX8_guestOf wsX8_refused := goodIn_r _ [13, 14, 18, 19, 20, 21, 22, 23, 24, 25, 26, 27, 28, 29] (by decide +kernel) (by decide +kernel)
set_option maxRecDepth 20000 in
theorem gX8_guestOf_X8_refused : GoodIn wsX8_guestOf (wsV RX8 108 RX8 yX8_refused wsX8_refused) := goodIn_app (goodIn_of _ (by decide +kernel)) ggX8_guestOf_X8_refused
set_option maxRecDepth 20000 in
theorem ggX8_guestOf_X8_of : GoodIn wsX8_guestOf wsX8_of := goodIn_r _ [17] (by decide +kernel) (by decide +kernel)
set_option maxRecDepth 20000 in
theorem gX8_guestOf_X8_of : GoodIn wsX8_guestOf (va_wsS RX8 52 yX8_of wsX8_of) := goodIn_app (goodIn_of _ (by decide +kernel)) ggX8_guestOf_X8_of
set_option maxRecDepth 20000 in
theorem ggX8_floorOf_X8_isFloor : GoodIn wsX8_floorOf wsX8_isFloor := goodIn_r _ [6, 7, 8, 9, 5, 10] (by decide +kernel) (by decide +kernel)
set_option maxRecDepth 20000 in
theorem gX8_floorOf_X8_isFloor : GoodIn wsX8_floorOf (va_wsS RX8 169 yX8_isFloor wsX8_isFloor) := goodIn_app (goodIn_of _ (by decide +kernel)) ggX8_floorOf_X8_isFloor
set_option maxRecDepth 20000 in
theorem ggX8_floorOf_X8_in : GoodIn wsX8_floorOf wsX8_in := goodIn_r _ [10] (by decide +kernel) (by decide +kernel)
set_option maxRecDepth 20000 in
theorem gX8_floorOf_X8_in : GoodIn wsX8_floorOf (va_wsS RX8 40 yX8_in wsX8_in) := goodIn_app (goodIn_of _ (by decide +kernel)) ggX8_floorOf_X8_in
set_option maxRecDepth 20000 in
theorem ggX8_floorOf_X8_refused : GoodIn wsX8_floorOf wsX8_refused := goodIn_r _ [14, 15, 19, 20, 21, 22, 23, 24, 25, 26, 27, 28, 29, 30] (by decide +kernel) (by decide +kernel)
set_option maxRecDepth 20000 in
theorem gX8_floorOf_X8_refused : GoodIn wsX8_floorOf (wsV RX8 108 RX8 yX8_refused wsX8_refused) := goodIn_app (goodIn_of _ (by decide +kernel)) ggX8_floorOf_X8_refused
set_option maxRecDepth 20000 in
theorem ggX8_floorOf_X8_of : GoodIn wsX8_floorOf wsX8_of := goodIn_r _ [18] (by decide +kernel) (by decide +kernel)
set_option maxRecDepth 20000 in
theorem gX8_floorOf_X8_of : GoodIn wsX8_floorOf (va_wsS RX8 52 yX8_of wsX8_of) := goodIn_app (goodIn_of _ (by decide +kernel)) ggX8_floorOf_X8_of
set_option maxRecDepth 20000 in
theorem ggX8_setting_X8_in : GoodIn wsX8_setting wsX8_in := goodIn_r _ [6] (by decide +kernel) (by decide +kernel)
set_option maxRecDepth 20000 in
theorem gX8_setting_X8_in : GoodIn wsX8_setting (va_wsS RX8 40 yX8_in wsX8_in) := goodIn_app (goodIn_of _ (by decide +kernel)) ggX8_setting_X8_in
set_option maxRecDepth 20000 in
theorem ggX8_setting_X8_refused : GoodIn wsX8_setting wsX8_refused := goodIn_r _ [10, 11, 12, 13, 14, 15, 16, 17, 18, 19, 20, 21, 22, 23] (by decide +kernel) (by decide +kernel)
set_option maxRecDepth 20000 in
theorem gX8_setting_X8_refused : GoodIn wsX8_setting (wsV RX8 108 RX8 yX8_refused wsX8_refused) := goodIn_app (goodIn_of _ (by decide +kernel)) ggX8_setting_X8_refused
set_option maxRecDepth 20000 in
theorem ggX8_remember_X8_copyState : GoodIn wsX8_remember wsX8_copyState := goodIn_r _ [7] (by decide +kernel) (by decide +kernel)
set_option maxRecDepth 20000 in
theorem gX8_remember_X8_copyState : GoodIn wsX8_remember (va_wsS RX8 87 yX8_copyState wsX8_copyState) := goodIn_app (goodIn_of _ (by decide +kernel)) ggX8_remember_X8_copyState
set_option maxRecDepth 20000 in
theorem ggX8_come_X8_isFloor : GoodIn wsX8_come wsX8_isFloor := goodIn_r _ [6, 7, 8, 9, 5, 10] (by decide +kernel) (by decide +kernel)
set_option maxRecDepth 20000 in
theorem gX8_come_X8_isFloor : GoodIn wsX8_come (va_wsS RX8 169 yX8_isFloor wsX8_isFloor) := goodIn_app (goodIn_of _ (by decide +kernel)) ggX8_come_X8_isFloor
set_option maxRecDepth 20000 in
theorem ggX8_come_X8_in : GoodIn wsX8_come wsX8_in := goodIn_r _ [10] (by decide +kernel) (by decide +kernel)
set_option maxRecDepth 20000 in
theorem gX8_come_X8_in : GoodIn wsX8_come (va_wsS RX8 40 yX8_in wsX8_in) := goodIn_app (goodIn_of _ (by decide +kernel)) ggX8_come_X8_in
set_option maxRecDepth 20000 in
theorem ggX8_come_X8_refused : GoodIn wsX8_come wsX8_refused := goodIn_r _ [14, 15, 31, 32, 33, 34, 35, 36, 37, 38, 39, 40, 41, 42] (by decide +kernel) (by decide +kernel)
set_option maxRecDepth 20000 in
theorem gX8_come_X8_refused : GoodIn wsX8_come (wsV RX8 108 RX8 yX8_refused wsX8_refused) := goodIn_app (goodIn_of _ (by decide +kernel)) ggX8_come_X8_refused
set_option maxRecDepth 20000 in
theorem ggX8_come_X8_remember : GoodIn wsX8_come wsX8_remember := goodIn_r _ [19, 20, 21, 2, 22, 23, 5, 24, 31, 32, 33, 34, 35, 36, 37, 38, 39, 40, 41, 42] (by decide +kernel) (by decide +kernel)
set_option maxRecDepth 20000 in
theorem gX8_come_X8_remember : GoodIn wsX8_come (wsV RX8 174 RX8 yX8_remember wsX8_remember) := goodIn_app (goodIn_of _ (by decide +kernel)) ggX8_come_X8_remember
set_option maxRecDepth 20000 in
theorem ggX8_come_X8_comeOn : GoodIn wsX8_come wsX8_comeOn := goodIn_r _ [27, 28, 29, 5, 30] (by decide +kernel) (by decide +kernel)
set_option maxRecDepth 20000 in
theorem gX8_come_X8_comeOn : GoodIn wsX8_come (va_wsS RX8 122 yX8_comeOn wsX8_comeOn) := goodIn_app (goodIn_of _ (by decide +kernel)) ggX8_come_X8_comeOn
set_option maxRecDepth 20000 in
theorem ggX8_leave_X8_isGuest : GoodIn wsX8_leave wsX8_isGuest := goodIn_r _ [5, 6, 7, 4, 8] (by decide +kernel) (by decide +kernel)
set_option maxRecDepth 20000 in
theorem gX8_leave_X8_isGuest : GoodIn wsX8_leave (va_wsS RX8 91 yX8_isGuest wsX8_isGuest) := goodIn_app (goodIn_of _ (by decide +kernel)) ggX8_leave_X8_isGuest
set_option maxRecDepth 20000 in
theorem ggX8_leave_X8_refused : GoodIn wsX8_leave wsX8_refused := goodIn_r _ [12, 13, 29, 30, 31, 32, 33, 34, 35, 36, 37, 38, 39, 40] (by decide +kernel) (by decide +kernel)
set_option maxRecDepth 20000 in
theorem gX8_leave_X8_refused : GoodIn wsX8_leave (wsV RX8 108 RX8 yX8_refused wsX8_refused) := goodIn_app (goodIn_of _ (by decide +kernel)) ggX8_leave_X8_refused
set_option maxRecDepth 20000 in
theorem ggX8_leave_X8_remember : GoodIn wsX8_leave wsX8_remember := goodIn_r _ [17, 18, 19, 1, 20, 21, 4, 22, 29, 30, 31, 32, 33, 34, 35, 36, 37, 38, 39, 40] (by decide +kernel) (by decide +kernel)
set_option maxRecDepth 20000 in
theorem gX8_leave_X8_remember : GoodIn wsX8_leave (wsV RX8 174 RX8 yX8_remember wsX8_remember) := goodIn_app (goodIn_of _ (by decide +kernel)) ggX8_leave_X8_remember
set_option maxRecDepth 20000 in
theorem ggX8_leave_X8_leaveOn : GoodIn wsX8_leave wsX8_leaveOn := goodIn_r _ [25, 26, 27, 4, 28] (by decide +kernel) (by decide +kernel)
set_option maxRecDepth 20000 in
theorem gX8_leave_X8_leaveOn : GoodIn wsX8_leave (va_wsS RX8 139 yX8_leaveOn wsX8_leaveOn) := goodIn_app (goodIn_of _ (by decide +kernel)) ggX8_leave_X8_leaveOn
set_option maxRecDepth 20000 in
theorem ggX8_press_X8_isGuest : GoodIn wsX8_press wsX8_isGuest := goodIn_r _ [5, 6, 7, 4, 8] (by decide +kernel) (by decide +kernel)
set_option maxRecDepth 20000 in
theorem gX8_press_X8_isGuest : GoodIn wsX8_press (va_wsS RX8 91 yX8_isGuest wsX8_isGuest) := goodIn_app (goodIn_of _ (by decide +kernel)) ggX8_press_X8_isGuest
set_option maxRecDepth 20000 in
theorem ggX8_press_X8_refused : GoodIn wsX8_press wsX8_refused := goodIn_r _ [12, 13, 50, 51, 52, 53, 54, 55, 56, 57, 58, 59, 60, 61] (by decide +kernel) (by decide +kernel)
set_option maxRecDepth 20000 in
theorem gX8_press_X8_refused : GoodIn wsX8_press (wsV RX8 108 RX8 yX8_refused wsX8_refused) := goodIn_app (goodIn_of _ (by decide +kernel)) ggX8_press_X8_refused
set_option maxRecDepth 20000 in
theorem ggX8_press_X8_remember : GoodIn wsX8_press wsX8_remember := goodIn_r _ [17, 18, 19, 1, 20, 21, 4, 22, 50, 51, 52, 53, 54, 55, 56, 57, 58, 59, 60, 61] (by decide +kernel) (by decide +kernel)
set_option maxRecDepth 20000 in
theorem gX8_press_X8_remember : GoodIn wsX8_press (wsV RX8 174 RX8 yX8_remember wsX8_remember) := goodIn_app (goodIn_of _ (by decide +kernel)) ggX8_press_X8_remember
set_option maxRecDepth 20000 in
theorem ggX8_press_X8_pressOn : GoodIn wsX8_press wsX8_pressOn := goodIn_r _ [25, 26, 27, 4, 28, 29, 30, 31, 32, 33, 34, 35, 36, 37, 38, 39, 40, 41, 42, 43, 44, 45, 46, 47, 48, 49] (by decide +kernel) (by decide +kernel)
set_option maxRecDepth 20000 in
theorem gX8_press_X8_pressOn : GoodIn wsX8_press (va_wsS RX8 133 yX8_pressOn wsX8_pressOn) := goodIn_app (goodIn_of _ (by decide +kernel)) ggX8_press_X8_pressOn
set_option maxRecDepth 20000 in
theorem ggX8_rest_X8_remember : GoodIn wsX8_rest wsX8_remember := goodIn_r _ [7, 8, 9, 2, 10, 11, 6, 12, 25, 26, 27, 28, 29, 30, 31, 32, 33, 34, 35, 36] (by decide +kernel) (by decide +kernel)
set_option maxRecDepth 20000 in
theorem gX8_rest_X8_remember : GoodIn wsX8_rest (wsV RX8 174 RX8 yX8_remember wsX8_remember) := goodIn_app (goodIn_of _ (by decide +kernel)) ggX8_rest_X8_remember
set_option maxRecDepth 20000 in
theorem ggX8_rest_X8_restOn : GoodIn wsX8_rest wsX8_restOn := goodIn_r _ [15, 16, 17, 6, 18, 19, 20, 21, 22, 23, 24] (by decide +kernel) (by decide +kernel)
set_option maxRecDepth 20000 in
theorem gX8_rest_X8_restOn : GoodIn wsX8_rest (va_wsS RX8 136 yX8_restOn wsX8_restOn) := goodIn_app (goodIn_of _ (by decide +kernel)) ggX8_rest_X8_restOn
set_option maxRecDepth 20000 in
theorem ggX8_set_X8_isSetting : GoodIn wsX8_set wsX8_isSetting := goodIn_r _ [5, 6, 7, 8, 9, 10, 4, 11] (by decide +kernel) (by decide +kernel)
set_option maxRecDepth 20000 in
theorem gX8_set_X8_isSetting : GoodIn wsX8_set (va_wsS RX8 142 yX8_isSetting wsX8_isSetting) := goodIn_app (goodIn_of _ (by decide +kernel)) ggX8_set_X8_isSetting
set_option maxRecDepth 20000 in
theorem ggX8_set_X8_refused : GoodIn wsX8_set wsX8_refused := goodIn_r _ [15, 16, 29, 30, 31, 32, 33, 34, 35, 36, 37, 38, 39, 40] (by decide +kernel) (by decide +kernel)
set_option maxRecDepth 20000 in
theorem gX8_set_X8_refused : GoodIn wsX8_set (wsV RX8 108 RX8 yX8_refused wsX8_refused) := goodIn_app (goodIn_of _ (by decide +kernel)) ggX8_set_X8_refused
set_option maxRecDepth 20000 in
theorem ggX8_set_X8_remember : GoodIn wsX8_set wsX8_remember := goodIn_r _ [20, 21, 22, 1, 23, 24, 4, 25, 29, 30, 31, 32, 33, 34, 35, 36, 37, 38, 39, 40] (by decide +kernel) (by decide +kernel)
set_option maxRecDepth 20000 in
theorem gX8_set_X8_remember : GoodIn wsX8_set (wsV RX8 174 RX8 yX8_remember wsX8_remember) := goodIn_app (goodIn_of _ (by decide +kernel)) ggX8_set_X8_remember
set_option maxRecDepth 20000 in
theorem ggX8_set_X8_change : GoodIn wsX8_set wsX8_change := goodIn_r _ [28] (by decide +kernel) (by decide +kernel)
set_option maxRecDepth 20000 in
theorem gX8_set_X8_change : GoodIn wsX8_set (va_wsS RX8 146 yX8_change wsX8_change) := goodIn_app (goodIn_of _ (by decide +kernel)) ggX8_set_X8_change
set_option maxRecDepth 20000 in
theorem ggX8_undo_X8_refused : GoodIn wsX8_undo wsX8_refused := goodIn_r _ [8, 9, 13, 14, 15, 16, 17, 18, 19, 20, 21, 22, 23, 24] (by decide +kernel) (by decide +kernel)
set_option maxRecDepth 20000 in
theorem gX8_undo_X8_refused : GoodIn wsX8_undo (wsV RX8 108 RX8 yX8_refused wsX8_refused) := goodIn_app (goodIn_of _ (by decide +kernel)) ggX8_undo_X8_refused
set_option maxRecDepth 20000 in
theorem ggX8_undo_X8_copyState : GoodIn wsX8_undo wsX8_copyState := goodIn_r _ [12] (by decide +kernel) (by decide +kernel)
set_option maxRecDepth 20000 in
theorem gX8_undo_X8_copyState : GoodIn wsX8_undo (va_wsS RX8 87 yX8_copyState wsX8_copyState) := goodIn_app (goodIn_of _ (by decide +kernel)) ggX8_undo_X8_copyState
set_option maxRecDepth 20000 in
theorem ggX8_why_X8_isGuest : GoodIn wsX8_why wsX8_isGuest := goodIn_r _ [5, 6, 7, 4, 8] (by decide +kernel) (by decide +kernel)
set_option maxRecDepth 20000 in
theorem gX8_why_X8_isGuest : GoodIn wsX8_why (va_wsS RX8 91 yX8_isGuest wsX8_isGuest) := goodIn_app (goodIn_of _ (by decide +kernel)) ggX8_why_X8_isGuest
set_option maxRecDepth 20000 in
theorem ggX8_why_X8_refused : GoodIn wsX8_why wsX8_refused := goodIn_r _ [12, 13, 20, 21, 22, 23, 24, 25, 26, 27, 28, 29, 30, 31] (by decide +kernel) (by decide +kernel)
set_option maxRecDepth 20000 in
theorem gX8_why_X8_refused : GoodIn wsX8_why (wsV RX8 108 RX8 yX8_refused wsX8_refused) := goodIn_app (goodIn_of _ (by decide +kernel)) ggX8_why_X8_refused
set_option maxRecDepth 20000 in
theorem ggX8_why_X8_reason : GoodIn wsX8_why wsX8_reason := goodIn_r _ [16, 17, 18, 4, 19] (by decide +kernel) (by decide +kernel)
set_option maxRecDepth 20000 in
theorem gX8_why_X8_reason : GoodIn wsX8_why (va_wsS RX8 74 yX8_reason wsX8_reason) := goodIn_app (goodIn_of _ (by decide +kernel)) ggX8_why_X8_reason
set_option maxRecDepth 20000 in
theorem ggX8_fewest_X8_in : GoodIn wsX8_fewest wsX8_in := goodIn_r _ [5] (by decide +kernel) (by decide +kernel)
set_option maxRecDepth 20000 in
theorem gX8_fewest_X8_in : GoodIn wsX8_fewest (va_wsS RX8 40 yX8_in wsX8_in) := goodIn_app (goodIn_of _ (by decide +kernel)) ggX8_fewest_X8_in
