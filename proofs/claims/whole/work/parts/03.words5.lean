set_option maxRecDepth 20000 in
theorem ggX8_fewest_X8_refused : GoodIn wsX8_fewest wsX8_refused := goodIn_r _ [9, 10, 56, 57, 58, 59, 60, 61, 62, 63, 64, 65, 66, 67] (by decide +kernel) (by decide +kernel)
set_option maxRecDepth 20000 in
theorem gX8_fewest_X8_refused : GoodIn wsX8_fewest (wsV RX8 108 RX8 yX8_refused wsX8_refused) := goodIn_app (goodIn_of _ (by decide +kernel)) ggX8_fewest_X8_refused
set_option maxRecDepth 20000 in
theorem ggX8_fewest_X8_fewestRow : GoodIn wsX8_fewest wsX8_fewestRow := goodIn_r _ [14, 15, 16, 17, 4, 18, 19, 20, 21, 22, 23, 24, 25, 2, 3, 5, 26, 27, 28, 29, 30, 31, 32, 33, 34, 35, 36, 37, 38, 39, 40, 41, 42, 43, 44, 45, 46, 47, 48, 49, 50, 51, 52, 53, 54, 55, 56, 57, 58, 59, 60, 61, 62, 63, 64, 65, 66, 67] (by decide +kernel) (by decide +kernel)
set_option maxRecDepth 20000 in
theorem gX8_fewest_X8_fewestRow : GoodIn wsX8_fewest (wsV RX8 149 RX8 yX8_fewestRow wsX8_fewestRow) := goodIn_app (goodIn_of _ (by decide +kernel)) ggX8_fewest_X8_fewestRow
set_option maxRecDepth 20000 in
theorem ggX8_best_X8_fewestRow : GoodIn wsX8_best wsX8_fewestRow := goodIn_r _ [7, 8, 9, 10, 6, 11, 12, 13, 14, 15, 16, 17, 18, 19, 20, 21, 22, 23, 24, 25, 26, 27, 28, 29, 30, 31, 32, 33, 34, 35, 36, 37, 38, 39, 40, 41, 42, 43, 44, 45, 46, 47, 48, 49, 50, 51, 55, 56, 57, 58, 59, 60, 61, 62, 63, 64, 65, 66] (by decide +kernel) (by decide +kernel)
set_option maxRecDepth 20000 in
theorem gX8_best_X8_fewestRow : GoodIn wsX8_best (wsV RX8 149 RX8 yX8_fewestRow wsX8_fewestRow) := goodIn_app (goodIn_of _ (by decide +kernel)) ggX8_best_X8_fewestRow
set_option maxRecDepth 20000 in
theorem ggX8_best_X8_bestOf : GoodIn wsX8_best wsX8_bestOf := goodIn_r _ [54] (by decide +kernel) (by decide +kernel)
set_option maxRecDepth 20000 in
theorem gX8_best_X8_bestOf : GoodIn wsX8_best (va_wsS RX8 152 yX8_bestOf wsX8_bestOf) := goodIn_app (goodIn_of _ (by decide +kernel)) ggX8_best_X8_bestOf
set_option maxRecDepth 20000 in
theorem ggX8_ifPressed_X8_in : GoodIn wsX8_ifPressed wsX8_in := goodIn_r _ [8] (by decide +kernel) (by decide +kernel)
set_option maxRecDepth 20000 in
theorem gX8_ifPressed_X8_in : GoodIn wsX8_ifPressed (va_wsS RX8 40 yX8_in wsX8_in) := goodIn_app (goodIn_of _ (by decide +kernel)) ggX8_ifPressed_X8_in
set_option maxRecDepth 20000 in
theorem ggX8_ifPressed_X8_refused : GoodIn wsX8_ifPressed wsX8_refused := goodIn_r _ [12, 13, 50, 51, 52, 53, 54, 55, 56, 57, 58, 59, 60, 61] (by decide +kernel) (by decide +kernel)
set_option maxRecDepth 20000 in
theorem gX8_ifPressed_X8_refused : GoodIn wsX8_ifPressed (wsV RX8 108 RX8 yX8_refused wsX8_refused) := goodIn_app (goodIn_of _ (by decide +kernel)) ggX8_ifPressed_X8_refused
set_option maxRecDepth 20000 in
theorem ggX8_ifPressed_X8_copyState : GoodIn wsX8_ifPressed wsX8_copyState := goodIn_r _ [16] (by decide +kernel) (by decide +kernel)
set_option maxRecDepth 20000 in
theorem gX8_ifPressed_X8_copyState : GoodIn wsX8_ifPressed (va_wsS RX8 87 yX8_copyState wsX8_copyState) := goodIn_app (goodIn_of _ (by decide +kernel)) ggX8_ifPressed_X8_copyState
set_option maxRecDepth 20000 in
theorem ggX8_ifPressed_X8_isGuest : GoodIn wsX8_ifPressed wsX8_isGuest := goodIn_r _ [19, 5, 6, 7, 8] (by decide +kernel) (by decide +kernel)
set_option maxRecDepth 20000 in
theorem gX8_ifPressed_X8_isGuest : GoodIn wsX8_ifPressed (va_wsS RX8 91 yX8_isGuest wsX8_isGuest) := goodIn_app (goodIn_of _ (by decide +kernel)) ggX8_ifPressed_X8_isGuest
set_option maxRecDepth 20000 in
theorem ggX8_ifPressed_X8_reason : GoodIn wsX8_ifPressed wsX8_reason := goodIn_r _ [22, 23, 24, 7, 25] (by decide +kernel) (by decide +kernel)
set_option maxRecDepth 20000 in
theorem gX8_ifPressed_X8_reason : GoodIn wsX8_ifPressed (va_wsS RX8 74 yX8_reason wsX8_reason) := goodIn_app (goodIn_of _ (by decide +kernel)) ggX8_ifPressed_X8_reason
set_option maxRecDepth 20000 in
theorem ggX8_ifPressed_X8_goes : GoodIn wsX8_ifPressed wsX8_goes := goodIn_r _ [28, 23, 24, 7, 25, 29, 30, 31, 32, 33, 34, 35, 36, 37, 38, 39, 40, 41, 42, 43] (by decide +kernel) (by decide +kernel)
set_option maxRecDepth 20000 in
theorem gX8_ifPressed_X8_goes : GoodIn wsX8_ifPressed (va_wsS RX8 78 yX8_goes wsX8_goes) := goodIn_app (goodIn_of _ (by decide +kernel)) ggX8_ifPressed_X8_goes
set_option maxRecDepth 20000 in
theorem ggX8_ifPressed_X8_allGrudges : GoodIn wsX8_ifPressed wsX8_allGrudges := goodIn_r _ [46, 23, 24, 7, 25] (by decide +kernel) (by decide +kernel)
set_option maxRecDepth 20000 in
theorem gX8_ifPressed_X8_allGrudges : GoodIn wsX8_ifPressed (va_wsS RX8 81 yX8_allGrudges wsX8_allGrudges) := goodIn_app (goodIn_of _ (by decide +kernel)) ggX8_ifPressed_X8_allGrudges
set_option maxRecDepth 20000 in
theorem ggX8_ifPressed_X8_inState : GoodIn wsX8_ifPressed wsX8_inState := goodIn_r _ [49, 23, 24, 7, 25] (by decide +kernel) (by decide +kernel)
set_option maxRecDepth 20000 in
theorem gX8_ifPressed_X8_inState : GoodIn wsX8_ifPressed (va_wsS RX8 84 yX8_inState wsX8_inState) := goodIn_app (goodIn_of _ (by decide +kernel)) ggX8_ifPressed_X8_inState
set_option maxRecDepth 20000 in
theorem ggX8_leftStanding_X8_isGuest : GoodIn wsX8_leftStanding wsX8_isGuest := goodIn_r _ [6, 7, 8, 5, 9] (by decide +kernel) (by decide +kernel)
set_option maxRecDepth 20000 in
theorem gX8_leftStanding_X8_isGuest : GoodIn wsX8_leftStanding (va_wsS RX8 91 yX8_isGuest wsX8_isGuest) := goodIn_app (goodIn_of _ (by decide +kernel)) ggX8_leftStanding_X8_isGuest
set_option maxRecDepth 20000 in
theorem ggX8_leftStanding_X8_refused : GoodIn wsX8_leftStanding wsX8_refused := goodIn_r _ [13, 14, 39, 40, 41, 42, 43, 44, 45, 46, 47, 48, 49, 50] (by decide +kernel) (by decide +kernel)
set_option maxRecDepth 20000 in
theorem gX8_leftStanding_X8_refused : GoodIn wsX8_leftStanding (wsV RX8 108 RX8 yX8_refused wsX8_refused) := goodIn_app (goodIn_of _ (by decide +kernel)) ggX8_leftStanding_X8_refused
set_option maxRecDepth 20000 in
theorem ggX8_leftStanding_X8_of : GoodIn wsX8_leftStanding wsX8_of := goodIn_r _ [17] (by decide +kernel) (by decide +kernel)
set_option maxRecDepth 20000 in
theorem gX8_leftStanding_X8_of : GoodIn wsX8_leftStanding (va_wsS RX8 52 yX8_of wsX8_of) := goodIn_app (goodIn_of _ (by decide +kernel)) ggX8_leftStanding_X8_of
set_option maxRecDepth 20000 in
theorem ggX8_leftStanding_X8_copyState : GoodIn wsX8_leftStanding wsX8_copyState := goodIn_r _ [20] (by decide +kernel) (by decide +kernel)
set_option maxRecDepth 20000 in
theorem gX8_leftStanding_X8_copyState : GoodIn wsX8_leftStanding (va_wsS RX8 87 yX8_copyState wsX8_copyState) := goodIn_app (goodIn_of _ (by decide +kernel)) ggX8_leftStanding_X8_copyState
set_option maxRecDepth 20000 in
theorem ggX8_leftStanding_X8_goes : GoodIn wsX8_leftStanding wsX8_goes := goodIn_r _ [23, 15, 16, 5, 17, 24, 25, 26, 27, 28, 29, 30, 31, 32, 33, 34, 35, 36, 37, 38] (by decide +kernel) (by decide +kernel)
set_option maxRecDepth 20000 in
theorem gX8_leftStanding_X8_goes : GoodIn wsX8_leftStanding (va_wsS RX8 78 yX8_goes wsX8_goes) := goodIn_app (goodIn_of _ (by decide +kernel)) ggX8_leftStanding_X8_goes
set_option maxRecDepth 20000 in
theorem ggX8_commandGuest_X8_pressOn : GoodIn wsX8_commandGuest wsX8_pressOn := goodIn_r _ [5, 6, 7, 4, 8, 9, 10, 11, 12, 13, 14, 15, 16, 17, 18, 19, 20, 21, 22, 23, 24, 25, 26, 27, 28, 29] (by decide +kernel) (by decide +kernel)
set_option maxRecDepth 20000 in
theorem gX8_commandGuest_X8_pressOn : GoodIn wsX8_commandGuest (va_wsS RX8 133 yX8_pressOn wsX8_pressOn) := goodIn_app (goodIn_of _ (by decide +kernel)) ggX8_commandGuest_X8_pressOn
set_option maxRecDepth 20000 in
theorem ggX8_commandGuest_X8_leaveOn : GoodIn wsX8_commandGuest wsX8_leaveOn := goodIn_r _ [32, 9, 10, 4, 11] (by decide +kernel) (by decide +kernel)
set_option maxRecDepth 20000 in
theorem gX8_commandGuest_X8_leaveOn : GoodIn wsX8_commandGuest (va_wsS RX8 139 yX8_leaveOn wsX8_leaveOn) := goodIn_app (goodIn_of _ (by decide +kernel)) ggX8_commandGuest_X8_leaveOn
set_option maxRecDepth 20000 in
theorem ggX8_commandGuest_X8_of : GoodIn wsX8_commandGuest wsX8_of := goodIn_r _ [11] (by decide +kernel) (by decide +kernel)
set_option maxRecDepth 20000 in
theorem gX8_commandGuest_X8_of : GoodIn wsX8_commandGuest (va_wsS RX8 52 yX8_of wsX8_of) := goodIn_app (goodIn_of _ (by decide +kernel)) ggX8_commandGuest_X8_of
set_option maxRecDepth 20000 in
theorem ggX8_command_X8_isFloor : GoodIn wsX8_command wsX8_isFloor := goodIn_r _ [6, 7, 8, 9, 5, 10] (by decide +kernel) (by decide +kernel)
set_option maxRecDepth 20000 in
theorem gX8_command_X8_isFloor : GoodIn wsX8_command (va_wsS RX8 169 yX8_isFloor wsX8_isFloor) := goodIn_app (goodIn_of _ (by decide +kernel)) ggX8_command_X8_isFloor
set_option maxRecDepth 20000 in
theorem ggX8_command_X8_in : GoodIn wsX8_command wsX8_in := goodIn_r _ [10] (by decide +kernel) (by decide +kernel)
set_option maxRecDepth 20000 in
theorem gX8_command_X8_in : GoodIn wsX8_command (va_wsS RX8 40 yX8_in wsX8_in) := goodIn_app (goodIn_of _ (by decide +kernel)) ggX8_command_X8_in
set_option maxRecDepth 20000 in
theorem ggX8_command_X8_comeOn : GoodIn wsX8_command wsX8_comeOn := goodIn_r _ [13, 14, 15, 5, 16] (by decide +kernel) (by decide +kernel)
set_option maxRecDepth 20000 in
theorem gX8_command_X8_comeOn : GoodIn wsX8_command (va_wsS RX8 122 yX8_comeOn wsX8_comeOn) := goodIn_app (goodIn_of _ (by decide +kernel)) ggX8_command_X8_comeOn
set_option maxRecDepth 20000 in
theorem ggX8_command_X8_isGuest : GoodIn wsX8_command wsX8_isGuest := goodIn_r _ [19, 8, 9, 5, 10] (by decide +kernel) (by decide +kernel)
set_option maxRecDepth 20000 in
theorem gX8_command_X8_isGuest : GoodIn wsX8_command (va_wsS RX8 91 yX8_isGuest wsX8_isGuest) := goodIn_app (goodIn_of _ (by decide +kernel)) ggX8_command_X8_isGuest
set_option maxRecDepth 20000 in
theorem ggX8_command_X8_commandGuest : GoodIn wsX8_command wsX8_commandGuest := goodIn_r _ [23, 2, 24, 25, 5, 26, 27, 28, 29, 30, 31, 32, 33, 34, 35, 36, 37, 38, 39, 40, 41, 14, 15, 16, 42, 43, 44, 45, 46, 47, 48, 49, 50, 68, 69, 70, 71, 72, 73, 74, 75, 76, 77, 78, 79] (by decide +kernel) (by decide +kernel)
set_option maxRecDepth 20000 in
theorem gX8_command_X8_commandGuest : GoodIn wsX8_command (wsV RX8 179 RX8 yX8_commandGuest wsX8_commandGuest) := goodIn_app (goodIn_of _ (by decide +kernel)) ggX8_command_X8_commandGuest
set_option maxRecDepth 20000 in
theorem ggX8_command_X8_restOn : GoodIn wsX8_command wsX8_restOn := goodIn_r _ [53, 30, 31, 5, 32, 14, 15, 16, 54, 55, 56] (by decide +kernel) (by decide +kernel)
set_option maxRecDepth 20000 in
theorem gX8_command_X8_restOn : GoodIn wsX8_command (va_wsS RX8 136 yX8_restOn wsX8_restOn) := goodIn_app (goodIn_of _ (by decide +kernel)) ggX8_command_X8_restOn
set_option maxRecDepth 20000 in
theorem ggX8_command_X8_isSetting : GoodIn wsX8_command wsX8_isSetting := goodIn_r _ [59, 1, 60, 61, 8, 9, 5, 10] (by decide +kernel) (by decide +kernel)
set_option maxRecDepth 20000 in
theorem gX8_command_X8_isSetting : GoodIn wsX8_command (va_wsS RX8 142 yX8_isSetting wsX8_isSetting) := goodIn_app (goodIn_of _ (by decide +kernel)) ggX8_command_X8_isSetting
set_option maxRecDepth 20000 in
theorem ggX8_command_X8_change : GoodIn wsX8_command wsX8_change := goodIn_r _ [64] (by decide +kernel) (by decide +kernel)
set_option maxRecDepth 20000 in
theorem gX8_command_X8_change : GoodIn wsX8_command (va_wsS RX8 146 yX8_change wsX8_change) := goodIn_app (goodIn_of _ (by decide +kernel)) ggX8_command_X8_change
set_option maxRecDepth 20000 in
theorem ggX8_command_X8_inState : GoodIn wsX8_command wsX8_inState := goodIn_r _ [67, 30, 31, 5, 32] (by decide +kernel) (by decide +kernel)
set_option maxRecDepth 20000 in
theorem gX8_command_X8_inState : GoodIn wsX8_command (va_wsS RX8 84 yX8_inState wsX8_inState) := goodIn_app (goodIn_of _ (by decide +kernel)) ggX8_command_X8_inState
set_option maxRecDepth 20000 in
theorem ggX8_runScript_X8_in : GoodIn wsX8_runScript wsX8_in := goodIn_r _ [8] (by decide +kernel) (by decide +kernel)
set_option maxRecDepth 20000 in
theorem gX8_runScript_X8_in : GoodIn wsX8_runScript (va_wsS RX8 40 yX8_in wsX8_in) := goodIn_app (goodIn_of _ (by decide +kernel)) ggX8_runScript_X8_in
set_option maxRecDepth 20000 in
theorem ggX8_runScript_X8_refused : GoodIn wsX8_runScript wsX8_refused := goodIn_r _ [12, 13, 83, 84, 85, 86, 87, 88, 89, 90, 91, 92, 93, 94] (by decide +kernel) (by decide +kernel)
set_option maxRecDepth 20000 in
theorem gX8_runScript_X8_refused : GoodIn wsX8_runScript (wsV RX8 108 RX8 yX8_refused wsX8_refused) := goodIn_app (goodIn_of _ (by decide +kernel)) ggX8_runScript_X8_refused
set_option maxRecDepth 20000 in
theorem ggX8_runScript_X8_copyState : GoodIn wsX8_runScript wsX8_copyState := goodIn_r _ [16] (by decide +kernel) (by decide +kernel)
set_option maxRecDepth 20000 in
theorem gX8_runScript_X8_copyState : GoodIn wsX8_runScript (va_wsS RX8 87 yX8_copyState wsX8_copyState) := goodIn_app (goodIn_of _ (by decide +kernel)) ggX8_runScript_X8_copyState
set_option maxRecDepth 20000 in
theorem ggX8_runScript_X8_command : GoodIn wsX8_runScript wsX8_command := goodIn_r _ [20, 21, 4, 22, 23, 7, 24, 25, 5, 6, 8, 26, 27, 28, 29, 30, 31, 32, 33, 34, 35, 36, 37, 38, 39, 40, 41, 42, 43, 44, 45, 46, 47, 48, 49, 50, 51, 52, 53, 54, 55, 56, 57, 58, 59, 60, 61, 62, 63, 64, 65, 66, 67, 68, 69, 70, 71, 72, 73, 74, 75, 76, 77, 78, 79, 80, 81, 82, 83, 84, 85, 86, 87, 88, 89, 90, 91, 92, 93, 94] (by decide +kernel) (by decide +kernel)
set_option maxRecDepth 20000 in
theorem gX8_runScript_X8_command : GoodIn wsX8_runScript (wsV RX8 187 RX8 yX8_command wsX8_command) := goodIn_app (goodIn_of _ (by decide +kernel)) ggX8_runScript_X8_command
set_option maxRecDepth 20000 in
theorem ggX8_turnOf_X8_comeOn : GoodIn wsX8_turnOf wsX8_comeOn := goodIn_r _ [4, 5, 6, 3, 7] (by decide +kernel) (by decide +kernel)
set_option maxRecDepth 20000 in
theorem gX8_turnOf_X8_comeOn : GoodIn wsX8_turnOf (va_wsS RX8 122 yX8_comeOn wsX8_comeOn) := goodIn_app (goodIn_of _ (by decide +kernel)) ggX8_turnOf_X8_comeOn
set_option maxRecDepth 20000 in
theorem ggX8_turnOf_X8_isGuest : GoodIn wsX8_turnOf wsX8_isGuest := goodIn_r _ [10, 11, 12, 3, 13] (by decide +kernel) (by decide +kernel)
set_option maxRecDepth 20000 in
theorem gX8_turnOf_X8_isGuest : GoodIn wsX8_turnOf (va_wsS RX8 91 yX8_isGuest wsX8_isGuest) := goodIn_app (goodIn_of _ (by decide +kernel)) ggX8_turnOf_X8_isGuest
set_option maxRecDepth 20000 in
theorem ggX8_turnOf_X8_leaveOn : GoodIn wsX8_turnOf wsX8_leaveOn := goodIn_r _ [16, 17, 18, 3, 19] (by decide +kernel) (by decide +kernel)
set_option maxRecDepth 20000 in
theorem gX8_turnOf_X8_leaveOn : GoodIn wsX8_turnOf (va_wsS RX8 139 yX8_leaveOn wsX8_leaveOn) := goodIn_app (goodIn_of _ (by decide +kernel)) ggX8_turnOf_X8_leaveOn
set_option maxRecDepth 20000 in
theorem ggX8_turnOf_X8_restOn : GoodIn wsX8_turnOf wsX8_restOn := goodIn_r _ [22, 17, 18, 3, 19, 5, 6, 7, 23, 24, 25] (by decide +kernel) (by decide +kernel)
set_option maxRecDepth 20000 in
theorem gX8_turnOf_X8_restOn : GoodIn wsX8_turnOf (va_wsS RX8 136 yX8_restOn wsX8_restOn) := goodIn_app (goodIn_of _ (by decide +kernel)) ggX8_turnOf_X8_restOn
set_option maxRecDepth 20000 in
theorem ggX8_turnOf_X8_change : GoodIn wsX8_turnOf wsX8_change := goodIn_r _ [28] (by decide +kernel) (by decide +kernel)
set_option maxRecDepth 20000 in
theorem gX8_turnOf_X8_change : GoodIn wsX8_turnOf (va_wsS RX8 146 yX8_change wsX8_change) := goodIn_app (goodIn_of _ (by decide +kernel)) ggX8_turnOf_X8_change
set_option maxRecDepth 20000 in
theorem ggX8_turnOf_X8_pressOn : GoodIn wsX8_turnOf wsX8_pressOn := goodIn_r _ [31, 32, 33, 3, 34, 17, 18, 19, 35, 36, 37, 38, 39, 40, 41, 42, 43, 5, 6, 7, 44, 45, 46, 47, 48, 49] (by decide +kernel) (by decide +kernel)
set_option maxRecDepth 20000 in
theorem gX8_turnOf_X8_pressOn : GoodIn wsX8_turnOf (va_wsS RX8 133 yX8_pressOn wsX8_pressOn) := goodIn_app (goodIn_of _ (by decide +kernel)) ggX8_turnOf_X8_pressOn
set_option maxRecDepth 20000 in
theorem ggX8_simulate_X8_in : GoodIn wsX8_simulate wsX8_in := goodIn_r _ [9] (by decide +kernel) (by decide +kernel)
set_option maxRecDepth 20000 in
theorem gX8_simulate_X8_in : GoodIn wsX8_simulate (va_wsS RX8 40 yX8_in wsX8_in) := goodIn_app (goodIn_of _ (by decide +kernel)) ggX8_simulate_X8_in
set_option maxRecDepth 20000 in
theorem ggX8_simulate_X8_refused : GoodIn wsX8_simulate wsX8_refused := goodIn_r _ [13, 14, 66, 67, 68, 69, 70, 71, 72, 73, 74, 75, 76, 77] (by decide +kernel) (by decide +kernel)
set_option maxRecDepth 20000 in
theorem gX8_simulate_X8_refused : GoodIn wsX8_simulate (wsV RX8 108 RX8 yX8_refused wsX8_refused) := goodIn_app (goodIn_of _ (by decide +kernel)) ggX8_simulate_X8_refused
set_option maxRecDepth 20000 in
theorem ggX8_simulate_X8_copyState : GoodIn wsX8_simulate wsX8_copyState := goodIn_r _ [17] (by decide +kernel) (by decide +kernel)
set_option maxRecDepth 20000 in
theorem gX8_simulate_X8_copyState : GoodIn wsX8_simulate (va_wsS RX8 87 yX8_copyState wsX8_copyState) := goodIn_app (goodIn_of _ (by decide +kernel)) ggX8_simulate_X8_copyState
set_option maxRecDepth 20000 in
theorem ggX8_simulate_X8_turnOf : GoodIn wsX8_simulate wsX8_turnOf := goodIn_r _ [20, 21, 22, 8, 23, 24, 25, 26, 27, 28, 29, 6, 7, 9, 30, 31, 32, 33, 34, 35, 36, 37, 38, 39, 40, 41, 42, 43, 44, 45, 46, 47, 48, 49, 50, 51, 52, 53, 54, 55, 56, 57, 58, 59, 60, 61, 62, 63, 64, 65] (by decide +kernel) (by decide +kernel)
set_option maxRecDepth 20000 in
theorem gX8_simulate_X8_turnOf : GoodIn wsX8_simulate (va_wsS RX8 196 yX8_turnOf wsX8_turnOf) := goodIn_app (goodIn_of _ (by decide +kernel)) ggX8_simulate_X8_turnOf
set_option maxRecDepth 20000 in
theorem ggX8_simulate_X8_allGrudges : GoodIn wsX8_simulate wsX8_allGrudges := goodIn_r _ [41, 33, 34, 8, 35] (by decide +kernel) (by decide +kernel)
set_option maxRecDepth 20000 in
theorem gX8_simulate_X8_allGrudges : GoodIn wsX8_simulate (va_wsS RX8 81 yX8_allGrudges wsX8_allGrudges) := goodIn_app (goodIn_of _ (by decide +kernel)) ggX8_simulate_X8_allGrudges
set_option maxRecDepth 20000 in
theorem ggX8_save_X8_in : GoodIn wsX8_save wsX8_in := goodIn_r _ [7] (by decide +kernel) (by decide +kernel)
set_option maxRecDepth 20000 in
theorem gX8_save_X8_in : GoodIn wsX8_save (va_wsS RX8 40 yX8_in wsX8_in) := goodIn_app (goodIn_of _ (by decide +kernel)) ggX8_save_X8_in
set_option maxRecDepth 20000 in
theorem ggX8_save_X8_refused : GoodIn wsX8_save wsX8_refused := goodIn_r _ [11, 12, 16, 17, 18, 19, 20, 21, 22, 23, 24, 25, 26, 27] (by decide +kernel) (by decide +kernel)
set_option maxRecDepth 20000 in
theorem gX8_save_X8_refused : GoodIn wsX8_save (wsV RX8 108 RX8 yX8_refused wsX8_refused) := goodIn_app (goodIn_of _ (by decide +kernel)) ggX8_save_X8_refused
set_option maxRecDepth 20000 in
theorem ggX8_save_X8_copyState : GoodIn wsX8_save wsX8_copyState := goodIn_r _ [15] (by decide +kernel) (by decide +kernel)
set_option maxRecDepth 20000 in
theorem gX8_save_X8_copyState : GoodIn wsX8_save (va_wsS RX8 87 yX8_copyState wsX8_copyState) := goodIn_app (goodIn_of _ (by decide +kernel)) ggX8_save_X8_copyState
set_option maxRecDepth 20000 in
theorem ggX8_restore_X8_in : GoodIn wsX8_restore wsX8_in := goodIn_r _ [8] (by decide +kernel) (by decide +kernel)
set_option maxRecDepth 20000 in
theorem gX8_restore_X8_in : GoodIn wsX8_restore (va_wsS RX8 40 yX8_in wsX8_in) := goodIn_app (goodIn_of _ (by decide +kernel)) ggX8_restore_X8_in
set_option maxRecDepth 20000 in
theorem ggX8_restore_X8_refused : GoodIn wsX8_restore wsX8_refused := goodIn_r _ [12, 13, 17, 18, 19, 20, 21, 22, 23, 24, 25, 26, 27, 28] (by decide +kernel) (by decide +kernel)
set_option maxRecDepth 20000 in
theorem gX8_restore_X8_refused : GoodIn wsX8_restore (wsV RX8 108 RX8 yX8_refused wsX8_refused) := goodIn_app (goodIn_of _ (by decide +kernel)) ggX8_restore_X8_refused
set_option maxRecDepth 20000 in
theorem ggX8_restore_X8_copyState : GoodIn wsX8_restore wsX8_copyState := goodIn_r _ [16] (by decide +kernel) (by decide +kernel)
set_option maxRecDepth 20000 in
theorem gX8_restore_X8_copyState : GoodIn wsX8_restore (va_wsS RX8 87 yX8_copyState wsX8_copyState) := goodIn_app (goodIn_of _ (by decide +kernel)) ggX8_restore_X8_copyState
