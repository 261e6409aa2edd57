set_option maxRecDepth 20000 in
theorem ggX1_goFor_X1_travelTo : GoodIn wsX1_goFor wsX1_travelTo := goodIn_r _ [13, 14, 9, 15, 16, 17, 18, 19, 20, 21, 22, 7, 23, 24, 25, 26, 27, 28, 29, 30, 45, 46, 47, 48, 49, 50, 51, 52, 53, 54, 55, 56, 57, 58, 59, 60] (by decide +kernel) (by decide +kernel)
set_option maxRecDepth 20000 in
theorem gX1_goFor_X1_travelTo : GoodIn wsX1_goFor (wsV RX1 127 RX1 yX1_travelTo wsX1_travelTo) := goodIn_app (goodIn_of _ (by decide +kernel)) ggX1_goFor_X1_travelTo
set_option maxRecDepth 20000 in
theorem ggX1_goFor_X1_letOut : GoodIn wsX1_goFor wsX1_letOut := goodIn_r _ [34, 9, 15, 24, 14, 30, 35, 45, 46, 47, 48, 49, 50, 51, 52, 53, 54, 55, 56, 57, 58, 59, 60] (by decide +kernel) (by decide +kernel)
set_option maxRecDepth 20000 in
theorem gX1_goFor_X1_letOut : GoodIn wsX1_goFor (wsV RX1 130 RX1 yX1_letOut wsX1_letOut) := goodIn_app (goodIn_of _ (by decide +kernel)) ggX1_goFor_X1_letOut
set_option maxRecDepth 20000 in
theorem ggX1_goFor_X1_letIn : GoodIn wsX1_goFor wsX1_letIn := goodIn_r _ [39, 9, 15, 25, 14, 40, 18, 30, 41, 42, 43, 7, 44, 26, 27, 28, 29, 45, 46, 47, 48, 49, 50, 51, 52, 53, 54, 55, 56, 57, 58, 59, 60] (by decide +kernel) (by decide +kernel)
set_option maxRecDepth 20000 in
theorem gX1_goFor_X1_letIn : GoodIn wsX1_goFor (wsV RX1 133 RX1 yX1_letIn wsX1_letIn) := goodIn_app (goodIn_of _ (by decide +kernel)) ggX1_goFor_X1_letIn
set_option maxRecDepth 20000 in
theorem ggX1_travelTo_X1_hopedStop : GoodIn wsX1_travelTo wsX1_hopedStop := goodIn_r _ [12, 2, 3, 13, 14, 20, 21, 22, 23, 24, 25, 26, 27, 28, 29, 30, 31, 32, 33, 34, 35] (by decide +kernel) (by decide +kernel)
set_option maxRecDepth 20000 in
theorem gX1_travelTo_X1_hopedStop : GoodIn wsX1_travelTo (wsV RX1 136 RX1 yX1_hopedStop wsX1_hopedStop) := goodIn_app (goodIn_of _ (by decide +kernel)) ggX1_travelTo_X1_hopedStop
set_option maxRecDepth 20000 in
theorem ggX1_travelTo_X1_addGrudge : GoodIn wsX1_travelTo wsX1_addGrudge := goodIn_r _ [18, 2, 19, 20, 21, 22, 23, 24, 25, 26, 27, 28, 29, 30, 31, 32, 33, 34, 35] (by decide +kernel) (by decide +kernel)
set_option maxRecDepth 20000 in
theorem gX1_travelTo_X1_addGrudge : GoodIn wsX1_travelTo (wsV RX1 139 RX1 yX1_addGrudge wsX1_addGrudge) := goodIn_app (goodIn_of _ (by decide +kernel)) ggX1_travelTo_X1_addGrudge
set_option maxRecDepth 20000 in
theorem ggX1_letIn_X1_weightOfRiders : GoodIn wsX1_letIn wsX1_weightOfRiders := goodIn_r _ [12, 1, 2, 5, 17, 18, 19, 20, 21, 22, 23, 24, 25, 26, 27, 28, 29, 30, 31, 32] (by decide +kernel) (by decide +kernel)
set_option maxRecDepth 20000 in
theorem gX1_letIn_X1_weightOfRiders : GoodIn wsX1_letIn (wsV RX1 77 RX1 yX1_weightOfRiders wsX1_weightOfRiders) := goodIn_app (goodIn_of _ (by decide +kernel)) ggX1_letIn_X1_weightOfRiders
set_option maxRecDepth 20000 in
theorem ggX1_letIn_X1_addGrudge : GoodIn wsX1_letIn wsX1_addGrudge := goodIn_r _ [16, 1, 7, 17, 18, 19, 20, 21, 22, 23, 24, 25, 26, 27, 28, 29, 30, 31, 32] (by decide +kernel) (by decide +kernel)
set_option maxRecDepth 20000 in
theorem gX1_letIn_X1_addGrudge : GoodIn wsX1_letIn (wsV RX1 139 RX1 yX1_addGrudge wsX1_addGrudge) := goodIn_app (goodIn_of _ (by decide +kernel)) ggX1_letIn_X1_addGrudge
set_option maxRecDepth 20000 in
theorem ggX2_digitAt_X2_signAt : GoodIn wsX2_digitAt wsX2_signAt := goodIn_r _ [5, 6, 7, 8, 9] (by decide +kernel) (by decide +kernel)
set_option maxRecDepth 20000 in
theorem gX2_digitAt_X2_signAt : GoodIn wsX2_digitAt (wsV RX2 19 RX2 yX2_signAt wsX2_signAt) := goodIn_app (goodIn_of _ (by decide +kernel)) ggX2_digitAt_X2_signAt
set_option maxRecDepth 20000 in
theorem ggX2_isCommand_X2_signAt : GoodIn wsX2_isCommand wsX2_signAt := goodIn_r _ [5, 6, 7, 11, 12] (by decide +kernel) (by decide +kernel)
set_option maxRecDepth 20000 in
theorem gX2_isCommand_X2_signAt : GoodIn wsX2_isCommand (wsV RX2 19 RX2 yX2_signAt wsX2_signAt) := goodIn_app (goodIn_of _ (by decide +kernel)) ggX2_isCommand_X2_signAt
set_option maxRecDepth 20000 in
theorem ggX2_isCommand_X2_digitsOf : GoodIn wsX2_isCommand wsX2_digitsOf := goodIn_r _ [10] (by decide +kernel) (by decide +kernel)
set_option maxRecDepth 20000 in
theorem gX2_isCommand_X2_digitsOf : GoodIn wsX2_isCommand (va_wsS RX2 23 yX2_digitsOf wsX2_digitsOf) := goodIn_app (goodIn_of _ (by decide +kernel)) ggX2_isCommand_X2_digitsOf
set_option maxRecDepth 20000 in
theorem ggX2_firstError_X2_signAt : GoodIn wsX2_firstError wsX2_signAt := goodIn_r _ [6, 1, 7, 26, 27] (by decide +kernel) (by decide +kernel)
set_option maxRecDepth 20000 in
theorem gX2_firstError_X2_signAt : GoodIn wsX2_firstError (wsV RX2 19 RX2 yX2_signAt wsX2_signAt) := goodIn_app (goodIn_of _ (by decide +kernel)) ggX2_firstError_X2_signAt
set_option maxRecDepth 20000 in
theorem ggX2_firstError_X2_isDigitAllowed : GoodIn wsX2_firstError wsX2_isDigitAllowed := goodIn_r _ [11, 12, 13, 14, 5, 15, 2, 3, 4, 6, 1, 7, 16, 17, 18, 26, 27] (by decide +kernel) (by decide +kernel)
set_option maxRecDepth 20000 in
theorem gX2_firstError_X2_isDigitAllowed : GoodIn wsX2_firstError (wsV RX2 26 RX2 yX2_isDigitAllowed wsX2_isDigitAllowed) := goodIn_app (goodIn_of _ (by decide +kernel)) ggX2_firstError_X2_isDigitAllowed
set_option maxRecDepth 20000 in
theorem ggX2_firstError_X2_isCommand : GoodIn wsX2_firstError wsX2_isCommand := goodIn_r _ [22, 2, 3, 4, 5, 6, 1, 7, 23, 24, 25, 26, 27] (by decide +kernel) (by decide +kernel)
set_option maxRecDepth 20000 in
theorem gX2_firstError_X2_isCommand : GoodIn wsX2_firstError (wsV RX2 30 RX2 yX2_isCommand wsX2_isCommand) := goodIn_app (goodIn_of _ (by decide +kernel)) ggX2_firstError_X2_isCommand
set_option maxRecDepth 20000 in
theorem ggX2_firstError_X2_digitsOf : GoodIn wsX2_firstError wsX2_digitsOf := goodIn_r _ [25] (by decide +kernel) (by decide +kernel)
set_option maxRecDepth 20000 in
theorem gX2_firstError_X2_digitsOf : GoodIn wsX2_firstError (va_wsS RX2 23 yX2_digitsOf wsX2_digitsOf) := goodIn_app (goodIn_of _ (by decide +kernel)) ggX2_firstError_X2_digitsOf
set_option maxRecDepth 20000 in
theorem ggX2_isDigitAllowed_X2_digitAt : GoodIn wsX2_isDigitAllowed wsX2_digitAt := goodIn_r _ [5, 6, 7, 8, 4, 9, 10, 11, 15, 16] (by decide +kernel) (by decide +kernel)
set_option maxRecDepth 20000 in
theorem gX2_isDigitAllowed_X2_digitAt : GoodIn wsX2_isDigitAllowed (wsV RX2 34 RX2 yX2_digitAt wsX2_digitAt) := goodIn_app (goodIn_of _ (by decide +kernel)) ggX2_isDigitAllowed_X2_digitAt
set_option maxRecDepth 20000 in
theorem ggX2_isDigitAllowed_X2_greatestDigit : GoodIn wsX2_isDigitAllowed wsX2_greatestDigit := goodIn_r _ [14] (by decide +kernel) (by decide +kernel)
set_option maxRecDepth 20000 in
theorem gX2_isDigitAllowed_X2_greatestDigit : GoodIn wsX2_isDigitAllowed (va_wsS RX2 37 yX2_greatestDigit wsX2_greatestDigit) := goodIn_app (goodIn_of _ (by decide +kernel)) ggX2_isDigitAllowed_X2_greatestDigit
set_option maxRecDepth 20000 in
theorem ggX3_remember_X3_forgetOldest : GoodIn wsX3_remember wsX3_forgetOldest := goodIn_r _ [10, 2, 1, 41, 42] (by decide +kernel) (by decide +kernel)
set_option maxRecDepth 20000 in
theorem gX3_remember_X3_forgetOldest : GoodIn wsX3_remember (wsV RX3 19 RX3 yX3_forgetOldest wsX3_forgetOldest) := goodIn_app (goodIn_of _ (by decide +kernel)) ggX3_remember_X3_forgetOldest
set_option maxRecDepth 20000 in
theorem ggX3_remember_X1_init : GoodIn wsX3_remember wsX1_init := goodIn_r _ [12, 13, 14, 15, 16, 17, 18, 19, 20, 21, 22, 23, 24, 25, 43, 44, 45, 46, 47, 48, 49, 50, 51, 52, 53, 54, 55, 56, 57, 58] (by decide +kernel) (by decide +kernel)
set_option maxRecDepth 20000 in
theorem gX3_remember_X1_init_n22 : GoodIn wsX3_remember (wsX1_init) := ggX3_remember_X1_init
set_option maxRecDepth 20000 in
theorem ggX3_remember_X1_copyFrom : GoodIn wsX3_remember wsX1_copyFrom := goodIn_r _ [29, 30, 31, 32, 33, 34, 35, 36, 17, 37, 38, 39, 40, 18, 19, 20, 21, 22, 23, 24, 25, 43, 44, 45, 46, 47, 48, 49, 50, 51, 52, 53, 54, 55, 56, 57, 58] (by decide +kernel) (by decide +kernel)
set_option maxRecDepth 20000 in
theorem gX3_remember_X1_copyFrom : GoodIn wsX3_remember (wsV RX3 23 RX1 yX1_copyFrom wsX1_copyFrom) := goodIn_app (goodIn_of _ (by decide +kernel)) ggX3_remember_X1_copyFrom
set_option maxRecDepth 20000 in
theorem ggX3_takeBack_X1_copyFrom : GoodIn wsX3_takeBack wsX1_copyFrom := goodIn_r _ [7, 8, 9, 10, 11, 12, 13, 14, 15, 16, 17, 18, 19, 20, 21, 22, 23, 24, 25, 26, 27, 30, 31, 32, 33, 34, 35, 36, 37, 38, 39, 40, 41, 42, 43, 44, 45] (by decide +kernel) (by decide +kernel)
set_option maxRecDepth 20000 in
theorem gX3_takeBack_X1_copyFrom : GoodIn wsX3_takeBack (wsV RX3 23 RX1 yX1_copyFrom wsX1_copyFrom) := goodIn_app (goodIn_of _ (by decide +kernel)) ggX3_takeBack_X1_copyFrom
set_option maxRecDepth 20000 in
theorem ggX4_succeeds_X1_admit : GoodIn wsX4_succeeds wsX1_admit := goodIn_r _ [5, 6, 7, 8, 9, 10, 11, 12, 13, 14, 15, 16, 4, 17, 18, 19, 20, 21, 22, 23, 24, 121, 122, 123, 124, 125, 126, 127, 128, 129, 130, 131, 132, 133, 134, 135, 136] (by decide +kernel) (by decide +kernel)
set_option maxRecDepth 20000 in
theorem gX4_succeeds_X1_admit : GoodIn wsX4_succeeds (wsV RX4 9 RX1 yX1_admit wsX1_admit) := goodIn_app (goodIn_of _ (by decide +kernel)) ggX4_succeeds_X1_admit
set_option maxRecDepth 20000 in
theorem ggX4_succeeds_X1_pressBy : GoodIn wsX4_succeeds wsX1_pressBy := goodIn_r _ [28, 29, 30, 31, 32, 4, 33, 11, 12, 34, 35, 7, 36, 37, 38, 39, 6, 40, 41, 42, 43, 44, 13, 45, 46, 47, 48, 14, 49, 50, 51, 52, 53, 54, 9, 8, 55, 56, 57, 58, 59, 60, 61, 62, 63, 64, 65, 66, 67, 10, 68, 69, 70, 71, 121, 122, 123, 124, 125, 126, 127, 128, 129, 130, 131, 132, 133, 134, 135, 136] (by decide +kernel) (by decide +kernel)
set_option maxRecDepth 20000 in
theorem gX4_succeeds_X1_pressBy : GoodIn wsX4_succeeds (wsV RX4 15 RX1 yX1_pressBy wsX1_pressBy) := goodIn_app (goodIn_of _ (by decide +kernel)) ggX4_succeeds_X1_pressBy
set_option maxRecDepth 20000 in
theorem ggX4_succeeds_X4_restTimes : GoodIn wsX4_succeeds wsX4_restTimes := goodIn_r _ [75, 76, 77, 78, 4, 79, 49, 6, 12, 121, 122, 123, 124, 125, 126, 127, 128, 129, 130, 131, 132, 133, 134, 135, 136] (by decide +kernel) (by decide +kernel)
set_option maxRecDepth 20000 in
theorem gX4_succeeds_X4_restTimes : GoodIn wsX4_succeeds (va_wsS RX4 19 yX4_restTimes wsX4_restTimes) := goodIn_app (goodIn_of _ (by decide +kernel)) ggX4_succeeds_X4_restTimes
set_option maxRecDepth 20000 in
theorem ggX4_succeeds_X1_dismiss : GoodIn wsX4_succeeds wsX1_dismiss := goodIn_r _ [83, 12, 6, 36, 37, 38, 4, 39, 84, 85, 86, 87, 7, 8, 9, 10, 11, 13, 14, 121, 122, 123, 124, 125, 126, 127, 128, 129, 130, 131, 132, 133, 134, 135, 136] (by decide +kernel) (by decide +kernel)
set_option maxRecDepth 20000 in
theorem gX4_succeeds_X1_dismiss : GoodIn wsX4_succeeds (wsV RX4 25 RX1 yX1_dismiss wsX1_dismiss) := goodIn_app (goodIn_of _ (by decide +kernel)) ggX4_succeeds_X1_dismiss
set_option maxRecDepth 20000 in
theorem ggX4_succeeds_X1_change : GoodIn wsX4_succeeds wsX1_change := goodIn_r _ [91, 34, 92, 93, 4, 94, 95, 96, 97, 98, 99, 121, 122, 123, 124, 125, 126, 127, 128, 129, 130, 131, 132, 133, 134, 135, 136] (by decide +kernel) (by decide +kernel)
set_option maxRecDepth 20000 in
theorem gX4_succeeds_X1_change : GoodIn wsX4_succeeds (wsV RX4 28 RX1 yX1_change wsX1_change) := goodIn_app (goodIn_of _ (by decide +kernel)) ggX4_succeeds_X1_change
set_option maxRecDepth 20000 in
theorem ggX4_succeeds_X1_stateOf : GoodIn wsX4_succeeds wsX1_stateOf := goodIn_r _ [103, 11, 36, 37, 38, 4, 39, 6, 121, 122, 123, 124, 125, 126, 127, 128, 129, 130, 131, 132, 133, 134, 135, 136] (by decide +kernel) (by decide +kernel)
set_option maxRecDepth 20000 in
theorem gX4_succeeds_X1_stateOf : GoodIn wsX4_succeeds (wsV RX4 32 RX1 yX1_stateOf wsX1_stateOf) := goodIn_app (goodIn_of _ (by decide +kernel)) ggX4_succeeds_X1_stateOf
set_option maxRecDepth 20000 in
theorem ggX4_succeeds_X1_isGuest : GoodIn wsX4_succeeds wsX1_isGuest := goodIn_r _ [39, 6, 121, 122, 123, 124, 125, 126, 127, 128, 129, 130, 131, 132, 133, 134, 135, 136] (by decide +kernel) (by decide +kernel)
set_option maxRecDepth 20000 in
theorem gX4_succeeds_X1_isGuest : GoodIn wsX4_succeeds (wsV RX4 35 RX1 yX1_isGuest wsX1_isGuest) := goodIn_app (goodIn_of _ (by decide +kernel)) ggX4_succeeds_X1_isGuest
set_option maxRecDepth 20000 in
theorem ggX4_succeeds_X1_grudgesOf : GoodIn wsX4_succeeds wsX1_grudgesOf := goodIn_r _ [108, 12, 36, 37, 38, 4, 39, 6, 121, 122, 123, 124, 125, 126, 127, 128, 129, 130, 131, 132, 133, 134, 135, 136] (by decide +kernel) (by decide +kernel)
set_option maxRecDepth 20000 in
theorem gX4_succeeds_X1_grudgesOf : GoodIn wsX4_succeeds (wsV RX4 39 RX1 yX1_grudgesOf wsX1_grudgesOf) := goodIn_app (goodIn_of _ (by decide +kernel)) ggX4_succeeds_X1_grudgesOf
