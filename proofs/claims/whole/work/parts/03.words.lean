set_option maxRecDepth 20000 in
theorem ggX1_isSettingValue_X1_isSetting : GoodIn wsX1_isSettingValue wsX1_isSetting := goodIn_r _ [6, 1] (by decide +kernel) (by decide +kernel)
set_option maxRecDepth 20000 in
theorem gX1_isSettingValue_X1_isSetting : GoodIn wsX1_isSettingValue (va_wsS RX1 42 yX1_isSetting wsX1_isSetting) := goodIn_app (goodIn_of _ (by decide +kernel)) ggX1_isSettingValue_X1_isSetting
set_option maxRecDepth 20000 in
theorem ggX1_number_X1_weightOfRiders : GoodIn wsX1_number wsX1_weightOfRiders := goodIn_r _ [12, 1, 13, 14, 24, 25, 26, 27, 28, 29, 30, 31, 32, 33, 34, 35, 36, 37, 38, 39] (by decide +kernel) (by decide +kernel)
set_option maxRecDepth 20000 in
theorem gX1_number_X1_weightOfRiders : GoodIn wsX1_number (wsV RX1 77 RX1 yX1_weightOfRiders wsX1_weightOfRiders) := goodIn_app (goodIn_of _ (by decide +kernel)) ggX1_number_X1_weightOfRiders
set_option maxRecDepth 20000 in
theorem ggX1_number_X1_guestsIn : GoodIn wsX1_number wsX1_guestsIn := goodIn_r _ [18, 1, 13, 24, 25, 26, 27, 28, 29, 30, 31, 32, 33, 34, 35, 36, 37, 38, 39] (by decide +kernel) (by decide +kernel)
set_option maxRecDepth 20000 in
theorem gX1_number_X1_guestsIn : GoodIn wsX1_number (wsV RX1 81 RX1 yX1_guestsIn wsX1_guestsIn) := goodIn_app (goodIn_of _ (by decide +kernel)) ggX1_number_X1_guestsIn
set_option maxRecDepth 20000 in
theorem ggX1_number_X1_allGrudges : GoodIn wsX1_number wsX1_allGrudges := goodIn_r _ [22, 1, 23, 24, 25, 26, 27, 28, 29, 30, 31, 32, 33, 34, 35, 36, 37, 38, 39] (by decide +kernel) (by decide +kernel)
set_option maxRecDepth 20000 in
theorem gX1_number_X1_allGrudges : GoodIn wsX1_number (wsV RX1 85 RX1 yX1_allGrudges wsX1_allGrudges) := goodIn_app (goodIn_of _ (by decide +kernel)) ggX1_number_X1_allGrudges
set_option maxRecDepth 20000 in
theorem ggX1_guestNumber_X1_isGuest : GoodIn wsX1_guestNumber wsX1_isGuest := goodIn_r _ [12, 13, 20, 21, 22, 23, 24, 25, 26, 27, 28, 29, 30, 31, 32, 33, 34, 35] (by decide +kernel) (by decide +kernel)
set_option maxRecDepth 20000 in
theorem gX1_guestNumber_X1_isGuest : GoodIn wsX1_guestNumber (wsV RX1 88 RX1 yX1_isGuest wsX1_isGuest) := goodIn_app (goodIn_of _ (by decide +kernel)) ggX1_guestNumber_X1_isGuest
set_option maxRecDepth 20000 in
theorem ggX1_guestNumber_X1_whereIs : GoodIn wsX1_guestNumber wsX1_whereIs := goodIn_r _ [17, 4, 18, 2, 19, 8, 9, 10, 11, 12, 13, 20, 21, 22, 23, 24, 25, 26, 27, 28, 29, 30, 31, 32, 33, 34, 35] (by decide +kernel) (by decide +kernel)
set_option maxRecDepth 20000 in
theorem gX1_guestNumber_X1_whereIs : GoodIn wsX1_guestNumber (wsV RX1 91 RX1 yX1_whereIs wsX1_whereIs) := goodIn_app (goodIn_of _ (by decide +kernel)) ggX1_guestNumber_X1_whereIs
set_option maxRecDepth 20000 in
theorem ggX1_stateOf_X1_isGuest : GoodIn wsX1_stateOf wsX1_isGuest := goodIn_r _ [6, 7, 8, 9, 10, 11, 12, 13, 14, 15, 16, 17, 18, 19, 20, 21, 22, 23] (by decide +kernel) (by decide +kernel)
set_option maxRecDepth 20000 in
theorem gX1_stateOf_X1_isGuest : GoodIn wsX1_stateOf (wsV RX1 88 RX1 yX1_isGuest wsX1_isGuest) := goodIn_app (goodIn_of _ (by decide +kernel)) ggX1_stateOf_X1_isGuest
set_option maxRecDepth 20000 in
theorem ggX1_grudgesOf_X1_isGuest : GoodIn wsX1_grudgesOf wsX1_isGuest := goodIn_r _ [6, 7, 8, 9, 10, 11, 12, 13, 14, 15, 16, 17, 18, 19, 20, 21, 22, 23] (by decide +kernel) (by decide +kernel)
set_option maxRecDepth 20000 in
theorem gX1_grudgesOf_X1_isGuest : GoodIn wsX1_grudgesOf (wsV RX1 88 RX1 yX1_isGuest wsX1_isGuest) := goodIn_app (goodIn_of _ (by decide +kernel)) ggX1_grudgesOf_X1_isGuest
set_option maxRecDepth 20000 in
theorem ggX1_settingOf_X1_isSetting : GoodIn wsX1_settingOf wsX1_isSetting := goodIn_r _ [5, 6] (by decide +kernel) (by decide +kernel)
set_option maxRecDepth 20000 in
theorem gX1_settingOf_X1_isSetting : GoodIn wsX1_settingOf (va_wsS RX1 42 yX1_isSetting wsX1_isSetting) := goodIn_app (goodIn_of _ (by decide +kernel)) ggX1_settingOf_X1_isSetting
set_option maxRecDepth 20000 in
theorem ggX1_floorSet_X1_belongsTo : GoodIn wsX1_floorSet wsX1_belongsTo := goodIn_r _ [6, 1, 7, 8, 9, 10, 11, 12, 13, 14, 15, 16, 17, 18, 19, 20, 21, 22, 23, 24, 25, 26] (by decide +kernel) (by decide +kernel)
set_option maxRecDepth 20000 in
theorem gX1_floorSet_X1_belongsTo : GoodIn wsX1_floorSet (wsV RX1 94 RX1 yX1_belongsTo wsX1_belongsTo) := goodIn_app (goodIn_of _ (by decide +kernel)) ggX1_floorSet_X1_belongsTo
set_option maxRecDepth 20000 in
theorem ggX1_whereIs_X1_isGuest : GoodIn wsX1_whereIs wsX1_isGuest := goodIn_r _ [9, 10, 11, 12, 13, 14, 15, 16, 17, 18, 19, 20, 21, 22, 23, 24, 25, 26] (by decide +kernel) (by decide +kernel)
set_option maxRecDepth 20000 in
theorem gX1_whereIs_X1_isGuest : GoodIn wsX1_whereIs (wsV RX1 88 RX1 yX1_isGuest wsX1_isGuest) := goodIn_app (goodIn_of _ (by decide +kernel)) ggX1_whereIs_X1_isGuest
set_option maxRecDepth 20000 in
theorem ggX1_areAllHome_X1_guestsIn : GoodIn wsX1_areAllHome wsX1_guestsIn := goodIn_r _ [6, 1, 7, 8, 9, 10, 11, 12, 13, 14, 15, 16, 17, 18, 19, 20, 21, 22, 23] (by decide +kernel) (by decide +kernel)
set_option maxRecDepth 20000 in
theorem gX1_areAllHome_X1_guestsIn : GoodIn wsX1_areAllHome (wsV RX1 81 RX1 yX1_guestsIn wsX1_guestsIn) := goodIn_app (goodIn_of _ (by decide +kernel)) ggX1_areAllHome_X1_guestsIn
set_option maxRecDepth 20000 in
theorem ggX1_admit_X1_isFloor : GoodIn wsX1_admit wsX1_isFloor := goodIn_r _ [13] (by decide +kernel) (by decide +kernel)
set_option maxRecDepth 20000 in
theorem gX1_admit_X1_isFloor : GoodIn wsX1_admit (va_wsS RX1 98 yX1_isFloor wsX1_isFloor) := goodIn_app (goodIn_of _ (by decide +kernel)) ggX1_admit_X1_isFloor
set_option maxRecDepth 20000 in
theorem ggX1_admit_X1_isWeight : GoodIn wsX1_admit wsX1_isWeight := goodIn_r _ [16] (by decide +kernel) (by decide +kernel)
set_option maxRecDepth 20000 in
theorem gX1_admit_X1_isWeight : GoodIn wsX1_admit (va_wsS RX1 101 yX1_isWeight wsX1_isWeight) := goodIn_app (goodIn_of _ (by decide +kernel)) ggX1_admit_X1_isWeight
set_option maxRecDepth 20000 in
theorem ggX1_admit_X1_isFull : GoodIn wsX1_admit wsX1_isFull := goodIn_r _ [20, 1, 21, 22, 23, 24, 25, 26, 27, 28, 29, 30, 31, 32, 33, 34, 35, 36] (by decide +kernel) (by decide +kernel)
set_option maxRecDepth 20000 in
theorem gX1_admit_X1_isFull : GoodIn wsX1_admit (wsV RX1 104 RX1 yX1_isFull wsX1_isFull) := goodIn_app (goodIn_of _ (by decide +kernel)) ggX1_admit_X1_isFull
set_option maxRecDepth 20000 in
theorem ggX1_dismiss_X1_isGuest : GoodIn wsX1_dismiss wsX1_isGuest := goodIn_r _ [7, 2, 19, 20, 21, 22, 23, 24, 25, 26, 27, 28, 29, 30, 31, 32, 33, 34] (by decide +kernel) (by decide +kernel)
set_option maxRecDepth 20000 in
theorem gX1_dismiss_X1_isGuest : GoodIn wsX1_dismiss (wsV RX1 88 RX1 yX1_isGuest wsX1_isGuest) := goodIn_app (goodIn_of _ (by decide +kernel)) ggX1_dismiss_X1_isGuest
set_option maxRecDepth 20000 in
theorem ggX1_dismiss_X1_moveGuest : GoodIn wsX1_dismiss wsX1_moveGuest := goodIn_r _ [11, 12, 13, 14, 15, 16, 1, 17, 18, 3, 4, 5, 6, 7, 2, 19, 20, 21, 22, 23, 24, 25, 26, 27, 28, 29, 30, 31, 32, 33, 34] (by decide +kernel) (by decide +kernel)
set_option maxRecDepth 20000 in
theorem gX1_dismiss_X1_moveGuest : GoodIn wsX1_dismiss (wsV RX1 108 RX1 yX1_moveGuest wsX1_moveGuest) := goodIn_app (goodIn_of _ (by decide +kernel)) ggX1_dismiss_X1_moveGuest
set_option maxRecDepth 20000 in
theorem ggX1_moveGuest_X1_isGuest : GoodIn wsX1_moveGuest wsX1_isGuest := goodIn_r _ [13, 14, 15, 16, 17, 18, 19, 20, 21, 22, 23, 24, 25, 26, 27, 28, 29, 30] (by decide +kernel) (by decide +kernel)
set_option maxRecDepth 20000 in
theorem gX1_moveGuest_X1_isGuest : GoodIn wsX1_moveGuest (wsV RX1 88 RX1 yX1_isGuest wsX1_isGuest) := goodIn_app (goodIn_of _ (by decide +kernel)) ggX1_moveGuest_X1_isGuest
set_option maxRecDepth 20000 in
theorem ggX1_change_X1_isSettingValue : GoodIn wsX1_change wsX1_isSettingValue := goodIn_r _ [5, 6, 7, 8, 9, 4, 10] (by decide +kernel) (by decide +kernel)
set_option maxRecDepth 20000 in
theorem gX1_change_X1_isSettingValue : GoodIn wsX1_change (va_wsS RX1 112 yX1_isSettingValue wsX1_isSettingValue) := goodIn_app (goodIn_of _ (by decide +kernel)) ggX1_change_X1_isSettingValue
set_option maxRecDepth 20000 in
theorem ggX1_reasonOf_X1_isGuest : GoodIn wsX1_reasonOf wsX1_isGuest := goodIn_r _ [10, 11, 12, 13, 14, 15, 16, 17, 18, 19, 20, 21, 22, 23, 24, 25, 26, 27] (by decide +kernel) (by decide +kernel)
set_option maxRecDepth 20000 in
theorem gX1_reasonOf_X1_isGuest : GoodIn wsX1_reasonOf (wsV RX1 88 RX1 yX1_isGuest wsX1_isGuest) := goodIn_app (goodIn_of _ (by decide +kernel)) ggX1_reasonOf_X1_isGuest
set_option maxRecDepth 20000 in
theorem ggX1_goIfWilling_X1_reasonOf : GoodIn wsX1_goIfWilling wsX1_reasonOf := goodIn_r _ [5, 6, 7, 8, 9, 10, 11, 12, 13, 4, 14, 15, 53, 54, 55, 56, 57, 58, 59, 60, 61, 62, 63, 64, 65, 66, 67, 68] (by decide +kernel) (by decide +kernel)
set_option maxRecDepth 20000 in
theorem gX1_goIfWilling_X1_reasonOf : GoodIn wsX1_goIfWilling (wsV RX1 116 RX1 yX1_reasonOf wsX1_reasonOf) := goodIn_app (goodIn_of _ (by decide +kernel)) ggX1_goIfWilling_X1_reasonOf
set_option maxRecDepth 20000 in
theorem ggX1_goIfWilling_X1_goFor : GoodIn wsX1_goIfWilling wsX1_goFor := goodIn_r _ [19, 20, 21, 10, 11, 12, 13, 4, 14, 15, 22, 23, 24, 25, 9, 6, 26, 27, 8, 28, 29, 30, 31, 32, 33, 34, 35, 36, 37, 38, 7, 39, 40, 41, 42, 43, 44, 45, 46, 47, 48, 49, 50, 51, 52, 53, 54, 55, 56, 57, 58, 59, 60, 61, 62, 63, 64, 65, 66, 67, 68] (by decide +kernel) (by decide +kernel)
set_option maxRecDepth 20000 in
theorem gX1_goIfWilling_X1_goFor : GoodIn wsX1_goIfWilling (wsV RX1 119 RX1 yX1_goFor wsX1_goFor) := goodIn_app (goodIn_of _ (by decide +kernel)) ggX1_goIfWilling_X1_goFor
set_option maxRecDepth 20000 in
theorem ggX1_pressBy_X1_reasonOf : GoodIn wsX1_pressBy wsX1_reasonOf := goodIn_r _ [6, 7, 8, 9, 10, 11, 12, 13, 14, 5, 15, 16, 54, 55, 56, 57, 58, 59, 60, 61, 62, 63, 64, 65, 66, 67, 68, 69] (by decide +kernel) (by decide +kernel)
set_option maxRecDepth 20000 in
theorem gX1_pressBy_X1_reasonOf : GoodIn wsX1_pressBy (wsV RX1 116 RX1 yX1_reasonOf wsX1_reasonOf) := goodIn_app (goodIn_of _ (by decide +kernel)) ggX1_pressBy_X1_reasonOf
set_option maxRecDepth 20000 in
theorem ggX1_pressBy_X1_goFor : GoodIn wsX1_pressBy wsX1_goFor := goodIn_r _ [20, 21, 22, 11, 12, 13, 14, 5, 15, 16, 23, 24, 25, 26, 10, 7, 27, 28, 9, 29, 30, 31, 32, 33, 34, 35, 36, 37, 38, 39, 8, 40, 41, 42, 43, 44, 45, 46, 47, 48, 49, 50, 51, 52, 53, 54, 55, 56, 57, 58, 59, 60, 61, 62, 63, 64, 65, 66, 67, 68, 69] (by decide +kernel) (by decide +kernel)
set_option maxRecDepth 20000 in
theorem gX1_pressBy_X1_goFor : GoodIn wsX1_pressBy (wsV RX1 119 RX1 yX1_goFor wsX1_goFor) := goodIn_app (goodIn_of _ (by decide +kernel)) ggX1_pressBy_X1_goFor
set_option maxRecDepth 20000 in
theorem ggX1_standingBehind_X1_isGuest : GoodIn wsX1_standingBehind wsX1_isGuest := goodIn_r _ [7, 8, 57, 58, 59, 60, 61, 62, 63, 64, 65, 66, 67, 68, 69, 70, 71, 72] (by decide +kernel) (by decide +kernel)
set_option maxRecDepth 20000 in
theorem gX1_standingBehind_X1_isGuest : GoodIn wsX1_standingBehind (wsV RX1 88 RX1 yX1_isGuest wsX1_isGuest) := goodIn_app (goodIn_of _ (by decide +kernel)) ggX1_standingBehind_X1_isGuest
set_option maxRecDepth 20000 in
theorem ggX1_standingBehind_X1_goFor : GoodIn wsX1_standingBehind wsX1_goFor := goodIn_r _ [12, 13, 14, 2, 3, 4, 5, 6, 7, 8, 15, 16, 17, 18, 1, 19, 20, 21, 22, 23, 24, 25, 26, 27, 28, 29, 30, 31, 32, 33, 34, 35, 36, 37, 38, 39, 40, 41, 42, 43, 44, 45, 46, 47, 48, 57, 58, 59, 60, 61, 62, 63, 64, 65, 66, 67, 68, 69, 70, 71, 72] (by decide +kernel) (by decide +kernel)
set_option maxRecDepth 20000 in
theorem gX1_standingBehind_X1_goFor : GoodIn wsX1_standingBehind (wsV RX1 119 RX1 yX1_goFor wsX1_goFor) := goodIn_app (goodIn_of _ (by decide +kernel)) ggX1_standingBehind_X1_goFor
set_option maxRecDepth 20000 in
theorem ggX1_standingBehind_X1_floorSet : GoodIn wsX1_standingBehind wsX1_floorSet := goodIn_r _ [52, 8, 53, 54, 55, 6, 56, 19, 29, 28, 2, 57, 58, 59, 60, 61, 62, 63, 64, 65, 66, 67, 68, 69, 70, 71, 72] (by decide +kernel) (by decide +kernel)
set_option maxRecDepth 20000 in
theorem gX1_standingBehind_X1_floorSet : GoodIn wsX1_standingBehind (wsV RX1 123 RX1 yX1_floorSet wsX1_floorSet) := goodIn_app (goodIn_of _ (by decide +kernel)) ggX1_standingBehind_X1_floorSet
set_option maxRecDepth 20000 in
theorem ggX1_goFor_X1_isGuest : GoodIn wsX1_goFor wsX1_isGuest := goodIn_r _ [8, 9, 45, 46, 47, 48, 49, 50, 51, 52, 53, 54, 55, 56, 57, 58, 59, 60] (by decide +kernel) (by decide +kernel)
set_option maxRecDepth 20000 in
theorem gX1_goFor_X1_isGuest : GoodIn wsX1_goFor (wsV RX1 88 RX1 yX1_isGuest wsX1_isGuest) := goodIn_app (goodIn_of _ (by decide +kernel)) ggX1_goFor_X1_isGuest
set_option maxRecDepth 20000 in
theorem ggX1_goFor_X1_travelTo : GoodIn wsX1_goFor wsX1_travelTo := goodIn_r _ [13, 14, 9, 15, 16, 17, 18, 19, 20, 21, 22, 7, 23, 24, 25, 26, 27, 28, 29, 30, 45, 46, 47, 48, 49, 50, 51, 52, 53, 54, 55, 56, 57, 58, 59, 60] (by decide +kernel) (by decide +kernel)
set_option maxRecDepth 20000 in
theorem gX1_goFor_X1_travelTo : GoodIn wsX1_goFor (wsV RX1 127 RX1 yX1_travelTo wsX1_travelTo) := goodIn_app (goodIn_of _ (by decide +kernel)) ggX1_goFor_X1_travelTo
set_option maxRecDepth 20000 in
theorem ggX1_goFor_X1_letOut : GoodIn wsX1_goFor wsX1_letOut := goodIn_r _ [34, 9, 15, 24, 14, 30, 35, 45, 46, 47, 48, 49, 50, 51, 52, 53, 54, 55, 56, 57, 58, 59, 60] (by decide +kernel) (by decide +kernel)
set_option maxRecDepth 20000 in
theorem gX1_goFor_X1_letOut : GoodIn wsX1_goFor (wsV RX1 130 RX1 yX1_letOut wsX1_letOut) := goodIn_app (goodIn_of _ (by decide +kernel)) ggX1_goFor_X1_letOut
set_option maxRecDepth 20000 in
theorem ggX1_goFor_X1_letIn : GoodIn wsX1_goFor wsX1_letIn := goodIn_r _ [39, 9, 15, 25, 14, 40, 18, 30, 41, 42, 43, 7, 44, 26, 27, 28, 29, 45, 46, 47, 48, 49, 50, 51, 52, 53, 54, 55, 56, 57, 58, 59, 60] (by decide +kernel) (by decide +kernel)
set_option maxRecDepth 20000 in
theorem gX1_goFor_X1_letIn : GoodIn wsX1_goFor (wsV RX1 133 RX1 yX1_letIn wsX1_letIn) := goodIn_app (goodIn_of _ (by decide +kernel)) ggX1_goFor_X1_letIn
set_option maxRecDepth 20000 in
theorem ggX1_travelTo_X1_hopedStop : GoodIn wsX1_travelTo wsX1_hopedStop := goodIn_r _ [12, 2, 3, 13, 14, 20, 21, 22, 23, 24, 25, 26, 27, 28, 29, 30, 31, 32, 33, 34, 35] (by decide +kernel) (by decide +kernel)
set_option maxRecDepth 20000 in
theorem gX1_travelTo_X1_hopedStop : GoodIn wsX1_travelTo (wsV RX1 136 RX1 yX1_hopedStop wsX1_hopedStop) := goodIn_app (goodIn_of _ (by decide +kernel)) ggX1_travelTo_X1_hopedStop
set_option maxRecDepth 20000 in
theorem ggX1_travelTo_X1_addGrudge : GoodIn wsX1_travelTo wsX1_addGrudge := goodIn_r _ [18, 2, 19, 20, 21, 22, 23, 24, 25, 26, 27, 28, 29, 30, 31, 32, 33, 34, 35] (by decide +kernel) (by decide +kernel)
set_option maxRecDepth 20000 in
theorem gX1_travelTo_X1_addGrudge : GoodIn wsX1_travelTo (wsV RX1 139 RX1 yX1_addGrudge wsX1_addGrudge) := goodIn_app (goodIn_of _ (by decide +kernel)) ggX1_travelTo_X1_addGrudge
set_option maxRecDepth 20000 in
theorem ggX1_letIn_X1_weightOfRiders : GoodIn wsX1_letIn wsX1_weightOfRiders := goodIn_r _ [12, 1, 2, 5, 17, 18, 19, 20, 21, 22, 23, 24, 25, 26, 27, 28, 29, 30, 31, 32] (by decide +kernel) (by decide +kernel)
set_option maxRecDepth 20000 in
theorem gX1_letIn_X1_weightOfRiders : GoodIn wsX1_letIn (wsV RX1 77 RX1 yX1_weightOfRiders wsX1_weightOfRiders) := goodIn_app (goodIn_of _ (by decide +kernel)) ggX1_letIn_X1_weightOfRiders
set_option maxRecDepth 20000 in
theorem ggX1_letIn_X1_addGrudge : GoodIn wsX1_letIn wsX1_addGrudge := goodIn_r _ [16, 1, 7, 17, 18, 19, 20, 21, 22, 23, 24, 25, 26, 27, 28, 29, 30, 31, 32] (by decide +kernel) (by decide +kernel)
set_option maxRecDepth 20000 in
theorem gX1_letIn_X1_addGrudge : GoodIn wsX1_letIn (wsV RX1 139 RX1 yX1_addGrudge wsX1_addGrudge) := goodIn_app (goodIn_of _ (by decide +kernel)) ggX1_letIn_X1_addGrudge
set_option maxRecDepth 20000 in
theorem ggX2_digitAt_X2_signAt : GoodIn wsX2_digitAt wsX2_signAt := goodIn_r _ [5, 6, 7, 8, 9] (by decide +kernel) (by decide +kernel)
set_option maxRecDepth 20000 in
theorem gX2_digitAt_X2_signAt : GoodIn wsX2_digitAt (wsV RX2 19 RX2 yX2_signAt wsX2_signAt) := goodIn_app (goodIn_of _ (by decide +kernel)) ggX2_digitAt_X2_signAt
set_option maxRecDepth 20000 in
theorem ggX2_isCommand_X2_signAt : GoodIn wsX2_isCommand wsX2_signAt := goodIn_r _ [5, 6, 7, 11, 12] (by decide +kernel) (by decide +kernel)
set_option maxRecDepth 20000 in
theorem gX2_isCommand_X2_signAt : GoodIn wsX2_isCommand (wsV RX2 19 RX2 yX2_signAt wsX2_signAt) := goodIn_app (goodIn_of _ (by decide +kernel)) ggX2_isCommand_X2_signAt
set_option maxRecDepth 20000 in
theorem ggX2_isCommand_X2_digitsOf : GoodIn wsX2_isCommand wsX2_digitsOf := goodIn_r _ [10] (by decide +kernel) (by decide +kernel)
set_option maxRecDepth 20000 in
theorem gX2_isCommand_X2_digitsOf : GoodIn wsX2_isCommand (va_wsS RX2 23 yX2_digitsOf wsX2_digitsOf) := goodIn_app (goodIn_of _ (by decide +kernel)) ggX2_isCommand_X2_digitsOf
set_option maxRecDepth 20000 in
theorem ggX2_firstError_X2_signAt : GoodIn wsX2_firstError wsX2_signAt := goodIn_r _ [6, 1, 7, 26, 27] (by decide +kernel) (by decide +kernel)
set_option maxRecDepth 20000 in
theorem gX2_firstError_X2_signAt : GoodIn wsX2_firstError (wsV RX2 19 RX2 yX2_signAt wsX2_signAt) := goodIn_app (goodIn_of _ (by decide +kernel)) ggX2_firstError_X2_signAt
set_option maxRecDepth 20000 in
theorem ggX2_firstError_X2_isDigitAllowed : GoodIn wsX2_firstError wsX2_isDigitAllowed := goodIn_r _ [11, 12, 13, 14, 5, 15, 2, 3, 4, 6, 1, 7, 16, 17, 18, 26, 27] (by decide +kernel) (by decide +kernel)
set_option maxRecDepth 20000 in
theorem gX2_firstError_X2_isDigitAllowed : GoodIn wsX2_firstError (wsV RX2 26 RX2 yX2_isDigitAllowed wsX2_isDigitAllowed) := goodIn_app (goodIn_of _ (by decide +kernel)) ggX2_firstError_X2_isDigitAllowed
set_option maxRecDepth 20000 in
theorem ggX2_firstError_X2_isCommand : GoodIn wsX2_firstError wsX2_isCommand := goodIn_r _ [22, 2, 3, 4, 5, 6, 1, 7, 23, 24, 25, 26, 27] (by decide +kernel) (by decide +kernel)
set_option maxRecDepth 20000 in
theorem gX2_firstError_X2_isCommand : GoodIn wsX2_firstError (wsV RX2 30 RX2 yX2_isCommand wsX2_isCommand) := goodIn_app (goodIn_of _ (by decide +kernel)) ggX2_firstError_X2_isCommand
set_option maxRecDepth 20000 in
theorem ggX2_firstError_X2_digitsOf : GoodIn wsX2_firstError wsX2_digitsOf := goodIn_r _ [25] (by decide +kernel) (by decide +kernel)
set_option maxRecDepth 20000 in
theorem gX2_firstError_X2_digitsOf : GoodIn wsX2_firstError (va_wsS RX2 23 yX2_digitsOf wsX2_digitsOf) := goodIn_app (goodIn_of _ (by decide +kernel)) ggX2_firstError_X2_digitsOf
set_option maxRecDepth 20000 in
theorem ggX2_isDigitAllowed_X2_digitAt : GoodIn wsX2_isDigitAllowed wsX2_digitAt := goodIn_r _ [5, 6, 7, 8, 4, 9, 10, 11, 15, 16] (by decide +kernel) (by decide +kernel)
set_option maxRecDepth 20000 in
theorem gX2_isDigitAllowed_X2_digitAt : GoodIn wsX2_isDigitAllowed (wsV RX2 34 RX2 yX2_digitAt wsX2_digitAt) := goodIn_app (goodIn_of _ (by decide +kernel)) ggX2_isDigitAllowed_X2_digitAt
set_option maxRecDepth 20000 in
theorem ggX2_isDigitAllowed_X2_greatestDigit : GoodIn wsX2_isDigitAllowed wsX2_greatestDigit := goodIn_r _ [14] (by decide +kernel) (by decide +kernel)
set_option maxRecDepth 20000 in
theorem gX2_isDigitAllowed_X2_greatestDigit : GoodIn wsX2_isDigitAllowed (va_wsS RX2 37 yX2_greatestDigit wsX2_greatestDigit) := goodIn_app (goodIn_of _ (by decide +kernel)) ggX2_isDigitAllowed_X2_greatestDigit
set_option maxRecDepth 20000 in
theorem ggX3_remember_X3_forgetOldest : GoodIn wsX3_remember wsX3_forgetOldest := goodIn_r _ [10, 2, 1, 41, 42] (by decide +kernel) (by decide +kernel)
set_option maxRecDepth 20000 in
theorem gX3_remember_X3_forgetOldest : GoodIn wsX3_remember (wsV RX3 19 RX3 yX3_forgetOldest wsX3_forgetOldest) := goodIn_app (goodIn_of _ (by decide +kernel)) ggX3_remember_X3_forgetOldest
set_option maxRecDepth 20000 in
theorem ggX3_remember_X1_init : GoodIn wsX3_remember wsX1_init := goodIn_r _ [12, 13, 14, 15, 16, 17, 18, 19, 20, 21, 22, 23, 24, 25, 43, 44, 45, 46, 47, 48, 49, 50, 51, 52, 53, 54, 55, 56, 57, 58] (by decide +kernel) (by decide +kernel)
set_option maxRecDepth 20000 in
theorem gX3_remember_X1_init_n22 : GoodIn wsX3_remember (wsX1_init) := ggX3_remember_X1_init
set_option maxRecDepth 20000 in
theorem ggX3_remember_X1_copyFrom : GoodIn wsX3_remember wsX1_copyFrom := goodIn_r _ [29, 30, 31, 32, 33, 34, 35, 36, 17, 37, 38, 39, 40, 18, 19, 20, 21, 22, 23, 24, 25, 43, 44, 45, 46, 47, 48, 49, 50, 51, 52, 53, 54, 55, 56, 57, 58] (by decide +kernel) (by decide +kernel)
set_option maxRecDepth 20000 in
theorem gX3_remember_X1_copyFrom : GoodIn wsX3_remember (wsV RX3 23 RX1 yX1_copyFrom wsX1_copyFrom) := goodIn_app (goodIn_of _ (by decide +kernel)) ggX3_remember_X1_copyFrom
set_option maxRecDepth 20000 in
theorem ggX3_takeBack_X1_copyFrom : GoodIn wsX3_takeBack wsX1_copyFrom := goodIn_r _ [7, 8, 9, 10, 11, 12, 13, 14, 15, 16, 17, 18, 19, 20, 21, 22, 23, 24, 25, 26, 27, 30, 31, 32, 33, 34, 35, 36, 37, 38, 39, 40, 41, 42, 43, 44, 45] (by decide +kernel) (by decide +kernel)
set_option maxRecDepth 20000 in
theorem gX3_takeBack_X1_copyFrom : GoodIn wsX3_takeBack (wsV RX3 23 RX1 yX1_copyFrom wsX1_copyFrom) := goodIn_app (goodIn_of _ (by decide +kernel)) ggX3_takeBack_X1_copyFrom
set_option maxRecDepth 20000 in
theorem ggX4_succeeds_X1_admit : GoodIn wsX4_succeeds wsX1_admit := goodIn_r _ [5, 6, 7, 8, 9, 10, 11, 12, 13, 14, 15, 16, 4, 17, 18, 19, 20, 21, 22, 23, 24, 121, 122, 123, 124, 125, 126, 127, 128, 129, 130, 131, 132, 133, 134, 135, 136] (by decide +kernel) (by decide +kernel)
set_option maxRecDepth 20000 in
theorem gX4_succeeds_X1_admit : GoodIn wsX4_succeeds (wsV RX4 9 RX1 yX1_admit wsX1_admit) := goodIn_app (goodIn_of _ (by decide +kernel)) ggX4_succeeds_X1_admit
set_option maxRecDepth 20000 in
theorem ggX4_succeeds_X1_pressBy : GoodIn wsX4_succeeds wsX1_pressBy := goodIn_r _ [28, 29, 30, 31, 32, 4, 33, 11, 12, 34, 35, 7, 36, 37, 38, 39, 6, 40, 41, 42, 43, 44, 13, 45, 46, 47, 48, 14, 49, 50, 51, 52, 53, 54, 9, 8, 55, 56, 57, 58, 59, 60, 61, 62, 63, 64, 65, 66, 67, 10, 68, 69, 70, 71, 121, 122, 123, 124, 125, 126, 127, 128, 129, 130, 131, 132, 133, 134, 135, 136] (by decide +kernel) (by decide +kernel)
set_option maxRecDepth 20000 in
theorem gX4_succeeds_X1_pressBy : GoodIn wsX4_succeeds (wsV RX4 15 RX1 yX1_pressBy wsX1_pressBy) := goodIn_app (goodIn_of _ (by decide +kernel)) ggX4_succeeds_X1_pressBy
set_option maxRecDepth 20000 in
theorem ggX4_succeeds_X4_restTimes : GoodIn wsX4_succeeds wsX4_restTimes := goodIn_r _ [75, 76, 77, 78, 4, 79, 49, 6, 12, 121, 122, 123, 124, 125, 126, 127, 128, 129, 130, 131, 132, 133, 134, 135, 136] (by decide +kernel) (by decide +kernel)
set_option maxRecDepth 20000 in
theorem gX4_succeeds_X4_restTimes : GoodIn wsX4_succeeds (va_wsS RX4 19 yX4_restTimes wsX4_restTimes) := goodIn_app (goodIn_of _ (by decide +kernel)) ggX4_succeeds_X4_restTimes
set_option maxRecDepth 20000 in
theorem ggX4_succeeds_X1_dismiss : GoodIn wsX4_succeeds wsX1_dismiss := goodIn_r _ [83, 12, 6, 36, 37, 38, 4, 39, 84, 85, 86, 87, 7, 8, 9, 10, 11, 13, 14, 121, 122, 123, 124, 125, 126, 127, 128, 129, 130, 131, 132, 133, 134, 135, 136] (by decide +kernel) (by decide +kernel)
set_option maxRecDepth 20000 in
theorem gX4_succeeds_X1_dismiss : GoodIn wsX4_succeeds (wsV RX4 25 RX1 yX1_dismiss wsX1_dismiss) := goodIn_app (goodIn_of _ (by decide +kernel)) ggX4_succeeds_X1_dismiss
set_option maxRecDepth 20000 in
theorem ggX4_succeeds_X1_change : GoodIn wsX4_succeeds wsX1_change := goodIn_r _ [91, 34, 92, 93, 4, 94, 95, 96, 97, 98, 99, 121, 122, 123, 124, 125, 126, 127, 128, 129, 130, 131, 132, 133, 134, 135, 136] (by decide +kernel) (by decide +kernel)
set_option maxRecDepth 20000 in
theorem gX4_succeeds_X1_change : GoodIn wsX4_succeeds (wsV RX4 28 RX1 yX1_change wsX1_change) := goodIn_app (goodIn_of _ (by decide +kernel)) ggX4_succeeds_X1_change
set_option maxRecDepth 20000 in
theorem ggX4_succeeds_X1_stateOf : GoodIn wsX4_succeeds wsX1_stateOf := goodIn_r _ [103, 11, 36, 37, 38, 4, 39, 6, 121, 122, 123, 124, 125, 126, 127, 128, 129, 130, 131, 132, 133, 134, 135, 136] (by decide +kernel) (by decide +kernel)
set_option maxRecDepth 20000 in
theorem gX4_succeeds_X1_stateOf : GoodIn wsX4_succeeds (wsV RX4 32 RX1 yX1_stateOf wsX1_stateOf) := goodIn_app (goodIn_of _ (by decide +kernel)) ggX4_succeeds_X1_stateOf
set_option maxRecDepth 20000 in
theorem ggX4_succeeds_X1_isGuest : GoodIn wsX4_succeeds wsX1_isGuest := goodIn_r _ [39, 6, 121, 122, 123, 124, 125, 126, 127, 128, 129, 130, 131, 132, 133, 134, 135, 136] (by decide +kernel) (by decide +kernel)
set_option maxRecDepth 20000 in
theorem gX4_succeeds_X1_isGuest : GoodIn wsX4_succeeds (wsV RX4 35 RX1 yX1_isGuest wsX1_isGuest) := goodIn_app (goodIn_of _ (by decide +kernel)) ggX4_succeeds_X1_isGuest
set_option maxRecDepth 20000 in
theorem ggX4_succeeds_X1_grudgesOf : GoodIn wsX4_succeeds wsX1_grudgesOf := goodIn_r _ [108, 12, 36, 37, 38, 4, 39, 6, 121, 122, 123, 124, 125, 126, 127, 128, 129, 130, 131, 132, 133, 134, 135, 136] (by decide +kernel) (by decide +kernel)
set_option maxRecDepth 20000 in
theorem gX4_succeeds_X1_grudgesOf : GoodIn wsX4_succeeds (wsV RX4 39 RX1 yX1_grudgesOf wsX1_grudgesOf) := goodIn_app (goodIn_of _ (by decide +kernel)) ggX4_succeeds_X1_grudgesOf
set_option maxRecDepth 20000 in
theorem ggX4_succeeds_X1_number : GoodIn wsX4_succeeds wsX1_number := goodIn_r _ [112, 6, 35, 49, 44, 29, 50, 63, 68, 69, 70, 4, 71, 11, 10, 113, 114, 115, 116, 117, 118, 119, 120, 12, 121, 122, 123, 124, 125, 126, 127, 128, 129, 130, 131, 132, 133, 134, 135, 136] (by decide +kernel) (by decide +kernel)
set_option maxRecDepth 20000 in
theorem gX4_succeeds_X1_number : GoodIn wsX4_succeeds (wsV RX4 42 RX1 yX1_number wsX1_number) := goodIn_app (goodIn_of _ (by decide +kernel)) ggX4_succeeds_X1_number
set_option maxRecDepth 20000 in
theorem ggX4_restTimes_X1_letAllRest : GoodIn wsX4_restTimes wsX1_letAllRest := goodIn_r _ [5, 6, 7, 8, 9, 10, 11, 12, 13, 14, 15, 16, 17, 18, 19, 20, 21, 22, 23, 24] (by decide +kernel) (by decide +kernel)
set_option maxRecDepth 20000 in
theorem gX4_restTimes_X1_letAllRest : GoodIn wsX4_restTimes (wsV RX4 45 RX1 yX1_letAllRest wsX1_letAllRest) := goodIn_app (goodIn_of _ (by decide +kernel)) ggX4_restTimes_X1_letAllRest
set_option maxRecDepth 20000 in
theorem ggX5_init_X1_init : GoodIn wsX5_init wsX1_init := goodIn_r _ [12, 13, 2, 3, 8, 14, 15, 16, 17, 18, 19, 20, 21, 22, 23, 24, 25, 26, 27, 28, 29, 30, 31, 32, 33, 34, 35, 36, 37, 38] (by decide +kernel) (by decide +kernel)
set_option maxRecDepth 20000 in
theorem gX5_init_X1_init_n11 : GoodIn wsX5_init (wsX1_init) := ggX5_init_X1_init
set_option maxRecDepth 20000 in
theorem ggX5_fewestByRows_X1_copyFrom : GoodIn wsX5_fewestByRows wsX1_copyFrom := goodIn_r _ [6, 7, 8, 9, 10, 11, 12, 13, 14, 15, 16, 17, 18, 19, 20, 21, 22, 23, 24, 25, 26, 95, 96, 97, 98, 99, 100, 101, 102, 103, 104, 105, 106, 107, 108, 109, 110] (by decide +kernel) (by decide +kernel)
set_option maxRecDepth 20000 in
theorem gX5_fewestByRows_X1_copyFrom : GoodIn wsX5_fewestByRows (wsV RX5 25 RX1 yX1_copyFrom wsX1_copyFrom) := goodIn_app (goodIn_of _ (by decide +kernel)) ggX5_fewestByRows_X1_copyFrom
set_option maxRecDepth 20000 in
theorem ggX5_fewestByRows_X1_position : GoodIn wsX5_fewestByRows wsX1_position := goodIn_r _ [30, 8, 7, 23, 24, 95, 96, 97, 98, 99, 100, 101, 102, 103, 104, 105, 106, 107, 108, 109, 110] (by decide +kernel) (by decide +kernel)
set_option maxRecDepth 20000 in
theorem gX5_fewestByRows_X1_position : GoodIn wsX5_fewestByRows (wsV RX5 29 RX1 yX1_position wsX1_position) := goodIn_app (goodIn_of _ (by decide +kernel)) ggX5_fewestByRows_X1_position
set_option maxRecDepth 20000 in
theorem ggX5_fewestByRows_X5_aRowBringsAllHome : GoodIn wsX5_fewestByRows wsX5_aRowBringsAllHome := goodIn_r _ [34, 35, 36, 37, 5, 38, 8, 7, 23, 24, 39, 40, 41, 42, 43, 44, 45, 46, 47, 48, 49, 50, 51, 52, 53, 54, 55, 56, 57, 58, 14, 19, 59, 60, 61, 62, 63, 64, 65, 66, 10, 25, 67, 68, 69, 70, 26, 9, 12, 71, 72, 73, 74, 21, 20, 75, 76, 77, 78, 79, 80, 81, 82, 13, 83, 84, 85, 86, 22, 87, 88, 89, 90, 27, 28, 29, 30, 31, 32, 33, 95, 96, 97, 98, 99, 100, 101, 102, 103, 104, 105, 106, 107, 108, 109, 110] (by decide +kernel) (by decide +kernel)
set_option maxRecDepth 20000 in
theorem gX5_fewestByRows_X5_aRowBringsAllHome : GoodIn wsX5_fewestByRows (va_wsS RX5 33 yX5_aRowBringsAllHome wsX5_aRowBringsAllHome) := goodIn_app (goodIn_of _ (by decide +kernel)) ggX5_fewestByRows_X5_aRowBringsAllHome
set_option maxRecDepth 20000 in
theorem ggX5_aRowBringsAllHome_X1_takePosition : GoodIn wsX5_aRowBringsAllHome wsX1_takePosition := goodIn_r _ [5, 6, 7, 8, 9, 80, 81, 82, 83, 84, 85, 86, 87, 88, 89, 90, 91, 92, 93, 94, 95] (by decide +kernel) (by decide +kernel)
set_option maxRecDepth 20000 in
theorem gX5_aRowBringsAllHome_X1_takePosition : GoodIn wsX5_aRowBringsAllHome (wsV RX5 37 RX1 yX1_takePosition wsX1_takePosition) := goodIn_app (goodIn_of _ (by decide +kernel)) ggX5_aRowBringsAllHome_X1_takePosition
set_option maxRecDepth 20000 in
theorem ggX5_aRowBringsAllHome_X1_areAllHome : GoodIn wsX5_aRowBringsAllHome wsX1_areAllHome := goodIn_r _ [13, 7, 14, 15, 16, 4, 17, 8, 80, 81, 82, 83, 84, 85, 86, 87, 88, 89, 90, 91, 92, 93, 94, 95] (by decide +kernel) (by decide +kernel)
set_option maxRecDepth 20000 in
theorem gX5_aRowBringsAllHome_X1_areAllHome : GoodIn wsX5_aRowBringsAllHome (wsV RX5 41 RX1 yX1_areAllHome wsX1_areAllHome) := goodIn_app (goodIn_of _ (by decide +kernel)) ggX5_aRowBringsAllHome_X1_areAllHome
set_option maxRecDepth 20000 in
theorem ggX5_aRowBringsAllHome_X1_guestCount : GoodIn wsX5_aRowBringsAllHome wsX1_guestCount := goodIn_r _ [21, 7, 80, 81, 82, 83, 84, 85, 86, 87, 88, 89, 90, 91, 92, 93, 94, 95] (by decide +kernel) (by decide +kernel)
set_option maxRecDepth 20000 in
theorem gX5_aRowBringsAllHome_X1_guestCount : GoodIn wsX5_aRowBringsAllHome (wsV RX5 45 RX1 yX1_guestCount wsX1_guestCount) := goodIn_app (goodIn_of _ (by decide +kernel)) ggX5_aRowBringsAllHome_X1_guestCount
set_option maxRecDepth 20000 in
theorem ggX5_aRowBringsAllHome_X1_goIfWilling : GoodIn wsX5_aRowBringsAllHome wsX1_goIfWilling := goodIn_r _ [25, 26, 27, 28, 4, 29, 8, 9, 30, 6, 31, 32, 33, 34, 35, 7, 36, 37, 38, 39, 40, 41, 42, 43, 44, 45, 46, 47, 48, 49, 50, 51, 52, 53, 54, 55, 56, 57, 58, 59, 60, 61, 62, 63, 64, 65, 66, 67, 68, 69, 70, 71, 72, 80, 81, 82, 83, 84, 85, 86, 87, 88, 89, 90, 91, 92, 93, 94, 95] (by decide +kernel) (by decide +kernel)
set_option maxRecDepth 20000 in
theorem gX5_aRowBringsAllHome_X1_goIfWilling : GoodIn wsX5_aRowBringsAllHome (wsV RX5 48 RX1 yX1_goIfWilling wsX1_goIfWilling) := goodIn_app (goodIn_of _ (by decide +kernel)) ggX5_aRowBringsAllHome_X1_goIfWilling
set_option maxRecDepth 20000 in
theorem ggX5_aRowBringsAllHome_X1_position : GoodIn wsX5_aRowBringsAllHome wsX1_position := goodIn_r _ [76, 6, 7, 8, 9, 80, 81, 82, 83, 84, 85, 86, 87, 88, 89, 90, 91, 92, 93, 94, 95] (by decide +kernel) (by decide +kernel)
set_option maxRecDepth 20000 in
theorem gX5_aRowBringsAllHome_X1_position : GoodIn wsX5_aRowBringsAllHome (wsV RX5 29 RX1 yX1_position wsX1_position) := goodIn_app (goodIn_of _ (by decide +kernel)) ggX5_aRowBringsAllHome_X1_position
set_option maxRecDepth 20000 in
theorem ggX5_aRowBringsAllHome_X5_aRowBringsAllHome : GoodIn wsX5_aRowBringsAllHome wsX5_aRowBringsAllHome := goodIn_r _ [0, 1, 2, 3, 4, 5, 6, 7, 8, 9, 10, 11, 12, 13, 14, 15, 16, 17, 18, 19, 20, 21, 22, 23, 24, 25, 26, 27, 28, 29, 30, 31, 32, 33, 34, 35, 36, 37, 38, 39, 40, 41, 42, 43, 44, 45, 46, 47, 48, 49, 50, 51, 52, 53, 54, 55, 56, 57, 58, 59, 60, 61, 62, 63, 64, 65, 66, 67, 68, 69, 70, 71, 72, 73, 74, 75, 76, 77, 78, 79, 80, 81, 82, 83, 84, 85, 86, 87, 88, 89, 90, 91, 92, 93, 94, 95] (by decide +kernel) (by decide +kernel)
set_option maxRecDepth 20000 in
theorem gX5_aRowBringsAllHome_X5_aRowBringsAllHome : GoodIn wsX5_aRowBringsAllHome (va_wsS RX5 33 yX5_aRowBringsAllHome wsX5_aRowBringsAllHome) := goodIn_app (goodIn_of _ (by decide +kernel)) ggX5_aRowBringsAllHome_X5_aRowBringsAllHome
set_option maxRecDepth 20000 in
theorem ggX5_fewestByPositions_X1_copyFrom : GoodIn wsX5_fewestByPositions wsX1_copyFrom := goodIn_r _ [9, 10, 11, 12, 13, 14, 15, 16, 17, 18, 19, 20, 21, 22, 23, 24, 25, 26, 27, 28, 29, 99, 100, 101, 102, 103, 104, 105, 106, 107, 108, 109, 110, 111, 112, 113, 114] (by decide +kernel) (by decide +kernel)
set_option maxRecDepth 20000 in
theorem gX5_fewestByPositions_X1_copyFrom : GoodIn wsX5_fewestByPositions (wsV RX5 25 RX1 yX1_copyFrom wsX1_copyFrom) := goodIn_app (goodIn_of _ (by decide +kernel)) ggX5_fewestByPositions_X1_copyFrom
set_option maxRecDepth 20000 in
theorem ggX5_fewestByPositions_X1_areAllHome : GoodIn wsX5_fewestByPositions wsX1_areAllHome := goodIn_r _ [33, 10, 34, 35, 36, 8, 37, 26, 99, 100, 101, 102, 103, 104, 105, 106, 107, 108, 109, 110, 111, 112, 113, 114] (by decide +kernel) (by decide +kernel)
set_option maxRecDepth 20000 in
theorem gX5_fewestByPositions_X1_areAllHome : GoodIn wsX5_fewestByPositions (wsV RX5 41 RX1 yX1_areAllHome wsX1_areAllHome) := goodIn_app (goodIn_of _ (by decide +kernel)) ggX5_fewestByPositions_X1_areAllHome
set_option maxRecDepth 20000 in
theorem ggX5_fewestByPositions_X1_position : GoodIn wsX5_fewestByPositions wsX1_position := goodIn_r _ [41, 11, 10, 26, 27, 99, 100, 101, 102, 103, 104, 105, 106, 107, 108, 109, 110, 111, 112, 113, 114] (by decide +kernel) (by decide +kernel)
set_option maxRecDepth 20000 in
theorem gX5_fewestByPositions_X1_position : GoodIn wsX5_fewestByPositions (wsV RX5 29 RX1 yX1_position wsX1_position) := goodIn_app (goodIn_of _ (by decide +kernel)) ggX5_fewestByPositions_X1_position
set_option maxRecDepth 20000 in
theorem ggX5_fewestByPositions_X5_keepIfNew : GoodIn wsX5_fewestByPositions wsX5_keepIfNew := goodIn_r _ [46, 2, 4, 3, 95, 96, 97, 98] (by decide +kernel) (by decide +kernel)
set_option maxRecDepth 20000 in
theorem gX5_fewestByPositions_X5_keepIfNew : GoodIn wsX5_fewestByPositions (wsV RX5 56 RX5 yX5_keepIfNew wsX5_keepIfNew) := goodIn_app (goodIn_of _ (by decide +kernel)) ggX5_fewestByPositions_X5_keepIfNew
set_option maxRecDepth 20000 in
theorem ggX5_fewestByPositions_X1_guestCount : GoodIn wsX5_fewestByPositions wsX1_guestCount := goodIn_r _ [50, 10, 99, 100, 101, 102, 103, 104, 105, 106, 107, 108, 109, 110, 111, 112, 113, 114] (by decide +kernel) (by decide +kernel)
set_option maxRecDepth 20000 in
theorem gX5_fewestByPositions_X1_guestCount : GoodIn wsX5_fewestByPositions (wsV RX5 45 RX1 yX1_guestCount wsX1_guestCount) := goodIn_app (goodIn_of _ (by decide +kernel)) ggX5_fewestByPositions_X1_guestCount
set_option maxRecDepth 20000 in
theorem ggX5_fewestByPositions_X1_takePosition : GoodIn wsX5_fewestByPositions wsX1_takePosition := goodIn_r _ [54, 11, 10, 26, 27, 99, 100, 101, 102, 103, 104, 105, 106, 107, 108, 109, 110, 111, 112, 113, 114] (by decide +kernel) (by decide +kernel)
set_option maxRecDepth 20000 in
theorem gX5_fewestByPositions_X1_takePosition : GoodIn wsX5_fewestByPositions (wsV RX5 37 RX1 yX1_takePosition wsX1_takePosition) := goodIn_app (goodIn_of _ (by decide +kernel)) ggX5_fewestByPositions_X1_takePosition
set_option maxRecDepth 20000 in
theorem ggX5_fewestByPositions_X1_goIfWilling : GoodIn wsX5_fewestByPositions wsX1_goIfWilling := goodIn_r _ [58, 59, 60, 61, 8, 62, 26, 27, 17, 11, 22, 63, 64, 65, 66, 10, 67, 68, 69, 70, 13, 28, 71, 72, 73, 74, 29, 12, 15, 75, 76, 77, 78, 24, 23, 79, 80, 81, 82, 83, 84, 85, 86, 16, 87, 88, 89, 90, 25, 91, 92, 93, 94, 99, 100, 101, 102, 103, 104, 105, 106, 107, 108, 109, 110, 111, 112, 113, 114] (by decide +kernel) (by decide +kernel)
set_option maxRecDepth 20000 in
theorem gX5_fewestByPositions_X1_goIfWilling : GoodIn wsX5_fewestByPositions (wsV RX5 48 RX1 yX1_goIfWilling wsX1_goIfWilling) := goodIn_app (goodIn_of _ (by decide +kernel)) ggX5_fewestByPositions_X1_goIfWilling
set_option maxRecDepth 20000 in
theorem ggX5_bestPress_X5_fewestByPositions : GoodIn wsX5_bestPress wsX5_fewestByPositions := goodIn_r _ [6, 1, 7, 8, 9, 10, 11, 12, 13, 14, 15, 16, 17, 18, 19, 20, 21, 22, 23, 24, 25, 26, 27, 28, 29, 30, 31, 32, 33, 34, 35, 36, 37, 38, 39, 40, 41, 42, 43, 44, 45, 46, 47, 48, 49, 5, 50, 51, 52, 53, 54, 55, 56, 57, 58, 59, 60, 61, 62, 63, 64, 65, 66, 67, 68, 69, 70, 71, 72, 73, 74, 75, 76, 77, 78, 79, 80, 81, 82, 83, 84, 85, 86, 87, 88, 89, 90, 91, 92, 93, 94, 95, 96, 97, 98, 102, 103, 104, 105, 106, 107, 108, 109, 110, 111, 112, 113, 114, 115, 116, 117, 118, 119, 120, 121] (by decide +kernel) (by decide +kernel)
set_option maxRecDepth 20000 in
theorem gX5_bestPress_X5_fewestByPositions : GoodIn wsX5_bestPress (wsV RX5 60 RX5 yX5_fewestByPositions wsX5_fewestByPositions) := goodIn_app (goodIn_of _ (by decide +kernel)) ggX5_bestPress_X5_fewestByPositions
set_option maxRecDepth 20000 in
theorem ggX5_bestPress_X1_copyFrom : GoodIn wsX5_bestPress wsX1_copyFrom := goodIn_r _ [14, 15, 16, 17, 18, 19, 20, 21, 22, 23, 24, 25, 26, 27, 28, 29, 30, 31, 32, 33, 34, 106, 107, 108, 109, 110, 111, 112, 113, 114, 115, 116, 117, 118, 119, 120, 121] (by decide +kernel) (by decide +kernel)
set_option maxRecDepth 20000 in
theorem gX5_bestPress_X1_copyFrom : GoodIn wsX5_bestPress (wsV RX5 25 RX1 yX1_copyFrom wsX1_copyFrom) := goodIn_app (goodIn_of _ (by decide +kernel)) ggX5_bestPress_X1_copyFrom
set_option maxRecDepth 20000 in
theorem ggX5_bestPress_X1_position : GoodIn wsX5_bestPress wsX1_position := goodIn_r _ [46, 16, 15, 31, 32, 106, 107, 108, 109, 110, 111, 112, 113, 114, 115, 116, 117, 118, 119, 120, 121] (by decide +kernel) (by decide +kernel)
set_option maxRecDepth 20000 in
theorem gX5_bestPress_X1_position : GoodIn wsX5_bestPress (wsV RX5 29 RX1 yX1_position wsX1_position) := goodIn_app (goodIn_of _ (by decide +kernel)) ggX5_bestPress_X1_position
set_option maxRecDepth 20000 in
theorem ggX5_bestPress_X1_guestCount : GoodIn wsX5_bestPress wsX1_guestCount := goodIn_r _ [54, 15, 106, 107, 108, 109, 110, 111, 112, 113, 114, 115, 116, 117, 118, 119, 120, 121] (by decide +kernel) (by decide +kernel)
set_option maxRecDepth 20000 in
theorem gX5_bestPress_X1_guestCount : GoodIn wsX5_bestPress (wsV RX5 45 RX1 yX1_guestCount wsX1_guestCount) := goodIn_app (goodIn_of _ (by decide +kernel)) ggX5_bestPress_X1_guestCount
set_option maxRecDepth 20000 in
theorem ggX5_bestPress_X1_takePosition : GoodIn wsX5_bestPress wsX1_takePosition := goodIn_r _ [58, 16, 15, 31, 32, 106, 107, 108, 109, 110, 111, 112, 113, 114, 115, 116, 117, 118, 119, 120, 121] (by decide +kernel) (by decide +kernel)
set_option maxRecDepth 20000 in
theorem gX5_bestPress_X1_takePosition : GoodIn wsX5_bestPress (wsV RX5 37 RX1 yX1_takePosition wsX1_takePosition) := goodIn_app (goodIn_of _ (by decide +kernel)) ggX5_bestPress_X1_takePosition
set_option maxRecDepth 20000 in
theorem ggX5_bestPress_X1_goIfWilling : GoodIn wsX5_bestPress wsX1_goIfWilling := goodIn_r _ [62, 63, 64, 65, 13, 66, 31, 32, 22, 16, 27, 67, 68, 69, 70, 15, 71, 72, 73, 74, 18, 33, 75, 76, 77, 78, 34, 17, 20, 79, 80, 81, 82, 29, 28, 83, 84, 85, 86, 87, 88, 89, 90, 21, 91, 92, 93, 94, 30, 95, 96, 97, 98, 106, 107, 108, 109, 110, 111, 112, 113, 114, 115, 116, 117, 118, 119, 120, 121] (by decide +kernel) (by decide +kernel)
set_option maxRecDepth 20000 in
theorem gX5_bestPress_X1_goIfWilling : GoodIn wsX5_bestPress (wsV RX5 48 RX1 yX1_goIfWilling wsX1_goIfWilling) := goodIn_app (goodIn_of _ (by decide +kernel)) ggX5_bestPress_X1_goIfWilling
set_option maxRecDepth 20000 in
theorem ggX5_bestPress_X5_aRowBringsAllHome : GoodIn wsX5_bestPress wsX5_aRowBringsAllHome := goodIn_r _ [101, 55, 56, 57, 13, 58, 16, 15, 31, 32, 35, 36, 37, 38, 39, 40, 41, 42, 51, 52, 53, 54, 59, 60, 61, 62, 63, 64, 65, 66, 22, 27, 67, 68, 69, 70, 71, 72, 73, 74, 18, 33, 75, 76, 77, 78, 34, 17, 20, 79, 80, 81, 82, 29, 28, 83, 84, 85, 86, 87, 88, 89, 90, 21, 91, 92, 93, 94, 30, 95, 96, 97, 98, 43, 44, 45, 46, 99, 100, 5, 106, 107, 108, 109, 110, 111, 112, 113, 114, 115, 116, 117, 118, 119, 120, 121] (by decide +kernel) (by decide +kernel)
set_option maxRecDepth 20000 in
theorem gX5_bestPress_X5_aRowBringsAllHome : GoodIn wsX5_bestPress (va_wsS RX5 33 yX5_aRowBringsAllHome wsX5_aRowBringsAllHome) := goodIn_app (goodIn_of _ (by decide +kernel)) ggX5_bestPress_X5_aRowBringsAllHome
set_option maxRecDepth 20000 in
theorem ggX6_take_X1_admit : GoodIn wsX6_take wsX1_admit := goodIn_r _ [5, 6, 7, 8, 9, 10, 11, 12, 13, 14, 15, 16, 4, 17, 18, 19, 20, 21, 22, 23, 24, 96, 97, 98, 99, 100, 101, 102, 103, 104, 105, 106, 107, 108, 109, 110, 111] (by decide +kernel) (by decide +kernel)
set_option maxRecDepth 20000 in
theorem gX6_take_X1_admit : GoodIn wsX6_take (wsV RX6 7 RX1 yX1_admit wsX1_admit) := goodIn_app (goodIn_of _ (by decide +kernel)) ggX6_take_X1_admit
set_option maxRecDepth 20000 in
theorem ggX6_take_X1_dismiss : GoodIn wsX6_take wsX1_dismiss := goodIn_r _ [28, 12, 6, 29, 30, 31, 4, 32, 33, 34, 35, 36, 7, 8, 9, 10, 11, 13, 14, 96, 97, 98, 99, 100, 101, 102, 103, 104, 105, 106, 107, 108, 109, 110, 111] (by decide +kernel) (by decide +kernel)
set_option maxRecDepth 20000 in
theorem gX6_take_X1_dismiss : GoodIn wsX6_take (wsV RX6 13 RX1 yX1_dismiss wsX1_dismiss) := goodIn_app (goodIn_of _ (by decide +kernel)) ggX6_take_X1_dismiss
set_option maxRecDepth 20000 in
theorem ggX6_take_X1_letAllRest : GoodIn wsX6_take wsX1_letAllRest := goodIn_r _ [40, 41, 6, 12, 96, 97, 98, 99, 100, 101, 102, 103, 104, 105, 106, 107, 108, 109, 110, 111] (by decide +kernel) (by decide +kernel)
set_option maxRecDepth 20000 in
theorem gX6_take_X1_letAllRest : GoodIn wsX6_take (wsV RX6 17 RX1 yX1_letAllRest wsX1_letAllRest) := goodIn_app (goodIn_of _ (by decide +kernel)) ggX6_take_X1_letAllRest
set_option maxRecDepth 20000 in
theorem ggX6_take_X1_change : GoodIn wsX6_take wsX1_change := goodIn_r _ [45, 46, 47, 48, 4, 49, 50, 51, 52, 53, 54, 96, 97, 98, 99, 100, 101, 102, 103, 104, 105, 106, 107, 108, 109, 110, 111] (by decide +kernel) (by decide +kernel)
set_option maxRecDepth 20000 in
theorem gX6_take_X1_change : GoodIn wsX6_take (wsV RX6 20 RX1 yX1_change wsX1_change) := goodIn_app (goodIn_of _ (by decide +kernel)) ggX6_take_X1_change
set_option maxRecDepth 20000 in
theorem ggX6_take_X1_pressBy : GoodIn wsX6_take wsX1_pressBy := goodIn_r _ [58, 59, 60, 61, 62, 4, 63, 11, 12, 46, 64, 7, 29, 30, 31, 32, 6, 65, 66, 67, 68, 69, 13, 70, 71, 72, 73, 14, 41, 74, 75, 76, 77, 78, 9, 8, 79, 80, 81, 82, 83, 84, 85, 86, 87, 88, 89, 90, 91, 10, 92, 93, 94, 95, 96, 97, 98, 99, 100, 101, 102, 103, 104, 105, 106, 107, 108, 109, 110, 111] (by decide +kernel) (by decide +kernel)
set_option maxRecDepth 20000 in
theorem gX6_take_X1_pressBy : GoodIn wsX6_take (wsV RX6 24 RX1 yX1_pressBy wsX1_pressBy) := goodIn_app (goodIn_of _ (by decide +kernel)) ggX6_take_X1_pressBy
set_option maxRecDepth 20000 in
theorem ggX7_init_X2_init : GoodIn wsX7_init wsX2_init := goodIn_r _ [23, 24, 2, 3, 25, 26, 52, 53] (by decide +kernel) (by decide +kernel)
set_option maxRecDepth 20000 in
theorem gX7_init_X2_init_n9 : GoodIn wsX7_init (wsX2_init) := ggX7_init_X2_init
set_option maxRecDepth 20000 in
theorem ggX7_init_X3_init : GoodIn wsX7_init wsX3_init := goodIn_r _ [28, 29, 2, 3, 30, 31, 60, 61] (by decide +kernel) (by decide +kernel)
set_option maxRecDepth 20000 in
theorem gX7_init_X3_init_n18 : GoodIn wsX7_init (wsX3_init) := ggX7_init_X3_init
set_option maxRecDepth 20000 in
theorem ggX7_init_X5_init : GoodIn wsX7_init wsX5_init := goodIn_r _ [33, 34, 2, 3, 35, 18, 19, 36, 37, 38, 39, 40, 41, 42, 43, 44, 45, 46, 47, 48, 49, 50, 51, 66, 67, 68, 69, 70, 71, 72, 73, 74, 75, 76, 77, 78, 79, 80, 81, 62, 63, 64, 65] (by decide +kernel) (by decide +kernel)
set_option maxRecDepth 20000 in
theorem gX7_init_X5_init_n25 : GoodIn wsX7_init (wsX5_init) := ggX7_init_X5_init
set_option maxRecDepth 20000 in
theorem ggX7_init_X1_init : GoodIn wsX7_init wsX1_init := goodIn_r _ [41, 42, 2, 3, 37, 43, 44, 45, 46, 47, 48, 49, 50, 51, 66, 67, 68, 69, 70, 71, 72, 73, 74, 75, 76, 77, 78, 79, 80, 81] (by decide +kernel) (by decide +kernel)
set_option maxRecDepth 20000 in
theorem gX7_init_X1_init_n36 : GoodIn wsX7_init (wsX1_init) := ggX7_init_X1_init
set_option maxRecDepth 20000 in
theorem ggX7_append_X2_isFull : GoodIn wsX7_append wsX2_isFull := goodIn_r _ [10, 11, 12, 23, 24] (by decide +kernel) (by decide +kernel)
set_option maxRecDepth 20000 in
theorem gX7_append_X2_isFull : GoodIn wsX7_append (wsV RX7 51 RX2 yX2_isFull wsX2_isFull) := goodIn_app (goodIn_of _ (by decide +kernel)) ggX7_append_X2_isFull
set_option maxRecDepth 20000 in
theorem ggX7_append_X2_add : GoodIn wsX7_append wsX2_add := goodIn_r _ [16, 11, 12, 23, 24] (by decide +kernel) (by decide +kernel)
set_option maxRecDepth 20000 in
theorem gX7_append_X2_add : GoodIn wsX7_append (wsV RX7 60 RX2 yX2_add wsX2_add) := goodIn_app (goodIn_of _ (by decide +kernel)) ggX7_append_X2_add
set_option maxRecDepth 20000 in
theorem ggX7_clearText_X2_empty : GoodIn wsX7_clearText wsX2_empty := goodIn_r _ [6, 7, 14, 15] (by decide +kernel) (by decide +kernel)
set_option maxRecDepth 20000 in
theorem gX7_clearText_X2_empty : GoodIn wsX7_clearText (wsV RX7 64 RX2 yX2_empty wsX2_empty) := goodIn_app (goodIn_of _ (by decide +kernel)) ggX7_clearText_X2_empty
set_option maxRecDepth 20000 in
theorem ggX7_errorPosition_X2_firstError : GoodIn wsX7_errorPosition wsX2_firstError := goodIn_r _ [6, 7, 8, 9, 10, 5, 11, 12, 13, 14, 15, 16, 17, 18, 19, 20, 21, 22, 23, 24, 25, 26, 27, 28, 29, 30, 37, 38] (by decide +kernel) (by decide +kernel)
set_option maxRecDepth 20000 in
theorem gX7_errorPosition_X2_firstError : GoodIn wsX7_errorPosition (wsV RX7 68 RX2 yX2_firstError wsX2_firstError) := goodIn_app (goodIn_of _ (by decide +kernel)) ggX7_errorPosition_X2_firstError
set_option maxRecDepth 20000 in
theorem ggX7_load_X2_firstError : GoodIn wsX7_load wsX2_firstError := goodIn_r _ [14, 15, 16, 17, 18, 13, 19, 20, 21, 22, 23, 24, 25, 26, 27, 28, 29, 30, 31, 32, 33, 34, 35, 36, 37, 38, 229, 230] (by decide +kernel) (by decide +kernel)
set_option maxRecDepth 20000 in
theorem gX7_load_X2_firstError : GoodIn wsX7_load (wsV RX7 68 RX2 yX2_firstError wsX2_firstError) := goodIn_app (goodIn_of _ (by decide +kernel)) ggX7_load_X2_firstError
set_option maxRecDepth 20000 in
theorem ggX7_load_X1_init : GoodIn wsX7_load wsX1_init := goodIn_r _ [40, 41, 42, 43, 44, 45, 46, 47, 48, 49, 50, 51, 52, 53, 213, 214, 215, 216, 217, 218, 219, 220, 221, 222, 223, 224, 225, 226, 227, 228] (by decide +kernel) (by decide +kernel)
set_option maxRecDepth 20000 in
theorem gX7_load_X1_init_n36 : GoodIn wsX7_load (wsX1_init) := ggX7_load_X1_init
set_option maxRecDepth 20000 in
theorem ggX7_load_X3_forgetAll : GoodIn wsX7_load wsX3_forgetAll := goodIn_r _ [58, 59, 231, 232] (by decide +kernel) (by decide +kernel)
set_option maxRecDepth 20000 in
theorem gX7_load_X3_forgetAll : GoodIn wsX7_load (wsV RX7 73 RX3 yX3_forgetAll wsX3_forgetAll) := goodIn_app (goodIn_of _ (by decide +kernel)) ggX7_load_X3_forgetAll
set_option maxRecDepth 20000 in
theorem ggX7_load_X2_size : GoodIn wsX7_load wsX2_size := goodIn_r _ [63, 15, 229, 230] (by decide +kernel) (by decide +kernel)
set_option maxRecDepth 20000 in
theorem gX7_load_X2_size : GoodIn wsX7_load (wsV RX7 76 RX2 yX2_size wsX2_size) := goodIn_app (goodIn_of _ (by decide +kernel)) ggX7_load_X2_size
set_option maxRecDepth 20000 in
theorem ggX7_load_X2_isCommand : GoodIn wsX7_load wsX2_isCommand := goodIn_r _ [35, 16, 17, 18, 13, 19, 15, 20, 36, 37, 38, 229, 230] (by decide +kernel) (by decide +kernel)
set_option maxRecDepth 20000 in
theorem gX7_load_X2_isCommand : GoodIn wsX7_load (wsV RX7 79 RX2 yX2_isCommand wsX2_isCommand) := goodIn_app (goodIn_of _ (by decide +kernel)) ggX7_load_X2_isCommand
set_option maxRecDepth 20000 in
theorem ggX7_load_X7_doCommand : GoodIn wsX7_load wsX7_doCommand := goodIn_r _ [69, 3, 7, 70, 71, 26, 27, 13, 28, 16, 17, 18, 19, 15, 20, 72, 73, 74, 75, 6, 76, 77, 46, 47, 48, 49, 50, 51, 52, 53, 78, 79, 80, 81, 82, 83, 84, 85, 86, 87, 88, 89, 90, 91, 92, 93, 94, 95, 45, 96, 97, 98, 99, 100, 101, 102, 103, 104, 105, 106, 107, 108, 109, 110, 111, 112, 113, 114, 115, 116, 117, 118, 119, 120, 121, 122, 123, 124, 125, 126, 127, 128, 129, 130, 131, 132, 133, 134, 135, 136, 137, 138, 139, 140, 141, 142, 143, 144, 145, 146, 147, 148, 149, 150, 151, 152, 153, 154, 155, 156, 157, 158, 159, 160, 161, 162, 163, 164, 165, 166, 167, 168, 169, 170, 171, 172, 173, 174, 175, 176, 177, 178, 179, 180, 181, 182, 183, 184, 185, 186, 187, 188, 189, 190, 191, 192, 193, 194, 195, 196, 197, 198, 199, 200, 201, 202, 203, 204, 205, 206, 207, 208, 209, 210, 211, 212, 229, 230, 213, 214, 215, 216, 217, 218, 219, 220, 221, 222, 223, 224, 225, 226, 227, 228, 233, 234, 235, 236] (by decide +kernel) (by decide +kernel)
set_option maxRecDepth 20000 in
theorem gX7_load_X7_doCommand : GoodIn wsX7_load (wsV RX7 83 RX7 yX7_doCommand wsX7_doCommand) := goodIn_app (goodIn_of _ (by decide +kernel)) ggX7_load_X7_doCommand
set_option maxRecDepth 20000 in
theorem ggX7_doCommand_X2_digitAt : GoodIn wsX7_doCommand wsX2_digitAt := goodIn_r _ [8, 9, 10, 11, 7, 12, 13, 14, 166, 167] (by decide +kernel) (by decide +kernel)
set_option maxRecDepth 20000 in
theorem gX7_doCommand_X2_digitAt : GoodIn wsX7_doCommand (wsV RX7 86 RX2 yX2_digitAt wsX2_digitAt) := goodIn_app (goodIn_of _ (by decide +kernel)) ggX7_doCommand_X2_digitAt
set_option maxRecDepth 20000 in
theorem ggX7_doCommand_X2_signAt : GoodIn wsX7_doCommand wsX2_signAt := goodIn_r _ [12, 13, 14, 166, 167] (by decide +kernel) (by decide +kernel)
set_option maxRecDepth 20000 in
theorem gX7_doCommand_X2_signAt : GoodIn wsX7_doCommand (wsV RX7 90 RX2 yX2_signAt wsX2_signAt) := goodIn_app (goodIn_of _ (by decide +kernel)) ggX7_doCommand_X2_signAt
set_option maxRecDepth 20000 in
theorem ggX7_doCommand_X1_admit : GoodIn wsX7_doCommand wsX1_admit := goodIn_r _ [20, 21, 22, 23, 24, 25, 26, 27, 28, 29, 30, 31, 19, 32, 33, 34, 35, 36, 37, 38, 39, 168, 169, 170, 171, 172, 173, 174, 175, 176, 177, 178, 179, 180, 181, 182, 183] (by decide +kernel) (by decide +kernel)
set_option maxRecDepth 20000 in
theorem gX7_doCommand_X1_admit : GoodIn wsX7_doCommand (wsV RX7 93 RX1 yX1_admit wsX1_admit) := goodIn_app (goodIn_of _ (by decide +kernel)) ggX7_doCommand_X1_admit
set_option maxRecDepth 20000 in
theorem ggX7_doCommand_X1_goIfWilling : GoodIn wsX7_doCommand wsX1_goIfWilling := goodIn_r _ [43, 44, 45, 46, 19, 47, 26, 27, 48, 49, 22, 50, 51, 52, 53, 21, 54, 55, 56, 57, 58, 28, 59, 60, 61, 62, 29, 63, 64, 65, 66, 67, 68, 24, 23, 69, 70, 71, 72, 73, 74, 75, 76, 77, 78, 79, 80, 81, 25, 82, 83, 84, 85, 168, 169, 170, 171, 172, 173, 174, 175, 176, 177, 178, 179, 180, 181, 182, 183] (by decide +kernel) (by decide +kernel)
set_option maxRecDepth 20000 in
theorem gX7_doCommand_X1_goIfWilling : GoodIn wsX7_doCommand (wsV RX7 97 RX1 yX1_goIfWilling wsX1_goIfWilling) := goodIn_app (goodIn_of _ (by decide +kernel)) ggX7_doCommand_X1_goIfWilling
set_option maxRecDepth 20000 in
theorem ggX7_doCommand_X1_letAllRest : GoodIn wsX7_doCommand wsX1_letAllRest := goodIn_r _ [89, 63, 21, 27, 168, 169, 170, 171, 172, 173, 174, 175, 176, 177, 178, 179, 180, 181, 182, 183] (by decide +kernel) (by decide +kernel)
set_option maxRecDepth 20000 in
theorem gX7_doCommand_X1_letAllRest : GoodIn wsX7_doCommand (wsV RX7 100 RX1 yX1_letAllRest wsX1_letAllRest) := goodIn_app (goodIn_of _ (by decide +kernel)) ggX7_doCommand_X1_letAllRest
set_option maxRecDepth 20000 in
theorem ggX7_doCommand_X1_dismiss : GoodIn wsX7_doCommand wsX1_dismiss := goodIn_r _ [93, 27, 21, 50, 51, 52, 19, 53, 94, 95, 96, 97, 22, 23, 24, 25, 26, 28, 29, 168, 169, 170, 171, 172, 173, 174, 175, 176, 177, 178, 179, 180, 181, 182, 183] (by decide +kernel) (by decide +kernel)
set_option maxRecDepth 20000 in
theorem gX7_doCommand_X1_dismiss : GoodIn wsX7_doCommand (wsV RX7 103 RX1 yX1_dismiss wsX1_dismiss) := goodIn_app (goodIn_of _ (by decide +kernel)) ggX7_doCommand_X1_dismiss
set_option maxRecDepth 20000 in
theorem ggX7_doCommand_X1_change : GoodIn wsX7_doCommand wsX1_change := goodIn_r _ [101, 48, 102, 103, 19, 104, 105, 106, 107, 108, 109, 168, 169, 170, 171, 172, 173, 174, 175, 176, 177, 178, 179, 180, 181, 182, 183] (by decide +kernel) (by decide +kernel)
set_option maxRecDepth 20000 in
theorem gX7_doCommand_X1_change : GoodIn wsX7_doCommand (wsV RX7 106 RX1 yX1_change wsX1_change) := goodIn_app (goodIn_of _ (by decide +kernel)) ggX7_doCommand_X1_change
set_option maxRecDepth 20000 in
theorem ggX7_doCommand_X5_bestPress : GoodIn wsX7_doCommand wsX5_bestPress := goodIn_r _ [114, 115, 116, 117, 118, 113, 119, 120, 121, 122, 123, 124, 125, 19, 126, 21, 49, 63, 58, 127, 64, 77, 48, 128, 129, 130, 131, 22, 23, 24, 25, 26, 27, 28, 29, 132, 133, 134, 135, 136, 137, 138, 139, 140, 141, 142, 143, 144, 145, 146, 147, 148, 149, 150, 151, 152, 153, 154, 155, 156, 41, 42, 43, 44, 45, 46, 47, 50, 51, 52, 53, 54, 55, 56, 57, 59, 60, 61, 62, 65, 66, 67, 68, 69, 70, 71, 72, 73, 74, 75, 76, 78, 79, 80, 81, 82, 83, 84, 85, 157, 158, 159, 184, 185, 186, 187, 168, 169, 170, 171, 172, 173, 174, 175, 176, 177, 178, 179, 180, 181, 182, 183] (by decide +kernel) (by decide +kernel)
set_option maxRecDepth 20000 in
theorem gX7_doCommand_X5_bestPress : GoodIn wsX7_doCommand (wsV RX7 110 RX5 yX5_bestPress wsX5_bestPress) := goodIn_app (goodIn_of _ (by decide +kernel)) ggX7_doCommand_X5_bestPress
set_option maxRecDepth 20000 in
theorem ggX7_about_X1_number : GoodIn wsX7_about wsX1_number := goodIn_r _ [8, 9, 10, 11, 12, 13, 14, 15, 16, 17, 18, 7, 19, 20, 21, 22, 23, 24, 25, 26, 27, 28, 29, 30, 37, 38, 39, 40, 41, 42, 43, 44, 45, 46, 47, 48, 49, 50, 51, 52] (by decide +kernel) (by decide +kernel)
set_option maxRecDepth 20000 in
theorem gX7_about_X1_number : GoodIn wsX7_about (wsV RX7 116 RX1 yX1_number wsX1_number) := goodIn_app (goodIn_of _ (by decide +kernel)) ggX7_about_X1_number
set_option maxRecDepth 20000 in
theorem ggX7_guestOf_X7_requireGuest : GoodIn wsX7_guestOf wsX7_requireGuest := goodIn_ca (goodIn_r _ [8, 9, 10, 3, 11, 12, 13, 14, 15, 16, 35, 36, 37, 38, 39, 40, 41, 42, 43, 44, 45, 46, 47, 48, 49, 50, 51, 52, 53, 54, 55, 56] (by decide +kernel) (by decide +kernel)) (goodIn_sub (fun _ h => List.mem_cons_of_mem _ (List.mem_append_right _ h)) (by decide +kernel))
set_option maxRecDepth 20000 in
theorem gX7_guestOf_X7_requireGuest : GoodIn wsX7_guestOf (wsV RX7 119 RX7 yX7_requireGuest wsX7_requireGuest) := goodIn_app (goodIn_of _ (by decide +kernel)) ggX7_guestOf_X7_requireGuest
set_option maxRecDepth 20000 in
theorem ggX7_guestOf_X1_guestNumber : GoodIn wsX7_guestOf wsX1_guestNumber := goodIn_r _ [20, 21, 22, 23, 24, 25, 26, 27, 28, 12, 13, 14, 15, 16, 29, 30, 31, 32, 33, 34, 41, 42, 43, 44, 45, 46, 47, 48, 49, 50, 51, 52, 53, 54, 55, 56] (by decide +kernel) (by decide +kernel)
set_option maxRecDepth 20000 in
theorem gX7_guestOf_X1_guestNumber : GoodIn wsX7_guestOf (wsV RX7 125 RX1 yX1_guestNumber wsX1_guestNumber) := goodIn_app (goodIn_of _ (by decide +kernel)) ggX7_guestOf_X1_guestNumber
set_option maxRecDepth 20000 in
theorem ggX7_floorOf_X1_isFloor : GoodIn wsX7_floorOf wsX1_isFloor := goodIn_r _ [9] (by decide +kernel) (by decide +kernel)
set_option maxRecDepth 20000 in
theorem gX7_floorOf_X1_isFloor : GoodIn wsX7_floorOf (va_wsS RX7 128 yX1_isFloor wsX1_isFloor) := goodIn_app (goodIn_of _ (by decide +kernel)) ggX7_floorOf_X1_isFloor
set_option maxRecDepth 20000 in
theorem ggX7_floorOf_X1_floorSet : GoodIn wsX7_floorOf wsX1_floorSet := goodIn_r _ [13, 14, 15, 16, 17, 8, 18, 19, 20, 21, 22, 29, 30, 31, 32, 33, 34, 35, 36, 37, 38, 39, 40, 41, 42, 43, 44] (by decide +kernel) (by decide +kernel)
set_option maxRecDepth 20000 in
theorem gX7_floorOf_X1_floorSet : GoodIn wsX7_floorOf (wsV RX7 138 RX1 yX1_floorSet wsX1_floorSet) := goodIn_app (goodIn_of _ (by decide +kernel)) ggX7_floorOf_X1_floorSet
set_option maxRecDepth 20000 in
theorem ggX7_setting_X1_isSetting : GoodIn wsX7_setting wsX1_isSetting := goodIn_r _ [7, 8] (by decide +kernel) (by decide +kernel)
set_option maxRecDepth 20000 in
theorem gX7_setting_X1_isSetting : GoodIn wsX7_setting (va_wsS RX7 141 yX1_isSetting wsX1_isSetting) := goodIn_app (goodIn_of _ (by decide +kernel)) ggX7_setting_X1_isSetting
set_option maxRecDepth 20000 in
theorem ggX7_setting_X1_settingOf : GoodIn wsX7_setting wsX1_settingOf := goodIn_r _ [12, 13, 14, 5, 6, 7, 8, 21, 22, 23, 24, 25, 26, 27, 28, 29, 30, 31, 32, 33, 34, 35, 36] (by decide +kernel) (by decide +kernel)
set_option maxRecDepth 20000 in
theorem gX7_setting_X1_settingOf : GoodIn wsX7_setting (wsV RX7 146 RX1 yX1_settingOf wsX1_settingOf) := goodIn_app (goodIn_of _ (by decide +kernel)) ggX7_setting_X1_settingOf
set_option maxRecDepth 20000 in
theorem ggX7_come_X1_isFloor : GoodIn wsX7_come wsX1_isFloor := goodIn_r _ [12] (by decide +kernel) (by decide +kernel)
set_option maxRecDepth 20000 in
theorem gX7_come_X1_isFloor : GoodIn wsX7_come (va_wsS RX7 128 yX1_isFloor wsX1_isFloor) := goodIn_app (goodIn_of _ (by decide +kernel)) ggX7_come_X1_isFloor
set_option maxRecDepth 20000 in
theorem ggX7_come_X1_isWeight : GoodIn wsX7_come wsX1_isWeight := goodIn_r _ [15] (by decide +kernel) (by decide +kernel)
set_option maxRecDepth 20000 in
theorem gX7_come_X1_isWeight : GoodIn wsX7_come (va_wsS RX7 149 yX1_isWeight wsX1_isWeight) := goodIn_app (goodIn_of _ (by decide +kernel)) ggX7_come_X1_isWeight
set_option maxRecDepth 20000 in
theorem ggX7_come_X1_isFull : GoodIn wsX7_come wsX1_isFull := goodIn_r _ [19, 20, 76, 77, 78, 79, 80, 81, 82, 83, 84, 85, 86, 87, 88, 89, 90, 91] (by decide +kernel) (by decide +kernel)
set_option maxRecDepth 20000 in
theorem gX7_come_X1_isFull : GoodIn wsX7_come (wsV RX7 154 RX1 yX1_isFull wsX1_isFull) := goodIn_app (goodIn_of _ (by decide +kernel)) ggX7_come_X1_isFull
set_option maxRecDepth 20000 in
theorem ggX7_come_X3_remember : GoodIn wsX7_come wsX3_remember := goodIn_r _ [25, 26, 27, 28, 29, 11, 30, 31, 32, 24, 33, 34, 35, 36, 37, 38, 39, 40, 41, 42, 43, 44, 45, 46, 47, 48, 49, 50, 51, 52, 20, 53, 54, 55, 56, 57, 58, 59, 60, 61, 62, 92, 93, 76, 77, 78, 79, 80, 81, 82, 83, 84, 85, 86, 87, 88, 89, 90, 91] (by decide +kernel) (by decide +kernel)
set_option maxRecDepth 20000 in
theorem gX7_come_X3_remember : GoodIn wsX7_come (wsV RX7 157 RX3 yX3_remember wsX3_remember) := goodIn_app (goodIn_of _ (by decide +kernel)) ggX7_come_X3_remember
set_option maxRecDepth 20000 in
theorem ggX7_come_X1_admit : GoodIn wsX7_come wsX1_admit := goodIn_r _ [66, 20, 41, 42, 43, 44, 45, 46, 47, 48, 67, 10, 11, 12, 68, 14, 15, 69, 17, 18, 19, 76, 77, 78, 79, 80, 81, 82, 83, 84, 85, 86, 87, 88, 89, 90, 91] (by decide +kernel) (by decide +kernel)
set_option maxRecDepth 20000 in
theorem gX7_come_X1_admit : GoodIn wsX7_come (wsV RX7 93 RX1 yX1_admit wsX1_admit) := goodIn_app (goodIn_of _ (by decide +kernel)) ggX7_come_X1_admit
set_option maxRecDepth 20000 in
theorem ggX7_leave_X7_requireGuest : GoodIn wsX7_leave wsX7_requireGuest := goodIn_ca (goodIn_r _ [7, 8, 9, 2, 10, 11, 12, 13, 14, 15, 67, 68, 69, 70, 71, 72, 73, 74, 75, 76, 77, 78, 79, 80, 81, 82, 83, 84, 85, 86, 87, 88] (by decide +kernel) (by decide +kernel)) (goodIn_sub (fun _ h => List.mem_cons_of_mem _ (List.mem_append_right _ h)) (by decide +kernel))
set_option maxRecDepth 20000 in
theorem gX7_leave_X7_requireGuest : GoodIn wsX7_leave (wsV RX7 119 RX7 yX7_requireGuest wsX7_requireGuest) := goodIn_app (goodIn_of _ (by decide +kernel)) ggX7_leave_X7_requireGuest
set_option maxRecDepth 20000 in
theorem ggX7_leave_X3_remember : GoodIn wsX7_leave wsX3_remember := goodIn_r _ [20, 21, 22, 23, 24, 13, 25, 26, 27, 19, 28, 29, 30, 31, 32, 33, 34, 35, 36, 37, 38, 39, 40, 41, 42, 43, 44, 45, 46, 47, 15, 48, 49, 50, 51, 52, 53, 54, 55, 56, 57, 89, 90, 73, 74, 75, 76, 77, 78, 79, 80, 81, 82, 83, 84, 85, 86, 87, 88] (by decide +kernel) (by decide +kernel)
set_option maxRecDepth 20000 in
theorem gX7_leave_X3_remember : GoodIn wsX7_leave (wsV RX7 157 RX3 yX3_remember wsX3_remember) := goodIn_app (goodIn_of _ (by decide +kernel)) ggX7_leave_X3_remember
set_option maxRecDepth 20000 in
theorem ggX7_leave_X1_dismiss : GoodIn wsX7_leave wsX1_dismiss := goodIn_r _ [61, 41, 15, 62, 11, 12, 13, 14, 63, 64, 65, 66, 36, 37, 38, 39, 40, 42, 43, 73, 74, 75, 76, 77, 78, 79, 80, 81, 82, 83, 84, 85, 86, 87, 88] (by decide +kernel) (by decide +kernel)
set_option maxRecDepth 20000 in
theorem gX7_leave_X1_dismiss : GoodIn wsX7_leave (wsV RX7 103 RX1 yX1_dismiss wsX1_dismiss) := goodIn_app (goodIn_of _ (by decide +kernel)) ggX7_leave_X1_dismiss
set_option maxRecDepth 20000 in
theorem ggX7_press_X7_requireGuest : GoodIn wsX7_press wsX7_requireGuest := goodIn_ca (goodIn_r _ [7, 8, 9, 2, 10, 11, 12, 13, 14, 15, 95, 96, 97, 98, 99, 100, 101, 102, 103, 104, 105, 106, 107, 108, 109, 110, 111, 112, 113, 114, 115, 116] (by decide +kernel) (by decide +kernel)) (goodIn_sub (fun _ h => List.mem_cons_of_mem _ (List.mem_append_right _ h)) (by decide +kernel))
set_option maxRecDepth 20000 in
theorem gX7_press_X7_requireGuest : GoodIn wsX7_press (wsV RX7 119 RX7 yX7_requireGuest wsX7_requireGuest) := goodIn_app (goodIn_of _ (by decide +kernel)) ggX7_press_X7_requireGuest
set_option maxRecDepth 20000 in
theorem ggX7_press_X3_remember : GoodIn wsX7_press wsX3_remember := goodIn_r _ [20, 21, 22, 23, 24, 13, 25, 26, 27, 19, 28, 29, 30, 31, 32, 33, 34, 35, 36, 37, 38, 39, 40, 41, 42, 43, 44, 45, 46, 47, 15, 48, 49, 50, 51, 52, 53, 54, 55, 56, 57, 117, 118, 101, 102, 103, 104, 105, 106, 107, 108, 109, 110, 111, 112, 113, 114, 115, 116] (by decide +kernel) (by decide +kernel)
set_option maxRecDepth 20000 in
theorem gX7_press_X3_remember : GoodIn wsX7_press (wsV RX7 157 RX3 yX3_remember wsX3_remember) := goodIn_app (goodIn_of _ (by decide +kernel)) ggX7_press_X3_remember
set_option maxRecDepth 20000 in
theorem ggX7_press_X1_pressBy : GoodIn wsX7_press wsX1_pressBy := goodIn_r _ [61, 51, 62, 63, 64, 13, 65, 40, 41, 35, 48, 36, 66, 11, 12, 14, 15, 67, 68, 69, 70, 50, 42, 71, 72, 73, 74, 43, 49, 52, 75, 76, 77, 78, 38, 37, 79, 80, 81, 82, 83, 84, 85, 86, 53, 87, 88, 89, 90, 39, 91, 92, 93, 94, 101, 102, 103, 104, 105, 106, 107, 108, 109, 110, 111, 112, 113, 114, 115, 116] (by decide +kernel) (by decide +kernel)
set_option maxRecDepth 20000 in
theorem gX7_press_X1_pressBy : GoodIn wsX7_press (wsV RX7 161 RX1 yX1_pressBy wsX1_pressBy) := goodIn_app (goodIn_of _ (by decide +kernel)) ggX7_press_X1_pressBy
set_option maxRecDepth 20000 in
theorem ggX7_rest_X3_remember : GoodIn wsX7_rest wsX3_remember := goodIn_r _ [7, 8, 9, 10, 11, 12, 13, 14, 15, 6, 16, 17, 18, 19, 20, 21, 22, 23, 24, 25, 26, 27, 28, 29, 30, 31, 32, 33, 34, 35, 36, 37, 38, 39, 40, 41, 42, 43, 44, 45, 46, 61, 62, 63, 64, 65, 66, 67, 68, 69, 70, 71, 72, 73, 74, 75, 76, 77, 78] (by decide +kernel) (by decide +kernel)
set_option maxRecDepth 20000 in
theorem gX7_rest_X3_remember : GoodIn wsX7_rest (wsV RX7 157 RX3 yX3_remember wsX3_remember) := goodIn_app (goodIn_of _ (by decide +kernel)) ggX7_rest_X3_remember
set_option maxRecDepth 20000 in
theorem ggX7_rest_X1_letAllRest : GoodIn wsX7_rest wsX1_letAllRest := goodIn_r _ [50, 38, 36, 29, 63, 64, 65, 66, 67, 68, 69, 70, 71, 72, 73, 74, 75, 76, 77, 78] (by decide +kernel) (by decide +kernel)
set_option maxRecDepth 20000 in
theorem gX7_rest_X1_letAllRest : GoodIn wsX7_rest (wsV RX7 100 RX1 yX1_letAllRest wsX1_letAllRest) := goodIn_app (goodIn_of _ (by decide +kernel)) ggX7_rest_X1_letAllRest
set_option maxRecDepth 20000 in
theorem ggX7_rest_X1_allGrudges : GoodIn wsX7_rest wsX1_allGrudges := goodIn_r _ [54, 36, 29, 63, 64, 65, 66, 67, 68, 69, 70, 71, 72, 73, 74, 75, 76, 77, 78] (by decide +kernel) (by decide +kernel)
set_option maxRecDepth 20000 in
theorem gX7_rest_X1_allGrudges : GoodIn wsX7_rest (wsV RX7 164 RX1 yX1_allGrudges wsX1_allGrudges) := goodIn_app (goodIn_of _ (by decide +kernel)) ggX7_rest_X1_allGrudges
set_option maxRecDepth 20000 in
theorem ggX7_set_X1_isSettingValue : GoodIn wsX7_set wsX1_isSettingValue := goodIn_r _ [8, 9, 10, 11, 12, 7, 13] (by decide +kernel) (by decide +kernel)
set_option maxRecDepth 20000 in
theorem gX7_set_X1_isSettingValue : GoodIn wsX7_set (va_wsS RX7 167 yX1_isSettingValue wsX1_isSettingValue) := goodIn_app (goodIn_of _ (by decide +kernel)) ggX7_set_X1_isSettingValue
set_option maxRecDepth 20000 in
theorem ggX7_set_X3_remember : GoodIn wsX7_set wsX3_remember := goodIn_r _ [18, 19, 20, 21, 22, 7, 23, 24, 25, 17, 26, 27, 28, 29, 30, 31, 32, 33, 34, 35, 36, 37, 38, 39, 40, 41, 42, 43, 44, 45, 46, 47, 48, 49, 50, 51, 52, 53, 54, 55, 56, 68, 69, 70, 71, 72, 73, 74, 75, 76, 77, 78, 79, 80, 81, 82, 83, 84, 85] (by decide +kernel) (by decide +kernel)
set_option maxRecDepth 20000 in
theorem gX7_set_X3_remember : GoodIn wsX7_set (wsV RX7 157 RX3 yX3_remember wsX3_remember) := goodIn_app (goodIn_of _ (by decide +kernel)) ggX7_set_X3_remember
set_option maxRecDepth 20000 in
theorem ggX7_set_X1_change : GoodIn wsX7_set wsX1_change := goodIn_r _ [60, 33, 61, 6, 7, 8, 9, 10, 11, 12, 13, 70, 71, 72, 73, 74, 75, 76, 77, 78, 79, 80, 81, 82, 83, 84, 85] (by decide +kernel) (by decide +kernel)
set_option maxRecDepth 20000 in
theorem gX7_set_X1_change : GoodIn wsX7_set (wsV RX7 106 RX1 yX1_change wsX1_change) := goodIn_app (goodIn_of _ (by decide +kernel)) ggX7_set_X1_change
set_option maxRecDepth 20000 in
theorem ggX7_undo_X3_isEmpty : GoodIn wsX7_undo wsX3_isEmpty := goodIn_r _ [9, 10, 51, 52] (by decide +kernel) (by decide +kernel)
set_option maxRecDepth 20000 in
theorem gX7_undo_X3_isEmpty : GoodIn wsX7_undo (wsV RX7 173 RX3 yX3_isEmpty wsX3_isEmpty) := goodIn_app (goodIn_of _ (by decide +kernel)) ggX7_undo_X3_isEmpty
set_option maxRecDepth 20000 in
theorem ggX7_undo_X3_takeBack : GoodIn wsX7_undo wsX3_takeBack := goodIn_r _ [14, 10, 15, 16, 17, 18, 19, 20, 21, 22, 23, 24, 25, 26, 27, 28, 29, 30, 31, 32, 33, 34, 35, 36, 37, 38, 39, 40, 51, 52, 53, 54, 55, 56, 57, 58, 59, 60, 61, 62, 63, 64, 65, 66, 67, 68] (by decide +kernel) (by decide +kernel)
set_option maxRecDepth 20000 in
theorem gX7_undo_X3_takeBack : GoodIn wsX7_undo (wsV RX7 178 RX3 yX3_takeBack wsX3_takeBack) := goodIn_app (goodIn_of _ (by decide +kernel)) ggX7_undo_X3_takeBack
set_option maxRecDepth 20000 in
theorem ggX7_undo_X3_size : GoodIn wsX7_undo wsX3_size := goodIn_r _ [44, 10, 51, 52] (by decide +kernel) (by decide +kernel)
set_option maxRecDepth 20000 in
theorem gX7_undo_X3_size : GoodIn wsX7_undo (wsV RX7 181 RX3 yX3_size wsX3_size) := goodIn_app (goodIn_of _ (by decide +kernel)) ggX7_undo_X3_size
set_option maxRecDepth 20000 in
theorem ggX7_why_X7_requireGuest : GoodIn wsX7_why wsX7_requireGuest := goodIn_ca (goodIn_r _ [6, 7, 8, 1, 9, 10, 11, 12, 13, 14, 25, 26, 27, 28, 29, 30, 31, 32, 33, 34, 35, 36, 37, 38, 39, 40, 41, 42, 43, 44, 45, 46] (by decide +kernel) (by decide +kernel)) (goodIn_sub (fun _ h => List.mem_cons_of_mem _ (List.mem_append_right _ h)) (by decide +kernel))
set_option maxRecDepth 20000 in
theorem gX7_why_X7_requireGuest : GoodIn wsX7_why (wsV RX7 119 RX7 yX7_requireGuest wsX7_requireGuest) := goodIn_app (goodIn_of _ (by decide +kernel)) ggX7_why_X7_requireGuest
set_option maxRecDepth 20000 in
theorem ggX7_why_X1_reasonOf : GoodIn wsX7_why wsX1_reasonOf := goodIn_r _ [18, 19, 20, 21, 22, 23, 24, 10, 11, 12, 13, 14, 31, 32, 33, 34, 35, 36, 37, 38, 39, 40, 41, 42, 43, 44, 45, 46] (by decide +kernel) (by decide +kernel)
set_option maxRecDepth 20000 in
theorem gX7_why_X1_reasonOf : GoodIn wsX7_why (wsV RX7 182 RX1 yX1_reasonOf wsX1_reasonOf) := goodIn_app (goodIn_of _ (by decide +kernel)) ggX7_why_X1_reasonOf
set_option maxRecDepth 20000 in
theorem ggX7_fewest_X5_fewestByRows : GoodIn wsX7_fewest wsX5_fewestByRows := goodIn_r _ [9, 10, 11, 12, 13, 14, 15, 16, 17, 18, 19, 20, 21, 22, 23, 24, 25, 26, 27, 28, 29, 30, 31, 32, 33, 34, 35, 36, 37, 38, 39, 40, 41, 8, 42, 43, 44, 45, 46, 47, 48, 49, 50, 51, 52, 53, 54, 55, 56, 57, 58, 59, 60, 61, 62, 63, 64, 65, 66, 67, 68, 69, 70, 71, 72, 73, 74, 75, 76, 77, 78, 79, 80, 81, 82, 83, 84, 85, 86, 87, 88, 89, 90, 91, 92, 93, 94, 95, 96, 97, 98, 116, 117, 118, 119, 120, 121, 122, 123, 124, 125, 126, 127, 128, 129, 130, 131, 132, 133, 134, 135] (by decide +kernel) (by decide +kernel)
set_option maxRecDepth 20000 in
theorem gX7_fewest_X5_fewestByRows : GoodIn wsX7_fewest (wsV RX7 187 RX5 yX5_fewestByRows wsX5_fewestByRows) := goodIn_app (goodIn_of _ (by decide +kernel)) ggX7_fewest_X5_fewestByRows
set_option maxRecDepth 20000 in
theorem ggX7_fewest_X5_fewestByPositions : GoodIn wsX7_fewest wsX5_fewestByPositions := goodIn_r _ [102, 10, 103, 104, 105, 11, 12, 13, 14, 15, 16, 17, 18, 19, 20, 21, 22, 23, 24, 25, 26, 27, 28, 29, 30, 31, 32, 33, 34, 35, 47, 48, 49, 50, 51, 52, 53, 54, 36, 37, 38, 39, 106, 107, 108, 8, 109, 55, 56, 57, 58, 43, 44, 45, 46, 59, 60, 61, 62, 63, 64, 65, 66, 67, 68, 69, 70, 71, 72, 73, 74, 75, 76, 77, 78, 79, 80, 81, 82, 83, 84, 85, 86, 87, 88, 89, 90, 91, 92, 93, 94, 95, 96, 97, 98, 116, 117, 118, 119, 120, 121, 122, 123, 124, 125, 126, 127, 128, 129, 130, 131, 132, 133, 134, 135] (by decide +kernel) (by decide +kernel)
set_option maxRecDepth 20000 in
theorem gX7_fewest_X5_fewestByPositions : GoodIn wsX7_fewest (wsV RX7 190 RX5 yX5_fewestByPositions wsX5_fewestByPositions) := goodIn_app (goodIn_of _ (by decide +kernel)) ggX7_fewest_X5_fewestByPositions
set_option maxRecDepth 20000 in
theorem ggX7_best_X5_bestPress : GoodIn wsX7_best wsX5_bestPress := goodIn_r _ [7, 8, 9, 10, 11, 6, 12, 13, 14, 15, 16, 17, 18, 19, 20, 21, 22, 23, 24, 25, 26, 27, 28, 29, 30, 31, 32, 33, 34, 35, 36, 37, 38, 39, 40, 41, 42, 43, 44, 45, 46, 47, 48, 49, 50, 51, 52, 53, 54, 55, 56, 57, 58, 59, 60, 61, 62, 63, 64, 65, 66, 67, 68, 69, 70, 71, 72, 73, 74, 75, 76, 77, 78, 79, 80, 81, 82, 83, 84, 85, 86, 87, 88, 89, 90, 91, 92, 93, 94, 95, 96, 97, 98, 99, 100, 101, 102, 103, 104, 105, 106, 107, 114, 115, 116, 117, 118, 119, 120, 121, 122, 123, 124, 125, 126, 127, 128, 129, 130, 131, 132, 133] (by decide +kernel) (by decide +kernel)
set_option maxRecDepth 20000 in
theorem gX7_best_X5_bestPress : GoodIn wsX7_best (wsV RX7 110 RX5 yX5_bestPress wsX5_bestPress) := goodIn_app (goodIn_of _ (by decide +kernel)) ggX7_best_X5_bestPress
set_option maxRecDepth 20000 in
theorem ggX7_ifPressed_X0_without : GoodIn wsX7_ifPressed wsX0_without := goodIn_r _ [9, 10] (by decide +kernel) (by decide +kernel)
set_option maxRecDepth 20000 in
theorem gX7_ifPressed_X0_without : GoodIn wsX7_ifPressed (va_wsS RX7 195 yX0_without wsX0_without) := goodIn_app (goodIn_of _ (by decide +kernel)) ggX7_ifPressed_X0_without
set_option maxRecDepth 20000 in
theorem ggX7_ifPressed_X1_copyFrom : GoodIn wsX7_ifPressed wsX1_copyFrom := goodIn_r _ [15, 16, 17, 18, 19, 20, 21, 22, 23, 24, 25, 26, 27, 28, 29, 30, 31, 32, 33, 34, 35, 100, 101, 102, 103, 104, 105, 106, 107, 108, 109, 110, 111, 112, 113, 114, 115] (by decide +kernel) (by decide +kernel)
set_option maxRecDepth 20000 in
theorem gX7_ifPressed_X1_copyFrom : GoodIn wsX7_ifPressed (wsV RX7 205 RX1 yX1_copyFrom wsX1_copyFrom) := goodIn_app (goodIn_of _ (by decide +kernel)) ggX7_ifPressed_X1_copyFrom
set_option maxRecDepth 20000 in
theorem ggX7_ifPressed_X1_pressBy : GoodIn wsX7_ifPressed wsX1_pressBy := goodIn_r _ [39, 20, 40, 41, 42, 14, 43, 32, 33, 23, 17, 28, 44, 45, 46, 47, 16, 48, 49, 50, 51, 19, 34, 52, 53, 54, 55, 35, 18, 21, 56, 57, 58, 59, 30, 29, 60, 61, 62, 63, 64, 65, 66, 67, 22, 68, 69, 70, 71, 31, 72, 73, 74, 75, 100, 101, 102, 103, 104, 105, 106, 107, 108, 109, 110, 111, 112, 113, 114, 115] (by decide +kernel) (by decide +kernel)
set_option maxRecDepth 20000 in
theorem gX7_ifPressed_X1_pressBy : GoodIn wsX7_ifPressed (wsV RX7 161 RX1 yX1_pressBy wsX1_pressBy) := goodIn_app (goodIn_of _ (by decide +kernel)) ggX7_ifPressed_X1_pressBy
set_option maxRecDepth 20000 in
theorem ggX7_ifPressed_X7_brought : GoodIn wsX7_ifPressed wsX7_brought := goodIn_r _ [80, 3, 4, 81, 82, 83, 14, 84, 16, 17, 18, 19, 20, 21, 22, 72, 73, 74, 75, 32, 31, 85, 86, 87, 88, 89, 90, 91, 92, 33, 93, 94, 95, 96, 97, 98, 99, 100, 101, 102, 103, 104, 105, 106, 107, 108, 109, 110, 111, 112, 113, 114, 115] (by decide +kernel) (by decide +kernel)
set_option maxRecDepth 20000 in
theorem gX7_ifPressed_X7_brought : GoodIn wsX7_ifPressed (wsV RX7 210 RX7 yX7_brought wsX7_brought) := goodIn_app (goodIn_of _ (by decide +kernel)) ggX7_ifPressed_X7_brought
set_option maxRecDepth 20000 in
theorem ggX7_brought_X1_number : GoodIn wsX7_brought wsX1_number := goodIn_r _ [7, 8, 9, 10, 11, 12, 13, 14, 15, 16, 17, 6, 18, 19, 20, 21, 22, 23, 24, 25, 26, 27, 28, 29, 37, 38, 39, 40, 41, 42, 43, 44, 45, 46, 47, 48, 49, 50, 51, 52] (by decide +kernel) (by decide +kernel)
set_option maxRecDepth 20000 in
theorem gX7_brought_X1_number : GoodIn wsX7_brought (wsV RX7 116 RX1 yX1_number wsX1_number) := goodIn_app (goodIn_of _ (by decide +kernel)) ggX7_brought_X1_number
set_option maxRecDepth 20000 in
theorem ggX7_brought_X1_allGrudges : GoodIn wsX7_brought wsX1_allGrudges := goodIn_r _ [28, 8, 29, 37, 38, 39, 40, 41, 42, 43, 44, 45, 46, 47, 48, 49, 50, 51, 52] (by decide +kernel) (by decide +kernel)
set_option maxRecDepth 20000 in
theorem gX7_brought_X1_allGrudges : GoodIn wsX7_brought (wsV RX7 164 RX1 yX1_allGrudges wsX1_allGrudges) := goodIn_app (goodIn_of _ (by decide +kernel)) ggX7_brought_X1_allGrudges
set_option maxRecDepth 20000 in
theorem ggX7_leftStanding_X7_requireGuest : GoodIn wsX7_leftStanding wsX7_requireGuest := goodIn_ca (goodIn_r _ [7, 8, 9, 2, 10, 11, 12, 13, 14, 15, 80, 81, 82, 83, 84, 85, 86, 87, 88, 89, 90, 91, 92, 93, 94, 95, 96, 97, 98, 99, 100, 101] (by decide +kernel) (by decide +kernel)) (goodIn_sub (fun _ h => List.mem_cons_of_mem _ (List.mem_append_right _ h)) (by decide +kernel))
set_option maxRecDepth 20000 in
theorem gX7_leftStanding_X7_requireGuest : GoodIn wsX7_leftStanding (wsV RX7 119 RX7 yX7_requireGuest wsX7_requireGuest) := goodIn_app (goodIn_of _ (by decide +kernel)) ggX7_leftStanding_X7_requireGuest
set_option maxRecDepth 20000 in
theorem ggX7_leftStanding_X1_copyFrom : GoodIn wsX7_leftStanding wsX1_copyFrom := goodIn_r _ [19, 15, 20, 21, 22, 23, 24, 25, 26, 27, 28, 29, 30, 31, 32, 33, 34, 35, 36, 37, 38, 86, 87, 88, 89, 90, 91, 92, 93, 94, 95, 96, 97, 98, 99, 100, 101] (by decide +kernel) (by decide +kernel)
set_option maxRecDepth 20000 in
theorem gX7_leftStanding_X1_copyFrom : GoodIn wsX7_leftStanding (wsV RX7 205 RX1 yX1_copyFrom wsX1_copyFrom) := goodIn_app (goodIn_of _ (by decide +kernel)) ggX7_leftStanding_X1_copyFrom
set_option maxRecDepth 20000 in
theorem ggX7_leftStanding_X1_standingBehind : GoodIn wsX7_leftStanding wsX1_standingBehind := goodIn_r _ [42, 20, 31, 43, 11, 12, 13, 14, 15, 44, 45, 46, 47, 22, 37, 48, 49, 50, 51, 35, 38, 21, 26, 24, 52, 53, 54, 55, 33, 32, 56, 57, 58, 59, 36, 60, 61, 62, 63, 25, 64, 65, 66, 67, 34, 68, 69, 70, 71, 72, 73, 74, 75, 76, 77, 78, 79, 86, 87, 88, 89, 90, 91, 92, 93, 94, 95, 96, 97, 98, 99, 100, 101] (by decide +kernel) (by decide +kernel)
set_option maxRecDepth 20000 in
theorem gX7_leftStanding_X1_standingBehind : GoodIn wsX7_leftStanding (wsV RX7 213 RX1 yX1_standingBehind wsX1_standingBehind) := goodIn_app (goodIn_of _ (by decide +kernel)) ggX7_leftStanding_X1_standingBehind
set_option maxRecDepth 20000 in
theorem ggX7_runScript_X0_without : GoodIn wsX7_runScript wsX0_without := goodIn_r _ [9, 10] (by decide +kernel) (by decide +kernel)
set_option maxRecDepth 20000 in
theorem gX7_runScript_X0_without : GoodIn wsX7_runScript (va_wsS RX7 195 yX0_without wsX0_without) := goodIn_app (goodIn_of _ (by decide +kernel)) ggX7_runScript_X0_without
set_option maxRecDepth 20000 in
theorem ggX7_runScript_X1_copyFrom : GoodIn wsX7_runScript wsX1_copyFrom := goodIn_r _ [15, 16, 17, 18, 19, 20, 21, 22, 23, 24, 25, 26, 27, 28, 29, 30, 31, 32, 33, 34, 35, 148, 149, 150, 151, 152, 153, 154, 155, 156, 157, 158, 159, 160, 161, 162, 163] (by decide +kernel) (by decide +kernel)
set_option maxRecDepth 20000 in
theorem gX7_runScript_X1_copyFrom : GoodIn wsX7_runScript (wsV RX7 205 RX1 yX1_copyFrom wsX1_copyFrom) := goodIn_app (goodIn_of _ (by decide +kernel)) ggX7_runScript_X1_copyFrom
set_option maxRecDepth 20000 in
theorem ggX7_runScript_X4_succeeds : GoodIn wsX7_runScript wsX4_succeeds := goodIn_r _ [39, 40, 41, 42, 14, 43, 16, 28, 29, 30, 31, 32, 33, 34, 35, 44, 45, 46, 47, 48, 49, 50, 51, 52, 53, 54, 55, 56, 57, 20, 58, 59, 60, 61, 23, 17, 62, 63, 64, 65, 66, 67, 68, 69, 19, 70, 71, 72, 73, 18, 21, 74, 75, 76, 77, 78, 79, 80, 81, 82, 83, 84, 85, 22, 86, 87, 88, 89, 90, 91, 92, 93, 94, 95, 38, 96, 97, 98, 99, 100, 101, 102, 103, 104, 105, 106, 107, 108, 109, 110, 111, 112, 113, 114, 115, 116, 117, 118, 119, 120, 121, 122, 123, 124, 125, 126, 127, 128, 129, 130, 131, 132, 133, 134, 135, 136, 137, 138, 139, 140, 141, 148, 149, 150, 151, 152, 153, 154, 155, 156, 157, 158, 159, 160, 161, 162, 163] (by decide +kernel) (by decide +kernel)
set_option maxRecDepth 20000 in
theorem gX7_runScript_X4_succeeds : GoodIn wsX7_runScript (va_wsS RX7 222 yX4_succeeds wsX4_succeeds) := goodIn_app (goodIn_of _ (by decide +kernel)) ggX7_runScript_X4_succeeds
set_option maxRecDepth 20000 in
theorem ggX7_simulate_X1_copyFrom : GoodIn wsX7_simulate wsX1_copyFrom := goodIn_r _ [11, 12, 13, 14, 15, 16, 17, 18, 19, 20, 21, 22, 23, 24, 25, 26, 27, 28, 29, 30, 31, 133, 134, 135, 136, 137, 138, 139, 140, 141, 142, 143, 144, 145, 146, 147, 148] (by decide +kernel) (by decide +kernel)
set_option maxRecDepth 20000 in
theorem gX7_simulate_X1_copyFrom : GoodIn wsX7_simulate (wsV RX7 205 RX1 yX1_copyFrom wsX1_copyFrom) := goodIn_app (goodIn_of _ (by decide +kernel)) ggX7_simulate_X1_copyFrom
set_option maxRecDepth 20000 in
theorem ggX7_simulate_X6_take : GoodIn wsX7_simulate wsX6_take := goodIn_r _ [35, 36, 37, 38, 10, 39, 12, 24, 25, 26, 27, 28, 29, 30, 31, 40, 41, 42, 43, 44, 45, 46, 47, 48, 49, 50, 51, 52, 53, 54, 55, 56, 57, 58, 59, 60, 61, 62, 63, 64, 65, 14, 66, 67, 68, 69, 19, 70, 71, 72, 73, 74, 75, 76, 77, 78, 79, 80, 81, 16, 82, 83, 84, 85, 13, 86, 87, 88, 89, 15, 90, 91, 92, 93, 17, 94, 95, 96, 97, 98, 99, 100, 101, 102, 103, 104, 105, 18, 106, 107, 108, 109, 110, 111, 112, 113, 133, 134, 135, 136, 137, 138, 139, 140, 141, 142, 143, 144, 145, 146, 147, 148] (by decide +kernel) (by decide +kernel)
set_option maxRecDepth 20000 in
theorem gX7_simulate_X6_take : GoodIn wsX7_simulate (va_wsS RX7 234 yX6_take wsX6_take) := goodIn_app (goodIn_of _ (by decide +kernel)) ggX7_simulate_X6_take
set_option maxRecDepth 20000 in
theorem ggX7_simulate_X1_number : GoodIn wsX7_simulate wsX1_number := goodIn_r _ [117, 12, 13, 14, 15, 16, 17, 18, 110, 111, 112, 10, 113, 28, 27, 118, 119, 120, 121, 122, 123, 124, 125, 29, 133, 134, 135, 136, 137, 138, 139, 140, 141, 142, 143, 144, 145, 146, 147, 148] (by decide +kernel) (by decide +kernel)
set_option maxRecDepth 20000 in
theorem gX7_simulate_X1_number : GoodIn wsX7_simulate (wsV RX7 116 RX1 yX1_number wsX1_number) := goodIn_app (goodIn_of _ (by decide +kernel)) ggX7_simulate_X1_number
set_option maxRecDepth 20000 in
theorem ggX7_simulate_X1_allGrudges : GoodIn wsX7_simulate wsX1_allGrudges := goodIn_r _ [125, 12, 29, 133, 134, 135, 136, 137, 138, 139, 140, 141, 142, 143, 144, 145, 146, 147, 148] (by decide +kernel) (by decide +kernel)
set_option maxRecDepth 20000 in
theorem gX7_simulate_X1_allGrudges : GoodIn wsX7_simulate (wsV RX7 164 RX1 yX1_allGrudges wsX1_allGrudges) := goodIn_app (goodIn_of _ (by decide +kernel)) ggX7_simulate_X1_allGrudges
set_option maxRecDepth 20000 in
theorem ggX7_save_X7_requireSlot : GoodIn wsX7_save wsX7_requireSlot := goodIn_ca (goodIn_r _ [10, 11, 12, 1, 59, 60, 61, 62, 63, 64] (by decide +kernel) (by decide +kernel)) (goodIn_sub (fun _ h => List.mem_cons_of_mem _ (List.mem_append_right _ h)) (by decide +kernel))
set_option maxRecDepth 20000 in
theorem gX7_save_X7_requireSlot : GoodIn wsX7_save (wsV RX7 240 RX7 yX7_requireSlot wsX7_requireSlot) := goodIn_app (goodIn_of _ (by decide +kernel)) ggX7_save_X7_requireSlot
set_option maxRecDepth 20000 in
theorem ggX7_save_X1_init : GoodIn wsX7_save wsX1_init := goodIn_r _ [14, 15, 16, 17, 18, 19, 20, 21, 22, 23, 24, 25, 26, 27, 65, 66, 67, 68, 69, 70, 71, 72, 73, 74, 75, 76, 77, 78, 79, 80] (by decide +kernel) (by decide +kernel)
set_option maxRecDepth 20000 in
theorem gX7_save_X1_init_n36 : GoodIn wsX7_save (wsX1_init) := ggX7_save_X1_init
set_option maxRecDepth 20000 in
theorem ggX7_save_X1_copyFrom : GoodIn wsX7_save wsX1_copyFrom := goodIn_r _ [31, 32, 33, 34, 35, 36, 37, 38, 19, 39, 40, 41, 42, 20, 21, 22, 23, 24, 25, 26, 27, 65, 66, 67, 68, 69, 70, 71, 72, 73, 74, 75, 76, 77, 78, 79, 80] (by decide +kernel) (by decide +kernel)
set_option maxRecDepth 20000 in
theorem gX7_save_X1_copyFrom : GoodIn wsX7_save (wsV RX7 205 RX1 yX1_copyFrom wsX1_copyFrom) := goodIn_app (goodIn_of _ (by decide +kernel)) ggX7_save_X1_copyFrom
set_option maxRecDepth 20000 in
theorem ggX7_save_X1_number : GoodIn wsX7_save wsX1_number := goodIn_r _ [46, 32, 33, 34, 35, 36, 37, 38, 47, 48, 49, 4, 50, 24, 23, 51, 52, 53, 54, 55, 56, 57, 58, 25, 65, 66, 67, 68, 69, 70, 71, 72, 73, 74, 75, 76, 77, 78, 79, 80] (by decide +kernel) (by decide +kernel)
set_option maxRecDepth 20000 in
theorem gX7_save_X1_number : GoodIn wsX7_save (wsV RX7 116 RX1 yX1_number wsX1_number) := goodIn_app (goodIn_of _ (by decide +kernel)) ggX7_save_X1_number
set_option maxRecDepth 20000 in
theorem ggX7_restore_X7_requireSlot : GoodIn wsX7_restore wsX7_requireSlot := goodIn_ca (goodIn_r _ [10, 11, 12, 3, 60, 61, 62, 63, 64, 65] (by decide +kernel) (by decide +kernel)) (goodIn_sub (fun _ h => List.mem_cons_of_mem _ (List.mem_append_right _ h)) (by decide +kernel))
set_option maxRecDepth 20000 in
theorem gX7_restore_X7_requireSlot : GoodIn wsX7_restore (wsV RX7 240 RX7 yX7_requireSlot wsX7_requireSlot) := goodIn_app (goodIn_of _ (by decide +kernel)) ggX7_restore_X7_requireSlot
set_option maxRecDepth 20000 in
theorem ggX7_restore_X1_copyFrom : GoodIn wsX7_restore wsX1_copyFrom := goodIn_r _ [17, 18, 19, 20, 21, 22, 23, 24, 25, 26, 27, 28, 29, 30, 31, 32, 33, 34, 35, 36, 37, 66, 67, 68, 69, 70, 71, 72, 73, 74, 75, 76, 77, 78, 79, 80, 81] (by decide +kernel) (by decide +kernel)
set_option maxRecDepth 20000 in
theorem gX7_restore_X1_copyFrom : GoodIn wsX7_restore (wsV RX7 205 RX1 yX1_copyFrom wsX1_copyFrom) := goodIn_app (goodIn_of _ (by decide +kernel)) ggX7_restore_X1_copyFrom
set_option maxRecDepth 20000 in
theorem ggX7_restore_X3_forgetAll : GoodIn wsX7_restore wsX3_forgetAll := goodIn_r _ [42, 43, 82, 83] (by decide +kernel) (by decide +kernel)
set_option maxRecDepth 20000 in
theorem gX7_restore_X3_forgetAll : GoodIn wsX7_restore (wsV RX7 73 RX3 yX3_forgetAll wsX3_forgetAll) := goodIn_app (goodIn_of _ (by decide +kernel)) ggX7_restore_X3_forgetAll
set_option maxRecDepth 20000 in
theorem ggX7_restore_X1_number : GoodIn wsX7_restore wsX1_number := goodIn_r _ [47, 18, 19, 20, 21, 22, 23, 24, 48, 49, 50, 16, 51, 34, 33, 52, 53, 54, 55, 56, 57, 58, 59, 35, 66, 67, 68, 69, 70, 71, 72, 73, 74, 75, 76, 77, 78, 79, 80, 81] (by decide +kernel) (by decide +kernel)
set_option maxRecDepth 20000 in
theorem gX7_restore_X1_number : GoodIn wsX7_restore (wsV RX7 116 RX1 yX1_number wsX1_number) := goodIn_app (goodIn_of _ (by decide +kernel)) ggX7_restore_X1_number
set_option maxRecDepth 20000 in
theorem ggX7_requireGuest_X1_isGuest : GoodIn wsX7_requireGuest wsX1_isGuest := goodIn_r _ [8, 9, 16, 17, 18, 19, 20, 21, 22, 23, 24, 25, 26, 27, 28, 29, 30, 31] (by decide +kernel) (by decide +kernel)
set_option maxRecDepth 20000 in
theorem gX7_requireGuest_X1_isGuest : GoodIn wsX7_requireGuest (wsV RX7 245 RX1 yX1_isGuest wsX1_isGuest) := goodIn_app (goodIn_of _ (by decide +kernel)) ggX7_requireGuest_X1_isGuest
set_option maxRecDepth 20000 in
theorem ggX8_init_X8_clear : GoodIn wsX8_init wsX8_clear := goodIn_r _ [16] (by decide +kernel) (by decide +kernel)
set_option maxRecDepth 20000 in
theorem gX8_init_X8_clear : GoodIn wsX8_init (va_wsS RX8 32 yX8_clear wsX8_clear) := goodIn_app (goodIn_of _ (by decide +kernel)) ggX8_init_X8_clear
set_option maxRecDepth 20000 in
theorem ggX8_isGuest_X8_in : GoodIn wsX8_isGuest wsX8_in := goodIn_r _ [4] (by decide +kernel) (by decide +kernel)
set_option maxRecDepth 20000 in
theorem gX8_isGuest_X8_in : GoodIn wsX8_isGuest (va_wsS RX8 40 yX8_in wsX8_in) := goodIn_app (goodIn_of _ (by decide +kernel)) ggX8_isGuest_X8_in
set_option maxRecDepth 20000 in
theorem ggX8_isFloor_X8_in : GoodIn wsX8_isFloor wsX8_in := goodIn_r _ [5] (by decide +kernel) (by decide +kernel)
set_option maxRecDepth 20000 in
theorem gX8_isFloor_X8_in : GoodIn wsX8_isFloor (va_wsS RX8 40 yX8_in wsX8_in) := goodIn_app (goodIn_of _ (by decide +kernel)) ggX8_isFloor_X8_in
set_option maxRecDepth 20000 in
theorem ggX8_isSetting_X8_in : GoodIn wsX8_isSetting wsX8_in := goodIn_r _ [7] (by decide +kernel) (by decide +kernel)
set_option maxRecDepth 20000 in
theorem gX8_isSetting_X8_in : GoodIn wsX8_isSetting (va_wsS RX8 40 yX8_in wsX8_in) := goodIn_app (goodIn_of _ (by decide +kernel)) ggX8_isSetting_X8_in
set_option maxRecDepth 20000 in
theorem ggX8_inState_X8_of : GoodIn wsX8_inState wsX8_of := goodIn_r _ [4] (by decide +kernel) (by decide +kernel)
set_option maxRecDepth 20000 in
theorem gX8_inState_X8_of : GoodIn wsX8_inState (va_wsS RX8 52 yX8_of wsX8_of) := goodIn_app (goodIn_of _ (by decide +kernel)) ggX8_inState_X8_of
set_option maxRecDepth 20000 in
theorem ggX8_allGrudges_X8_of : GoodIn wsX8_allGrudges wsX8_of := goodIn_r _ [4] (by decide +kernel) (by decide +kernel)
set_option maxRecDepth 20000 in
theorem gX8_allGrudges_X8_of : GoodIn wsX8_allGrudges (va_wsS RX8 52 yX8_of wsX8_of) := goodIn_app (goodIn_of _ (by decide +kernel)) ggX8_allGrudges_X8_of
set_option maxRecDepth 20000 in
theorem ggX8_load1_X8_of : GoodIn wsX8_load1 wsX8_of := goodIn_r _ [4] (by decide +kernel) (by decide +kernel)
set_option maxRecDepth 20000 in
theorem gX8_load1_X8_of : GoodIn wsX8_load1 (va_wsS RX8 52 yX8_of wsX8_of) := goodIn_app (goodIn_of _ (by decide +kernel)) ggX8_load1_X8_of
set_option maxRecDepth 20000 in
theorem ggX8_reason_X8_of : GoodIn wsX8_reason wsX8_of := goodIn_r _ [4] (by decide +kernel) (by decide +kernel)
set_option maxRecDepth 20000 in
theorem gX8_reason_X8_of : GoodIn wsX8_reason (va_wsS RX8 52 yX8_of wsX8_of) := goodIn_app (goodIn_of _ (by decide +kernel)) ggX8_reason_X8_of
set_option maxRecDepth 20000 in
theorem ggX8_grudge_X8_of : GoodIn wsX8_grudge wsX8_of := goodIn_r _ [4] (by decide +kernel) (by decide +kernel)
set_option maxRecDepth 20000 in
theorem gX8_grudge_X8_of : GoodIn wsX8_grudge (va_wsS RX8 52 yX8_of wsX8_of) := goodIn_app (goodIn_of _ (by decide +kernel)) ggX8_grudge_X8_of
set_option maxRecDepth 20000 in
theorem ggX8_grudge_X8_lay : GoodIn wsX8_grudge wsX8_lay := goodIn_r _ [7] (by decide +kernel) (by decide +kernel)
set_option maxRecDepth 20000 in
theorem gX8_grudge_X8_lay : GoodIn wsX8_grudge (va_wsS RX8 56 yX8_lay wsX8_lay) := goodIn_app (goodIn_of _ (by decide +kernel)) ggX8_grudge_X8_lay
set_option maxRecDepth 20000 in
theorem ggX8_passes_X8_of : GoodIn wsX8_passes wsX8_of := goodIn_r _ [4] (by decide +kernel) (by decide +kernel)
set_option maxRecDepth 20000 in
theorem gX8_passes_X8_of : GoodIn wsX8_passes (va_wsS RX8 52 yX8_of wsX8_of) := goodIn_app (goodIn_of _ (by decide +kernel)) ggX8_passes_X8_of
set_option maxRecDepth 20000 in
theorem ggX8_passes_X8_grudge : GoodIn wsX8_passes wsX8_grudge := goodIn_r _ [7, 1, 2, 3, 4, 8, 9, 10] (by decide +kernel) (by decide +kernel)
set_option maxRecDepth 20000 in
theorem gX8_passes_X8_grudge : GoodIn wsX8_passes (va_wsS RX8 60 yX8_grudge wsX8_grudge) := goodIn_app (goodIn_of _ (by decide +kernel)) ggX8_passes_X8_grudge
set_option maxRecDepth 20000 in
theorem ggX8_stops_X8_of : GoodIn wsX8_stops wsX8_of := goodIn_r _ [4] (by decide +kernel) (by decide +kernel)
set_option maxRecDepth 20000 in
theorem gX8_stops_X8_of : GoodIn wsX8_stops (va_wsS RX8 52 yX8_of wsX8_of) := goodIn_app (goodIn_of _ (by decide +kernel)) ggX8_stops_X8_of
set_option maxRecDepth 20000 in
theorem ggX8_stops_X8_lay : GoodIn wsX8_stops wsX8_lay := goodIn_r _ [7] (by decide +kernel) (by decide +kernel)
set_option maxRecDepth 20000 in
theorem gX8_stops_X8_lay : GoodIn wsX8_stops (va_wsS RX8 56 yX8_lay wsX8_lay) := goodIn_app (goodIn_of _ (by decide +kernel)) ggX8_stops_X8_lay
set_option maxRecDepth 20000 in
theorem ggX8_stops_X8_load1 : GoodIn wsX8_stops wsX8_load1 := goodIn_r _ [10, 1, 2, 3, 4] (by decide +kernel) (by decide +kernel)
set_option maxRecDepth 20000 in
theorem gX8_stops_X8_load1 : GoodIn wsX8_stops (va_wsS RX8 64 yX8_load1 wsX8_load1) := goodIn_app (goodIn_of _ (by decide +kernel)) ggX8_stops_X8_load1
set_option maxRecDepth 20000 in
theorem ggX8_stops_X8_grudge : GoodIn wsX8_stops wsX8_grudge := goodIn_r _ [13, 1, 2, 3, 4, 5, 6, 7] (by decide +kernel) (by decide +kernel)
set_option maxRecDepth 20000 in
theorem gX8_stops_X8_grudge : GoodIn wsX8_stops (va_wsS RX8 60 yX8_grudge wsX8_grudge) := goodIn_app (goodIn_of _ (by decide +kernel)) ggX8_stops_X8_grudge
set_option maxRecDepth 20000 in
theorem ggX8_goes_X8_of : GoodIn wsX8_goes wsX8_of := goodIn_r _ [4] (by decide +kernel) (by decide +kernel)
set_option maxRecDepth 20000 in
theorem gX8_goes_X8_of : GoodIn wsX8_goes (va_wsS RX8 52 yX8_of wsX8_of) := goodIn_app (goodIn_of _ (by decide +kernel)) ggX8_goes_X8_of
set_option maxRecDepth 20000 in
theorem ggX8_goes_X8_passes : GoodIn wsX8_goes wsX8_passes := goodIn_r _ [7, 1, 2, 3, 4, 8, 9, 10, 11, 12, 13] (by decide +kernel) (by decide +kernel)
set_option maxRecDepth 20000 in
theorem gX8_goes_X8_passes : GoodIn wsX8_goes (va_wsS RX8 68 yX8_passes wsX8_passes) := goodIn_app (goodIn_of _ (by decide +kernel)) ggX8_goes_X8_passes
set_option maxRecDepth 20000 in
theorem ggX8_goes_X8_lay : GoodIn wsX8_goes wsX8_lay := goodIn_r _ [13] (by decide +kernel) (by decide +kernel)
set_option maxRecDepth 20000 in
theorem gX8_goes_X8_lay : GoodIn wsX8_goes (va_wsS RX8 56 yX8_lay wsX8_lay) := goodIn_app (goodIn_of _ (by decide +kernel)) ggX8_goes_X8_lay
set_option maxRecDepth 20000 in
theorem ggX8_goes_X8_stops : GoodIn wsX8_goes wsX8_stops := goodIn_r _ [16, 1, 2, 3, 4, 11, 12, 13, 17, 18, 19, 8, 9, 10] (by decide +kernel) (by decide +kernel)
set_option maxRecDepth 20000 in
theorem gX8_goes_X8_stops : GoodIn wsX8_goes (va_wsS RX8 71 yX8_stops wsX8_stops) := goodIn_app (goodIn_of _ (by decide +kernel)) ggX8_goes_X8_stops
set_option maxRecDepth 20000 in
theorem ggX8_pressOn_X8_reason : GoodIn wsX8_pressOn wsX8_reason := goodIn_r _ [4, 5, 6, 3, 7] (by decide +kernel) (by decide +kernel)
set_option maxRecDepth 20000 in
theorem gX8_pressOn_X8_reason : GoodIn wsX8_pressOn (va_wsS RX8 74 yX8_reason wsX8_reason) := goodIn_app (goodIn_of _ (by decide +kernel)) ggX8_pressOn_X8_reason
set_option maxRecDepth 20000 in
theorem ggX8_pressOn_X8_goes : GoodIn wsX8_pressOn wsX8_goes := goodIn_r _ [10, 5, 6, 3, 7, 11, 12, 13, 14, 15, 16, 17, 18, 19, 20, 21, 22, 23, 24, 25] (by decide +kernel) (by decide +kernel)
set_option maxRecDepth 20000 in
theorem gX8_pressOn_X8_goes : GoodIn wsX8_pressOn (va_wsS RX8 78 yX8_goes wsX8_goes) := goodIn_app (goodIn_of _ (by decide +kernel)) ggX8_pressOn_X8_goes
set_option maxRecDepth 20000 in
theorem ggX8_comeOn_X8_lay : GoodIn wsX8_comeOn wsX8_lay := goodIn_r _ [4] (by decide +kernel) (by decide +kernel)
set_option maxRecDepth 20000 in
theorem gX8_comeOn_X8_lay : GoodIn wsX8_comeOn (va_wsS RX8 56 yX8_lay wsX8_lay) := goodIn_app (goodIn_of _ (by decide +kernel)) ggX8_comeOn_X8_lay
set_option maxRecDepth 20000 in
theorem ggX8_leaveOn_X8_of : GoodIn wsX8_leaveOn wsX8_of := goodIn_r _ [4] (by decide +kernel) (by decide +kernel)
set_option maxRecDepth 20000 in
theorem gX8_leaveOn_X8_of : GoodIn wsX8_leaveOn (va_wsS RX8 52 yX8_of wsX8_of) := goodIn_app (goodIn_of _ (by decide +kernel)) ggX8_leaveOn_X8_of
set_option maxRecDepth 20000 in
theorem ggX8_restOn_X8_of : GoodIn wsX8_restOn wsX8_of := goodIn_r _ [4] (by decide +kernel) (by decide +kernel)
set_option maxRecDepth 20000 in
theorem gX8_restOn_X8_of : GoodIn wsX8_restOn (va_wsS RX8 52 yX8_of wsX8_of) := goodIn_app (goodIn_of _ (by decide +kernel)) ggX8_restOn_X8_of
set_option maxRecDepth 20000 in
theorem ggX8_restOn_X8_lay : GoodIn wsX8_restOn wsX8_lay := goodIn_r _ [7] (by decide +kernel) (by decide +kernel)
set_option maxRecDepth 20000 in
theorem gX8_restOn_X8_lay : GoodIn wsX8_restOn (va_wsS RX8 56 yX8_lay wsX8_lay) := goodIn_app (goodIn_of _ (by decide +kernel)) ggX8_restOn_X8_lay
set_option maxRecDepth 20000 in
theorem ggX8_restOn_X8_allGrudges : GoodIn wsX8_restOn wsX8_allGrudges := goodIn_r _ [10, 1, 2, 3, 4] (by decide +kernel) (by decide +kernel)
set_option maxRecDepth 20000 in
theorem gX8_restOn_X8_allGrudges : GoodIn wsX8_restOn (va_wsS RX8 81 yX8_allGrudges wsX8_allGrudges) := goodIn_app (goodIn_of _ (by decide +kernel)) ggX8_restOn_X8_allGrudges
set_option maxRecDepth 20000 in
theorem ggX8_areHome_X8_inState : GoodIn wsX8_areHome wsX8_inState := goodIn_r _ [4, 5, 6, 3, 7] (by decide +kernel) (by decide +kernel)
set_option maxRecDepth 20000 in
theorem gX8_areHome_X8_inState : GoodIn wsX8_areHome (va_wsS RX8 84 yX8_inState wsX8_inState) := goodIn_app (goodIn_of _ (by decide +kernel)) ggX8_areHome_X8_inState
set_option maxRecDepth 20000 in
theorem ggX8_bringsHome_X8_copyState : GoodIn wsX8_bringsHome wsX8_copyState := goodIn_r _ [5] (by decide +kernel) (by decide +kernel)
set_option maxRecDepth 20000 in
theorem gX8_bringsHome_X8_copyState : GoodIn wsX8_bringsHome (va_wsS RX8 87 yX8_copyState wsX8_copyState) := goodIn_app (goodIn_of _ (by decide +kernel)) ggX8_bringsHome_X8_copyState
set_option maxRecDepth 20000 in
theorem ggX8_bringsHome_X8_isGuest : GoodIn wsX8_bringsHome wsX8_isGuest := goodIn_r _ [8, 9, 10, 4, 11] (by decide +kernel) (by decide +kernel)
set_option maxRecDepth 20000 in
theorem gX8_bringsHome_X8_isGuest : GoodIn wsX8_bringsHome (va_wsS RX8 91 yX8_isGuest wsX8_isGuest) := goodIn_app (goodIn_of _ (by decide +kernel)) ggX8_bringsHome_X8_isGuest
set_option maxRecDepth 20000 in
theorem ggX8_bringsHome_X8_reason : GoodIn wsX8_bringsHome wsX8_reason := goodIn_r _ [14, 15, 16, 4, 17] (by decide +kernel) (by decide +kernel)
set_option maxRecDepth 20000 in
theorem gX8_bringsHome_X8_reason : GoodIn wsX8_bringsHome (va_wsS RX8 74 yX8_reason wsX8_reason) := goodIn_app (goodIn_of _ (by decide +kernel)) ggX8_bringsHome_X8_reason
set_option maxRecDepth 20000 in
theorem ggX8_bringsHome_X8_goes : GoodIn wsX8_bringsHome wsX8_goes := goodIn_r _ [20, 15, 16, 4, 17, 21, 22, 23, 24, 25, 26, 27, 28, 29, 30, 31, 32, 33, 34, 35] (by decide +kernel) (by decide +kernel)
set_option maxRecDepth 20000 in
theorem gX8_bringsHome_X8_goes : GoodIn wsX8_bringsHome (va_wsS RX8 78 yX8_goes wsX8_goes) := goodIn_app (goodIn_of _ (by decide +kernel)) ggX8_bringsHome_X8_goes
set_option maxRecDepth 20000 in
theorem ggX8_bringsHome_X8_areHome : GoodIn wsX8_bringsHome wsX8_areHome := goodIn_r _ [38, 39, 40, 4, 41, 15, 16, 17] (by decide +kernel) (by decide +kernel)
set_option maxRecDepth 20000 in
theorem gX8_bringsHome_X8_areHome : GoodIn wsX8_bringsHome (va_wsS RX8 95 yX8_areHome wsX8_areHome) := goodIn_app (goodIn_of _ (by decide +kernel)) ggX8_bringsHome_X8_areHome
set_option maxRecDepth 20000 in
theorem ggX8_fewestRow_X8_bringsHome : GoodIn wsX8_fewestRow wsX8_bringsHome := goodIn_r _ [5, 6, 7, 8, 4, 9, 10, 11, 12, 13, 14, 15, 16, 17, 18, 19, 20, 21, 22, 23, 24, 25, 26, 27, 28, 29, 30, 31, 32, 33, 34, 35, 36, 37, 38, 39, 40, 41, 42, 43, 44, 45, 46, 47, 48, 49, 50, 51, 52, 53, 54, 55, 56, 57] (by decide +kernel) (by decide +kernel)
set_option maxRecDepth 20000 in
theorem gX8_fewestRow_X8_bringsHome : GoodIn wsX8_fewestRow (wsV RX8 99 RX8 yX8_bringsHome wsX8_bringsHome) := goodIn_app (goodIn_of _ (by decide +kernel)) ggX8_fewestRow_X8_bringsHome
set_option maxRecDepth 20000 in
theorem ggX8_append_X8_in : GoodIn wsX8_append wsX8_in := goodIn_r _ [7] (by decide +kernel) (by decide +kernel)
set_option maxRecDepth 20000 in
theorem gX8_append_X8_in : GoodIn wsX8_append (va_wsS RX8 40 yX8_in wsX8_in) := goodIn_app (goodIn_of _ (by decide +kernel)) ggX8_append_X8_in
set_option maxRecDepth 20000 in
theorem ggX8_append_X8_refused : GoodIn wsX8_append wsX8_refused := goodIn_r _ [11, 12, 13, 14, 15, 16, 17, 18, 19, 20, 21, 22, 23, 24] (by decide +kernel) (by decide +kernel)
set_option maxRecDepth 20000 in
theorem gX8_append_X8_refused : GoodIn wsX8_append (wsV RX8 108 RX8 yX8_refused wsX8_refused) := goodIn_app (goodIn_of _ (by decide +kernel)) ggX8_append_X8_refused
set_option maxRecDepth 20000 in
theorem ggX8_figures_X8_in : GoodIn wsX8_figures wsX8_in := goodIn_r _ [8] (by decide +kernel) (by decide +kernel)
set_option maxRecDepth 20000 in
theorem gX8_figures_X8_in : GoodIn wsX8_figures (va_wsS RX8 40 yX8_in wsX8_in) := goodIn_app (goodIn_of _ (by decide +kernel)) ggX8_figures_X8_in
set_option maxRecDepth 20000 in
theorem ggX8_readGuest_X8_figures : GoodIn wsX8_readGuest wsX8_figures := goodIn_r _ [5, 6, 7, 8, 9, 10, 11, 4, 12, 24, 25, 26, 27, 28, 29, 30, 31, 32, 33, 34, 35] (by decide +kernel) (by decide +kernel)
set_option maxRecDepth 20000 in
theorem gX8_readGuest_X8_figures : GoodIn wsX8_readGuest (wsV RX8 118 RX8 yX8_figures wsX8_figures) := goodIn_app (goodIn_of _ (by decide +kernel)) ggX8_readGuest_X8_figures
set_option maxRecDepth 20000 in
theorem ggX8_readGuest_X8_comeOn : GoodIn wsX8_readGuest wsX8_comeOn := goodIn_r _ [15, 16, 17, 4, 18] (by decide +kernel) (by decide +kernel)
set_option maxRecDepth 20000 in
theorem gX8_readGuest_X8_comeOn : GoodIn wsX8_readGuest (va_wsS RX8 122 yX8_comeOn wsX8_comeOn) := goodIn_app (goodIn_of _ (by decide +kernel)) ggX8_readGuest_X8_comeOn
set_option maxRecDepth 20000 in
theorem ggX8_readGuest_X8_done : GoodIn wsX8_readGuest wsX8_done := goodIn_r _ [22, 23, 24, 25, 26, 27, 28, 29, 30, 31, 32, 33, 34, 35] (by decide +kernel) (by decide +kernel)
set_option maxRecDepth 20000 in
theorem gX8_readGuest_X8_done : GoodIn wsX8_readGuest (wsV RX8 126 RX8 yX8_done wsX8_done) := goodIn_app (goodIn_of _ (by decide +kernel)) ggX8_readGuest_X8_done
set_option maxRecDepth 20000 in
theorem ggX8_readCommand_X8_readGuest : GoodIn wsX8_readCommand wsX8_readGuest := goodIn_r _ [7, 8, 9, 10, 6, 11, 2, 12, 1, 13, 14, 15, 16, 17, 18, 19, 20, 21, 22, 23, 24, 25, 26, 27, 93, 94, 95, 96, 97, 98, 99, 100, 101, 102, 103, 104] (by decide +kernel) (by decide +kernel)
set_option maxRecDepth 20000 in
theorem gX8_readCommand_X8_readGuest : GoodIn wsX8_readCommand (wsV RX8 130 RX8 yX8_readGuest wsX8_readGuest) := goodIn_app (goodIn_of _ (by decide +kernel)) ggX8_readCommand_X8_readGuest
set_option maxRecDepth 20000 in
theorem ggX8_readCommand_X8_figures : GoodIn wsX8_readCommand wsX8_figures := goodIn_r _ [11, 2, 12, 1, 13, 14, 15, 6, 16, 93, 94, 95, 96, 97, 98, 99, 100, 101, 102, 103, 104] (by decide +kernel) (by decide +kernel)
set_option maxRecDepth 20000 in
theorem gX8_readCommand_X8_figures : GoodIn wsX8_readCommand (wsV RX8 118 RX8 yX8_figures wsX8_figures) := goodIn_app (goodIn_of _ (by decide +kernel)) ggX8_readCommand_X8_figures
set_option maxRecDepth 20000 in
theorem ggX8_readCommand_X8_isGuest : GoodIn wsX8_readCommand wsX8_isGuest := goodIn_r _ [30, 14, 15, 6, 16] (by decide +kernel) (by decide +kernel)
set_option maxRecDepth 20000 in
theorem gX8_readCommand_X8_isGuest : GoodIn wsX8_readCommand (va_wsS RX8 91 yX8_isGuest wsX8_isGuest) := goodIn_app (goodIn_of _ (by decide +kernel)) ggX8_readCommand_X8_isGuest
set_option maxRecDepth 20000 in
theorem ggX8_readCommand_X8_reason : GoodIn wsX8_readCommand wsX8_reason := goodIn_r _ [33, 34, 35, 6, 36] (by decide +kernel) (by decide +kernel)
set_option maxRecDepth 20000 in
theorem gX8_readCommand_X8_reason : GoodIn wsX8_readCommand (va_wsS RX8 74 yX8_reason wsX8_reason) := goodIn_app (goodIn_of _ (by decide +kernel)) ggX8_readCommand_X8_reason
set_option maxRecDepth 20000 in
theorem ggX8_readCommand_X8_pressOn : GoodIn wsX8_readCommand wsX8_pressOn := goodIn_r _ [39, 31, 32, 6, 33, 34, 35, 36, 40, 41, 42, 43, 44, 45, 46, 47, 48, 20, 21, 22, 49, 50, 51, 52, 53, 54] (by decide +kernel) (by decide +kernel)
set_option maxRecDepth 20000 in
theorem gX8_readCommand_X8_pressOn : GoodIn wsX8_readCommand (va_wsS RX8 133 yX8_pressOn wsX8_pressOn) := goodIn_app (goodIn_of _ (by decide +kernel)) ggX8_readCommand_X8_pressOn
set_option maxRecDepth 20000 in
theorem ggX8_readCommand_X8_done : GoodIn wsX8_readCommand wsX8_done := goodIn_r _ [26, 27, 93, 94, 95, 96, 97, 98, 99, 100, 101, 102, 103, 104] (by decide +kernel) (by decide +kernel)
set_option maxRecDepth 20000 in
theorem gX8_readCommand_X8_done : GoodIn wsX8_readCommand (wsV RX8 126 RX8 yX8_done wsX8_done) := goodIn_app (goodIn_of _ (by decide +kernel)) ggX8_readCommand_X8_done
set_option maxRecDepth 20000 in
theorem ggX8_readCommand_X8_restOn : GoodIn wsX8_readCommand wsX8_restOn := goodIn_r _ [57, 34, 35, 6, 36, 20, 21, 22, 58, 59, 60] (by decide +kernel) (by decide +kernel)
set_option maxRecDepth 20000 in
theorem gX8_readCommand_X8_restOn : GoodIn wsX8_readCommand (va_wsS RX8 136 yX8_restOn wsX8_restOn) := goodIn_app (goodIn_of _ (by decide +kernel)) ggX8_readCommand_X8_restOn
set_option maxRecDepth 20000 in
theorem ggX8_readCommand_X8_leaveOn : GoodIn wsX8_readCommand wsX8_leaveOn := goodIn_r _ [63, 34, 35, 6, 36] (by decide +kernel) (by decide +kernel)
set_option maxRecDepth 20000 in
theorem gX8_readCommand_X8_leaveOn : GoodIn wsX8_readCommand (va_wsS RX8 139 yX8_leaveOn wsX8_leaveOn) := goodIn_app (goodIn_of _ (by decide +kernel)) ggX8_readCommand_X8_leaveOn
set_option maxRecDepth 20000 in
theorem ggX8_readCommand_X8_isSetting : GoodIn wsX8_readCommand wsX8_isSetting := goodIn_r _ [66, 67, 68, 13, 14, 15, 6, 16] (by decide +kernel) (by decide +kernel)
set_option maxRecDepth 20000 in
theorem gX8_readCommand_X8_isSetting : GoodIn wsX8_readCommand (va_wsS RX8 142 yX8_isSetting wsX8_isSetting) := goodIn_app (goodIn_of _ (by decide +kernel)) ggX8_readCommand_X8_isSetting
set_option maxRecDepth 20000 in
theorem ggX8_readCommand_X8_change : GoodIn wsX8_readCommand wsX8_change := goodIn_r _ [71] (by decide +kernel) (by decide +kernel)
set_option maxRecDepth 20000 in
theorem gX8_readCommand_X8_change : GoodIn wsX8_readCommand (va_wsS RX8 146 yX8_change wsX8_change) := goodIn_app (goodIn_of _ (by decide +kernel)) ggX8_readCommand_X8_change
set_option maxRecDepth 20000 in
theorem ggX8_readCommand_X8_fewestRow : GoodIn wsX8_readCommand wsX8_fewestRow := goodIn_r _ [75, 76, 77, 78, 6, 79, 80, 81, 82, 83, 28, 29, 30, 14, 15, 16, 31, 32, 33, 34, 35, 36, 40, 41, 42, 43, 44, 45, 46, 47, 48, 20, 21, 22, 49, 50, 51, 52, 53, 54, 84, 85, 86, 87, 88, 89, 93, 94, 95, 96, 97, 98, 99, 100, 101, 102, 103, 104] (by decide +kernel) (by decide +kernel)
set_option maxRecDepth 20000 in
theorem gX8_readCommand_X8_fewestRow : GoodIn wsX8_readCommand (wsV RX8 149 RX8 yX8_fewestRow wsX8_fewestRow) := goodIn_app (goodIn_of _ (by decide +kernel)) ggX8_readCommand_X8_fewestRow
set_option maxRecDepth 20000 in
theorem ggX8_readCommand_X8_bestOf : GoodIn wsX8_readCommand wsX8_bestOf := goodIn_r _ [92] (by decide +kernel) (by decide +kernel)
set_option maxRecDepth 20000 in
theorem gX8_readCommand_X8_bestOf : GoodIn wsX8_readCommand (va_wsS RX8 152 yX8_bestOf wsX8_bestOf) := goodIn_app (goodIn_of _ (by decide +kernel)) ggX8_readCommand_X8_bestOf
set_option maxRecDepth 20000 in
theorem ggX8_readText_X8_clear : GoodIn wsX8_readText wsX8_clear := goodIn_r _ [8] (by decide +kernel) (by decide +kernel)
set_option maxRecDepth 20000 in
theorem gX8_readText_X8_clear : GoodIn wsX8_readText (va_wsS RX8 32 yX8_clear wsX8_clear) := goodIn_app (goodIn_of _ (by decide +kernel)) ggX8_readText_X8_clear
set_option maxRecDepth 20000 in
theorem ggX8_readText_X8_readCommand : GoodIn wsX8_readText wsX8_readCommand := goodIn_r _ [12, 4, 2, 13, 14, 15, 7, 16, 17, 18, 19, 20, 3, 21, 22, 23, 24, 25, 26, 27, 28, 29, 30, 31, 32, 33, 34, 1, 35, 36, 37, 38, 39, 40, 41, 42, 43, 44, 45, 46, 47, 48, 49, 50, 51, 52, 53, 54, 55, 56, 57, 58, 59, 60, 61, 62, 63, 64, 65, 66, 67, 68, 69, 70, 71, 72, 73, 74, 75, 76, 77, 78, 79, 80, 81, 82, 83, 84, 85, 86, 87, 88, 89, 90, 91, 92, 93, 94, 95, 96, 97, 98, 99, 100, 101, 102, 103, 104, 105, 106, 107, 108, 109, 110, 111] (by decide +kernel) (by decide +kernel)
set_option maxRecDepth 20000 in
theorem gX8_readText_X8_readCommand : GoodIn wsX8_readText (wsV RX8 156 RX8 yX8_readCommand wsX8_readCommand) := goodIn_app (goodIn_of _ (by decide +kernel)) ggX8_readText_X8_readCommand
set_option maxRecDepth 20000 in
theorem ggX8_errorPosition_X8_readText : GoodIn wsX8_errorPosition wsX8_readText := goodIn_r _ [7, 8, 9, 10, 11, 12, 13, 6, 14, 15, 16, 17, 18, 19, 20, 21, 22, 23, 24, 25, 26, 27, 28, 29, 30, 31, 32, 33, 34, 35, 36, 37, 38, 39, 40, 41, 42, 43, 44, 45, 46, 47, 48, 49, 50, 51, 52, 53, 54, 55, 56, 57, 58, 59, 60, 61, 62, 63, 64, 65, 66, 67, 68, 69, 70, 71, 72, 73, 74, 75, 76, 77, 78, 79, 80, 81, 82, 83, 84, 85, 86, 87, 88, 89, 90, 91, 92, 93, 94, 95, 96, 97, 98, 99, 100, 101, 102, 103, 104, 105, 106, 107, 108, 109, 110, 111, 112, 113, 114, 115, 116, 117] (by decide +kernel) (by decide +kernel)
set_option maxRecDepth 20000 in
theorem gX8_errorPosition_X8_readText : GoodIn wsX8_errorPosition (wsV RX8 159 RX8 yX8_readText wsX8_readText) := goodIn_app (goodIn_of _ (by decide +kernel)) ggX8_errorPosition_X8_readText
set_option maxRecDepth 20000 in
theorem ggX8_load_X8_readText : GoodIn wsX8_load wsX8_readText := goodIn_r _ [10, 5, 11, 12, 13, 14, 15, 9, 16, 17, 18, 19, 20, 21, 22, 23, 24, 25, 26, 27, 28, 29, 30, 31, 32, 33, 34, 35, 36, 37, 38, 39, 40, 41, 42, 43, 44, 45, 46, 47, 48, 49, 50, 51, 52, 53, 54, 55, 56, 57, 58, 59, 60, 61, 62, 63, 64, 65, 66, 67, 68, 69, 70, 71, 72, 73, 74, 75, 76, 77, 78, 79, 80, 81, 82, 83, 84, 85, 86, 87, 88, 89, 90, 91, 92, 93, 94, 95, 96, 97, 98, 99, 100, 101, 102, 103, 104, 105, 106, 107, 113, 114, 115, 116, 117, 118, 119, 120, 121, 122, 123, 124] (by decide +kernel) (by decide +kernel)
set_option maxRecDepth 20000 in
theorem gX8_load_X8_readText : GoodIn wsX8_load (wsV RX8 159 RX8 yX8_readText wsX8_readText) := goodIn_app (goodIn_of _ (by decide +kernel)) ggX8_load_X8_readText
set_option maxRecDepth 20000 in
theorem ggX8_load_X8_refused : GoodIn wsX8_load wsX8_refused := goodIn_r _ [111, 112, 113, 114, 115, 116, 117, 118, 119, 120, 121, 122, 123, 124] (by decide +kernel) (by decide +kernel)
set_option maxRecDepth 20000 in
theorem gX8_load_X8_refused : GoodIn wsX8_load (wsV RX8 108 RX8 yX8_refused wsX8_refused) := goodIn_app (goodIn_of _ (by decide +kernel)) ggX8_load_X8_refused
set_option maxRecDepth 20000 in
theorem ggX8_load_X8_copyState : GoodIn wsX8_load wsX8_copyState := goodIn_r _ [98] (by decide +kernel) (by decide +kernel)
set_option maxRecDepth 20000 in
theorem gX8_load_X8_copyState : GoodIn wsX8_load (va_wsS RX8 87 yX8_copyState wsX8_copyState) := goodIn_app (goodIn_of _ (by decide +kernel)) ggX8_load_X8_copyState
set_option maxRecDepth 20000 in
theorem ggX8_about_X8_in : GoodIn wsX8_about wsX8_in := goodIn_r _ [6] (by decide +kernel) (by decide +kernel)
set_option maxRecDepth 20000 in
theorem gX8_about_X8_in : GoodIn wsX8_about (va_wsS RX8 40 yX8_in wsX8_in) := goodIn_app (goodIn_of _ (by decide +kernel)) ggX8_about_X8_in
set_option maxRecDepth 20000 in
theorem ggX8_about_X8_refused : GoodIn wsX8_about wsX8_refused := goodIn_r _ [10, 11, 24, 25, 26, 27, 28, 29, 30, 31, 32, 33, 34, 35] (by decide +kernel) (by decide +kernel)
set_option maxRecDepth 20000 in
theorem gX8_about_X8_refused : GoodIn wsX8_about (wsV RX8 108 RX8 yX8_refused wsX8_refused) := goodIn_app (goodIn_of _ (by decide +kernel)) ggX8_about_X8_refused
set_option maxRecDepth 20000 in
theorem ggX8_about_X8_load1 : GoodIn wsX8_about wsX8_load1 := goodIn_r _ [14, 15, 16, 5, 17] (by decide +kernel) (by decide +kernel)
set_option maxRecDepth 20000 in
theorem gX8_about_X8_load1 : GoodIn wsX8_about (va_wsS RX8 64 yX8_load1 wsX8_load1) := goodIn_app (goodIn_of _ (by decide +kernel)) ggX8_about_X8_load1
set_option maxRecDepth 20000 in
theorem ggX8_about_X8_inState : GoodIn wsX8_about wsX8_inState := goodIn_r _ [20, 15, 16, 5, 17] (by decide +kernel) (by decide +kernel)
set_option maxRecDepth 20000 in
theorem gX8_about_X8_inState : GoodIn wsX8_about (va_wsS RX8 84 yX8_inState wsX8_inState) := goodIn_app (goodIn_of _ (by decide +kernel)) ggX8_about_X8_inState
set_option maxRecDepth 20000 in
theorem ggX8_about_X8_allGrudges : GoodIn wsX8_about wsX8_allGrudges := goodIn_r _ [23, 15, 16, 5, 17] (by decide +kernel) (by decide +kernel)
set_option maxRecDepth 20000 in
theorem gX8_about_X8_allGrudges : GoodIn wsX8_about (va_wsS RX8 81 yX8_allGrudges wsX8_allGrudges) := goodIn_app (goodIn_of _ (by decide +kernel)) ggX8_about_X8_allGrudges
set_option maxRecDepth 20000 in
theorem ggX8_guestOf_X8_isGuest : GoodIn wsX8_guestOf wsX8_isGuest := goodIn_r _ [6, 7, 8, 5, 9] (by decide +kernel) (by decide +kernel)
set_option maxRecDepth 20000 in
theorem gX8_guestOf_X8_isGuest : GoodIn wsX8_guestOf (va_wsS RX8 91 yX8_isGuest wsX8_isGuest) := goodIn_app (goodIn_of _ (by decide +kernel)) ggX8_guestOf_X8_isGuest
set_option maxRecDepth 20000 in
theorem ggX8_guestOf_X8_in : GoodIn wsX8_guestOf wsX8_in := goodIn_r _ [9] (by decide +kernel) (by decide +kernel)
set_option maxRecDepth 20000 in
theorem gX8_guestOf_X8_in : GoodIn wsX8_guestOf (va_wsS RX8 40 yX8_in wsX8_in) := goodIn_app (goodIn_of _ (by decide +kernel)) ggX8_guestOf_X8_in
set_option maxRecDepth 20000 in
theorem ggX8_guestOf_X8_refused : GoodIn wsX8_guestOf wsX8_refused := goodIn_r _ [13, 14, 18, 19, 20, 21, 22, 23, 24, 25, 26, 27, 28, 29] (by decide +kernel) (by decide +kernel)
set_option maxRecDepth 20000 in
theorem gX8_guestOf_X8_refused : GoodIn wsX8_guestOf (wsV RX8 108 RX8 yX8_refused wsX8_refused) := goodIn_app (goodIn_of _ (by decide +kernel)) ggX8_guestOf_X8_refused
set_option maxRecDepth 20000 in
theorem ggX8_guestOf_X8_of : GoodIn wsX8_guestOf wsX8_of := goodIn_r _ [17] (by decide +kernel) (by decide +kernel)
set_option maxRecDepth 20000 in
theorem gX8_guestOf_X8_of : GoodIn wsX8_guestOf (va_wsS RX8 52 yX8_of wsX8_of) := goodIn_app (goodIn_of _ (by decide +kernel)) ggX8_guestOf_X8_of
set_option maxRecDepth 20000 in
theorem ggX8_floorOf_X8_isFloor : GoodIn wsX8_floorOf wsX8_isFloor := goodIn_r _ [6, 7, 8, 9, 5, 10] (by decide +kernel) (by decide +kernel)
set_option maxRecDepth 20000 in
theorem gX8_floorOf_X8_isFloor : GoodIn wsX8_floorOf (va_wsS RX8 169 yX8_isFloor wsX8_isFloor) := goodIn_app (goodIn_of _ (by decide +kernel)) ggX8_floorOf_X8_isFloor
set_option maxRecDepth 20000 in
theorem ggX8_floorOf_X8_in : GoodIn wsX8_floorOf wsX8_in := goodIn_r _ [10] (by decide +kernel) (by decide +kernel)
set_option maxRecDepth 20000 in
theorem gX8_floorOf_X8_in : GoodIn wsX8_floorOf (va_wsS RX8 40 yX8_in wsX8_in) := goodIn_app (goodIn_of _ (by decide +kernel)) ggX8_floorOf_X8_in
set_option maxRecDepth 20000 in
theorem ggX8_floorOf_X8_refused : GoodIn wsX8_floorOf wsX8_refused := goodIn_r _ [14, 15, 19, 20, 21, 22, 23, 24, 25, 26, 27, 28, 29, 30] (by decide +kernel) (by decide +kernel)
set_option maxRecDepth 20000 in
theorem gX8_floorOf_X8_refused : GoodIn wsX8_floorOf (wsV RX8 108 RX8 yX8_refused wsX8_refused) := goodIn_app (goodIn_of _ (by decide +kernel)) ggX8_floorOf_X8_refused
set_option maxRecDepth 20000 in
theorem ggX8_floorOf_X8_of : GoodIn wsX8_floorOf wsX8_of := goodIn_r _ [18] (by decide +kernel) (by decide +kernel)
set_option maxRecDepth 20000 in
theorem gX8_floorOf_X8_of : GoodIn wsX8_floorOf (va_wsS RX8 52 yX8_of wsX8_of) := goodIn_app (goodIn_of _ (by decide +kernel)) ggX8_floorOf_X8_of
set_option maxRecDepth 20000 in
theorem ggX8_setting_X8_in : GoodIn wsX8_setting wsX8_in := goodIn_r _ [6] (by decide +kernel) (by decide +kernel)
set_option maxRecDepth 20000 in
theorem gX8_setting_X8_in : GoodIn wsX8_setting (va_wsS RX8 40 yX8_in wsX8_in) := goodIn_app (goodIn_of _ (by decide +kernel)) ggX8_setting_X8_in
set_option maxRecDepth 20000 in
theorem ggX8_setting_X8_refused : GoodIn wsX8_setting wsX8_refused := goodIn_r _ [10, 11, 12, 13, 14, 15, 16, 17, 18, 19, 20, 21, 22, 23] (by decide +kernel) (by decide +kernel)
set_option maxRecDepth 20000 in
theorem gX8_setting_X8_refused : GoodIn wsX8_setting (wsV RX8 108 RX8 yX8_refused wsX8_refused) := goodIn_app (goodIn_of _ (by decide +kernel)) ggX8_setting_X8_refused
set_option maxRecDepth 20000 in
theorem ggX8_remember_X8_copyState : GoodIn wsX8_remember wsX8_copyState := goodIn_r _ [7] (by decide +kernel) (by decide +kernel)
set_option maxRecDepth 20000 in
theorem gX8_remember_X8_copyState : GoodIn wsX8_remember (va_wsS RX8 87 yX8_copyState wsX8_copyState) := goodIn_app (goodIn_of _ (by decide +kernel)) ggX8_remember_X8_copyState
set_option maxRecDepth 20000 in
theorem ggX8_come_X8_isFloor : GoodIn wsX8_come wsX8_isFloor := goodIn_r _ [6, 7, 8, 9, 5, 10] (by decide +kernel) (by decide +kernel)
set_option maxRecDepth 20000 in
theorem gX8_come_X8_isFloor : GoodIn wsX8_come (va_wsS RX8 169 yX8_isFloor wsX8_isFloor) := goodIn_app (goodIn_of _ (by decide +kernel)) ggX8_come_X8_isFloor
set_option maxRecDepth 20000 in
theorem ggX8_come_X8_in : GoodIn wsX8_come wsX8_in := goodIn_r _ [10] (by decide +kernel) (by decide +kernel)
set_option maxRecDepth 20000 in
theorem gX8_come_X8_in : GoodIn wsX8_come (va_wsS RX8 40 yX8_in wsX8_in) := goodIn_app (goodIn_of _ (by decide +kernel)) ggX8_come_X8_in
set_option maxRecDepth 20000 in
theorem ggX8_come_X8_refused : GoodIn wsX8_come wsX8_refused := goodIn_r _ [14, 15, 31, 32, 33, 34, 35, 36, 37, 38, 39, 40, 41, 42] (by decide +kernel) (by decide +kernel)
set_option maxRecDepth 20000 in
theorem gX8_come_X8_refused : GoodIn wsX8_come (wsV RX8 108 RX8 yX8_refused wsX8_refused) := goodIn_app (goodIn_of _ (by decide +kernel)) ggX8_come_X8_refused
set_option maxRecDepth 20000 in
theorem ggX8_come_X8_remember : GoodIn wsX8_come wsX8_remember := goodIn_r _ [19, 20, 21, 2, 22, 23, 5, 24, 31, 32, 33, 34, 35, 36, 37, 38, 39, 40, 41, 42] (by decide +kernel) (by decide +kernel)
set_option maxRecDepth 20000 in
theorem gX8_come_X8_remember : GoodIn wsX8_come (wsV RX8 174 RX8 yX8_remember wsX8_remember) := goodIn_app (goodIn_of _ (by decide +kernel)) ggX8_come_X8_remember
set_option maxRecDepth 20000 in
theorem ggX8_come_X8_comeOn : GoodIn wsX8_come wsX8_comeOn := goodIn_r _ [27, 28, 29, 5, 30] (by decide +kernel) (by decide +kernel)
set_option maxRecDepth 20000 in
theorem gX8_come_X8_comeOn : GoodIn wsX8_come (va_wsS RX8 122 yX8_comeOn wsX8_comeOn) := goodIn_app (goodIn_of _ (by decide +kernel)) ggX8_come_X8_comeOn
set_option maxRecDepth 20000 in
theorem ggX8_leave_X8_isGuest : GoodIn wsX8_leave wsX8_isGuest := goodIn_r _ [5, 6, 7, 4, 8] (by decide +kernel) (by decide +kernel)
set_option maxRecDepth 20000 in
theorem gX8_leave_X8_isGuest : GoodIn wsX8_leave (va_wsS RX8 91 yX8_isGuest wsX8_isGuest) := goodIn_app (goodIn_of _ (by decide +kernel)) ggX8_leave_X8_isGuest
set_option maxRecDepth 20000 in
theorem ggX8_leave_X8_refused : GoodIn wsX8_leave wsX8_refused := goodIn_r _ [12, 13, 29, 30, 31, 32, 33, 34, 35, 36, 37, 38, 39, 40] (by decide +kernel) (by decide +kernel)
set_option maxRecDepth 20000 in
theorem gX8_leave_X8_refused : GoodIn wsX8_leave (wsV RX8 108 RX8 yX8_refused wsX8_refused) := goodIn_app (goodIn_of _ (by decide +kernel)) ggX8_leave_X8_refused
set_option maxRecDepth 20000 in
theorem ggX8_leave_X8_remember : GoodIn wsX8_leave wsX8_remember := goodIn_r _ [17, 18, 19, 1, 20, 21, 4, 22, 29, 30, 31, 32, 33, 34, 35, 36, 37, 38, 39, 40] (by decide +kernel) (by decide +kernel)
set_option maxRecDepth 20000 in
theorem gX8_leave_X8_remember : GoodIn wsX8_leave (wsV RX8 174 RX8 yX8_remember wsX8_remember) := goodIn_app (goodIn_of _ (by decide +kernel)) ggX8_leave_X8_remember
set_option maxRecDepth 20000 in
theorem ggX8_leave_X8_leaveOn : GoodIn wsX8_leave wsX8_leaveOn := goodIn_r _ [25, 26, 27, 4, 28] (by decide +kernel) (by decide +kernel)
set_option maxRecDepth 20000 in
theorem gX8_leave_X8_leaveOn : GoodIn wsX8_leave (va_wsS RX8 139 yX8_leaveOn wsX8_leaveOn) := goodIn_app (goodIn_of _ (by decide +kernel)) ggX8_leave_X8_leaveOn
set_option maxRecDepth 20000 in
theorem ggX8_press_X8_isGuest : GoodIn wsX8_press wsX8_isGuest := goodIn_r _ [5, 6, 7, 4, 8] (by decide +kernel) (by decide +kernel)
set_option maxRecDepth 20000 in
theorem gX8_press_X8_isGuest : GoodIn wsX8_press (va_wsS RX8 91 yX8_isGuest wsX8_isGuest) := goodIn_app (goodIn_of _ (by decide +kernel)) ggX8_press_X8_isGuest
set_option maxRecDepth 20000 in
theorem ggX8_press_X8_refused : GoodIn wsX8_press wsX8_refused := goodIn_r _ [12, 13, 50, 51, 52, 53, 54, 55, 56, 57, 58, 59, 60, 61] (by decide +kernel) (by decide +kernel)
set_option maxRecDepth 20000 in
theorem gX8_press_X8_refused : GoodIn wsX8_press (wsV RX8 108 RX8 yX8_refused wsX8_refused) := goodIn_app (goodIn_of _ (by decide +kernel)) ggX8_press_X8_refused
set_option maxRecDepth 20000 in
theorem ggX8_press_X8_remember : GoodIn wsX8_press wsX8_remember := goodIn_r _ [17, 18, 19, 1, 20, 21, 4, 22, 50, 51, 52, 53, 54, 55, 56, 57, 58, 59, 60, 61] (by decide +kernel) (by decide +kernel)
set_option maxRecDepth 20000 in
theorem gX8_press_X8_remember : GoodIn wsX8_press (wsV RX8 174 RX8 yX8_remember wsX8_remember) := goodIn_app (goodIn_of _ (by decide +kernel)) ggX8_press_X8_remember
set_option maxRecDepth 20000 in
theorem ggX8_press_X8_pressOn : GoodIn wsX8_press wsX8_pressOn := goodIn_r _ [25, 26, 27, 4, 28, 29, 30, 31, 32, 33, 34, 35, 36, 37, 38, 39, 40, 41, 42, 43, 44, 45, 46, 47, 48, 49] (by decide +kernel) (by decide +kernel)
set_option maxRecDepth 20000 in
theorem gX8_press_X8_pressOn : GoodIn wsX8_press (va_wsS RX8 133 yX8_pressOn wsX8_pressOn) := goodIn_app (goodIn_of _ (by decide +kernel)) ggX8_press_X8_pressOn
set_option maxRecDepth 20000 in
theorem ggX8_rest_X8_remember : GoodIn wsX8_rest wsX8_remember := goodIn_r _ [7, 8, 9, 2, 10, 11, 6, 12, 25, 26, 27, 28, 29, 30, 31, 32, 33, 34, 35, 36] (by decide +kernel) (by decide +kernel)
set_option maxRecDepth 20000 in
theorem gX8_rest_X8_remember : GoodIn wsX8_rest (wsV RX8 174 RX8 yX8_remember wsX8_remember) := goodIn_app (goodIn_of _ (by decide +kernel)) ggX8_rest_X8_remember
set_option maxRecDepth 20000 in
theorem ggX8_rest_X8_restOn : GoodIn wsX8_rest wsX8_restOn := goodIn_r _ [15, 16, 17, 6, 18, 19, 20, 21, 22, 23, 24] (by decide +kernel) (by decide +kernel)
set_option maxRecDepth 20000 in
theorem gX8_rest_X8_restOn : GoodIn wsX8_rest (va_wsS RX8 136 yX8_restOn wsX8_restOn) := goodIn_app (goodIn_of _ (by decide +kernel)) ggX8_rest_X8_restOn
set_option maxRecDepth 20000 in
theorem ggX8_set_X8_isSetting : GoodIn wsX8_set wsX8_isSetting := goodIn_r _ [5, 6, 7, 8, 9, 10, 4, 11] (by decide +kernel) (by decide +kernel)
set_option maxRecDepth 20000 in
theorem gX8_set_X8_isSetting : GoodIn wsX8_set (va_wsS RX8 142 yX8_isSetting wsX8_isSetting) := goodIn_app (goodIn_of _ (by decide +kernel)) ggX8_set_X8_isSetting
set_option maxRecDepth 20000 in
theorem ggX8_set_X8_refused : GoodIn wsX8_set wsX8_refused := goodIn_r _ [15, 16, 29, 30, 31, 32, 33, 34, 35, 36, 37, 38, 39, 40] (by decide +kernel) (by decide +kernel)
set_option maxRecDepth 20000 in
theorem gX8_set_X8_refused : GoodIn wsX8_set (wsV RX8 108 RX8 yX8_refused wsX8_refused) := goodIn_app (goodIn_of _ (by decide +kernel)) ggX8_set_X8_refused
set_option maxRecDepth 20000 in
theorem ggX8_set_X8_remember : GoodIn wsX8_set wsX8_remember := goodIn_r _ [20, 21, 22, 1, 23, 24, 4, 25, 29, 30, 31, 32, 33, 34, 35, 36, 37, 38, 39, 40] (by decide +kernel) (by decide +kernel)
set_option maxRecDepth 20000 in
theorem gX8_set_X8_remember : GoodIn wsX8_set (wsV RX8 174 RX8 yX8_remember wsX8_remember) := goodIn_app (goodIn_of _ (by decide +kernel)) ggX8_set_X8_remember
set_option maxRecDepth 20000 in
theorem ggX8_set_X8_change : GoodIn wsX8_set wsX8_change := goodIn_r _ [28] (by decide +kernel) (by decide +kernel)
set_option maxRecDepth 20000 in
theorem gX8_set_X8_change : GoodIn wsX8_set (va_wsS RX8 146 yX8_change wsX8_change) := goodIn_app (goodIn_of _ (by decide +kernel)) ggX8_set_X8_change
set_option maxRecDepth 20000 in
theorem ggX8_undo_X8_refused : GoodIn wsX8_undo wsX8_refused := goodIn_r _ [8, 9, 13, 14, 15, 16, 17, 18, 19, 20, 21, 22, 23, 24] (by decide +kernel) (by decide +kernel)
set_option maxRecDepth 20000 in
theorem gX8_undo_X8_refused : GoodIn wsX8_undo (wsV RX8 108 RX8 yX8_refused wsX8_refused) := goodIn_app (goodIn_of _ (by decide +kernel)) ggX8_undo_X8_refused
set_option maxRecDepth 20000 in
theorem ggX8_undo_X8_copyState : GoodIn wsX8_undo wsX8_copyState := goodIn_r _ [12] (by decide +kernel) (by decide +kernel)
set_option maxRecDepth 20000 in
theorem gX8_undo_X8_copyState : GoodIn wsX8_undo (va_wsS RX8 87 yX8_copyState wsX8_copyState) := goodIn_app (goodIn_of _ (by decide +kernel)) ggX8_undo_X8_copyState
set_option maxRecDepth 20000 in
theorem ggX8_why_X8_isGuest : GoodIn wsX8_why wsX8_isGuest := goodIn_r _ [5, 6, 7, 4, 8] (by decide +kernel) (by decide +kernel)
set_option maxRecDepth 20000 in
theorem gX8_why_X8_isGuest : GoodIn wsX8_why (va_wsS RX8 91 yX8_isGuest wsX8_isGuest) := goodIn_app (goodIn_of _ (by decide +kernel)) ggX8_why_X8_isGuest
set_option maxRecDepth 20000 in
theorem ggX8_why_X8_refused : GoodIn wsX8_why wsX8_refused := goodIn_r _ [12, 13, 20, 21, 22, 23, 24, 25, 26, 27, 28, 29, 30, 31] (by decide +kernel) (by decide +kernel)
set_option maxRecDepth 20000 in
theorem gX8_why_X8_refused : GoodIn wsX8_why (wsV RX8 108 RX8 yX8_refused wsX8_refused) := goodIn_app (goodIn_of _ (by decide +kernel)) ggX8_why_X8_refused
set_option maxRecDepth 20000 in
theorem ggX8_why_X8_reason : GoodIn wsX8_why wsX8_reason := goodIn_r _ [16, 17, 18, 4, 19] (by decide +kernel) (by decide +kernel)
set_option maxRecDepth 20000 in
theorem gX8_why_X8_reason : GoodIn wsX8_why (va_wsS RX8 74 yX8_reason wsX8_reason) := goodIn_app (goodIn_of _ (by decide +kernel)) ggX8_why_X8_reason
set_option maxRecDepth 20000 in
theorem ggX8_fewest_X8_in : GoodIn wsX8_fewest wsX8_in := goodIn_r _ [5] (by decide +kernel) (by decide +kernel)
set_option maxRecDepth 20000 in
theorem gX8_fewest_X8_in : GoodIn wsX8_fewest (va_wsS RX8 40 yX8_in wsX8_in) := goodIn_app (goodIn_of _ (by decide +kernel)) ggX8_fewest_X8_in
set_option maxRecDepth 20000 in
theorem ggX8_fewest_X8_refused : GoodIn wsX8_fewest wsX8_refused := goodIn_r _ [9, 10, 56, 57, 58, 59, 60, 61, 62, 63, 64, 65, 66, 67] (by decide +kernel) (by decide +kernel)
set_option maxRecDepth 20000 in
theorem gX8_fewest_X8_refused : GoodIn wsX8_fewest (wsV RX8 108 RX8 yX8_refused wsX8_refused) := goodIn_app (goodIn_of _ (by decide +kernel)) ggX8_fewest_X8_refused
set_option maxRecDepth 20000 in
theorem ggX8_fewest_X8_fewestRow : GoodIn wsX8_fewest wsX8_fewestRow := goodIn_r _ [14, 15, 16, 17, 4, 18, 19, 20, 21, 22, 23, 24, 25, 2, 3, 5, 26, 27, 28, 29, 30, 31, 32, 33, 34, 35, 36, 37, 38, 39, 40, 41, 42, 43, 44, 45, 46, 47, 48, 49, 50, 51, 52, 53, 54, 55, 56, 57, 58, 59, 60, 61, 62, 63, 64, 65, 66, 67] (by decide +kernel) (by decide +kernel)
set_option maxRecDepth 20000 in
theorem gX8_fewest_X8_fewestRow : GoodIn wsX8_fewest (wsV RX8 149 RX8 yX8_fewestRow wsX8_fewestRow) := goodIn_app (goodIn_of _ (by decide +kernel)) ggX8_fewest_X8_fewestRow
set_option maxRecDepth 20000 in
theorem ggX8_best_X8_fewestRow : GoodIn wsX8_best wsX8_fewestRow := goodIn_r _ [7, 8, 9, 10, 6, 11, 12, 13, 14, 15, 16, 17, 18, 19, 20, 21, 22, 23, 24, 25, 26, 27, 28, 29, 30, 31, 32, 33, 34, 35, 36, 37, 38, 39, 40, 41, 42, 43, 44, 45, 46, 47, 48, 49, 50, 51, 55, 56, 57, 58, 59, 60, 61, 62, 63, 64, 65, 66] (by decide +kernel) (by decide +kernel)
set_option maxRecDepth 20000 in
theorem gX8_best_X8_fewestRow : GoodIn wsX8_best (wsV RX8 149 RX8 yX8_fewestRow wsX8_fewestRow) := goodIn_app (goodIn_of _ (by decide +kernel)) ggX8_best_X8_fewestRow
set_option maxRecDepth 20000 in
theorem ggX8_best_X8_bestOf : GoodIn wsX8_best wsX8_bestOf := goodIn_r _ [54] (by decide +kernel) (by decide +kernel)
set_option maxRecDepth 20000 in
theorem gX8_best_X8_bestOf : GoodIn wsX8_best (va_wsS RX8 152 yX8_bestOf wsX8_bestOf) := goodIn_app (goodIn_of _ (by decide +kernel)) ggX8_best_X8_bestOf
set_option maxRecDepth 20000 in
theorem ggX8_ifPressed_X8_in : GoodIn wsX8_ifPressed wsX8_in := goodIn_r _ [8] (by decide +kernel) (by decide +kernel)
set_option maxRecDepth 20000 in
theorem gX8_ifPressed_X8_in : GoodIn wsX8_ifPressed (va_wsS RX8 40 yX8_in wsX8_in) := goodIn_app (goodIn_of _ (by decide +kernel)) ggX8_ifPressed_X8_in
set_option maxRecDepth 20000 in
theorem ggX8_ifPressed_X8_refused : GoodIn wsX8_ifPressed wsX8_refused := goodIn_r _ [12, 13, 50, 51, 52, 53, 54, 55, 56, 57, 58, 59, 60, 61] (by decide +kernel) (by decide +kernel)
set_option maxRecDepth 20000 in
theorem gX8_ifPressed_X8_refused : GoodIn wsX8_ifPressed (wsV RX8 108 RX8 yX8_refused wsX8_refused) := goodIn_app (goodIn_of _ (by decide +kernel)) ggX8_ifPressed_X8_refused
set_option maxRecDepth 20000 in
theorem ggX8_ifPressed_X8_copyState : GoodIn wsX8_ifPressed wsX8_copyState := goodIn_r _ [16] (by decide +kernel) (by decide +kernel)
set_option maxRecDepth 20000 in
theorem gX8_ifPressed_X8_copyState : GoodIn wsX8_ifPressed (va_wsS RX8 87 yX8_copyState wsX8_copyState) := goodIn_app (goodIn_of _ (by decide +kernel)) ggX8_ifPressed_X8_copyState
set_option maxRecDepth 20000 in
theorem ggX8_ifPressed_X8_isGuest : GoodIn wsX8_ifPressed wsX8_isGuest := goodIn_r _ [19, 5, 6, 7, 8] (by decide +kernel) (by decide +kernel)
set_option maxRecDepth 20000 in
theorem gX8_ifPressed_X8_isGuest : GoodIn wsX8_ifPressed (va_wsS RX8 91 yX8_isGuest wsX8_isGuest) := goodIn_app (goodIn_of _ (by decide +kernel)) ggX8_ifPressed_X8_isGuest
set_option maxRecDepth 20000 in
theorem ggX8_ifPressed_X8_reason : GoodIn wsX8_ifPressed wsX8_reason := goodIn_r _ [22, 23, 24, 7, 25] (by decide +kernel) (by decide +kernel)
set_option maxRecDepth 20000 in
theorem gX8_ifPressed_X8_reason : GoodIn wsX8_ifPressed (va_wsS RX8 74 yX8_reason wsX8_reason) := goodIn_app (goodIn_of _ (by decide +kernel)) ggX8_ifPressed_X8_reason
set_option maxRecDepth 20000 in
theorem ggX8_ifPressed_X8_goes : GoodIn wsX8_ifPressed wsX8_goes := goodIn_r _ [28, 23, 24, 7, 25, 29, 30, 31, 32, 33, 34, 35, 36, 37, 38, 39, 40, 41, 42, 43] (by decide +kernel) (by decide +kernel)
set_option maxRecDepth 20000 in
theorem gX8_ifPressed_X8_goes : GoodIn wsX8_ifPressed (va_wsS RX8 78 yX8_goes wsX8_goes) := goodIn_app (goodIn_of _ (by decide +kernel)) ggX8_ifPressed_X8_goes
set_option maxRecDepth 20000 in
theorem ggX8_ifPressed_X8_allGrudges : GoodIn wsX8_ifPressed wsX8_allGrudges := goodIn_r _ [46, 23, 24, 7, 25] (by decide +kernel) (by decide +kernel)
set_option maxRecDepth 20000 in
theorem gX8_ifPressed_X8_allGrudges : GoodIn wsX8_ifPressed (va_wsS RX8 81 yX8_allGrudges wsX8_allGrudges) := goodIn_app (goodIn_of _ (by decide +kernel)) ggX8_ifPressed_X8_allGrudges
set_option maxRecDepth 20000 in
theorem ggX8_ifPressed_X8_inState : GoodIn wsX8_ifPressed wsX8_inState := goodIn_r _ [49, 23, 24, 7, 25] (by decide +kernel) (by decide +kernel)
set_option maxRecDepth 20000 in
theorem gX8_ifPressed_X8_inState : GoodIn wsX8_ifPressed (va_wsS RX8 84 yX8_inState wsX8_inState) := goodIn_app (goodIn_of _ (by decide +kernel)) ggX8_ifPressed_X8_inState
set_option maxRecDepth 20000 in
theorem ggX8_leftStanding_X8_isGuest : GoodIn wsX8_leftStanding wsX8_isGuest := goodIn_r _ [6, 7, 8, 5, 9] (by decide +kernel) (by decide +kernel)
set_option maxRecDepth 20000 in
theorem gX8_leftStanding_X8_isGuest : GoodIn wsX8_leftStanding (va_wsS RX8 91 yX8_isGuest wsX8_isGuest) := goodIn_app (goodIn_of _ (by decide +kernel)) ggX8_leftStanding_X8_isGuest
set_option maxRecDepth 20000 in
theorem ggX8_leftStanding_X8_refused : GoodIn wsX8_leftStanding wsX8_refused := goodIn_r _ [13, 14, 39, 40, 41, 42, 43, 44, 45, 46, 47, 48, 49, 50] (by decide +kernel) (by decide +kernel)
set_option maxRecDepth 20000 in
theorem gX8_leftStanding_X8_refused : GoodIn wsX8_leftStanding (wsV RX8 108 RX8 yX8_refused wsX8_refused) := goodIn_app (goodIn_of _ (by decide +kernel)) ggX8_leftStanding_X8_refused
set_option maxRecDepth 20000 in
theorem ggX8_leftStanding_X8_of : GoodIn wsX8_leftStanding wsX8_of := goodIn_r _ [17] (by decide +kernel) (by decide +kernel)
set_option maxRecDepth 20000 in
theorem gX8_leftStanding_X8_of : GoodIn wsX8_leftStanding (va_wsS RX8 52 yX8_of wsX8_of) := goodIn_app (goodIn_of _ (by decide +kernel)) ggX8_leftStanding_X8_of
set_option maxRecDepth 20000 in
theorem ggX8_leftStanding_X8_copyState : GoodIn wsX8_leftStanding wsX8_copyState := goodIn_r _ [20] (by decide +kernel) (by decide +kernel)
set_option maxRecDepth 20000 in
theorem gX8_leftStanding_X8_copyState : GoodIn wsX8_leftStanding (va_wsS RX8 87 yX8_copyState wsX8_copyState) := goodIn_app (goodIn_of _ (by decide +kernel)) ggX8_leftStanding_X8_copyState
set_option maxRecDepth 20000 in
theorem ggX8_leftStanding_X8_goes : GoodIn wsX8_leftStanding wsX8_goes := goodIn_r _ [23, 15, 16, 5, 17, 24, 25, 26, 27, 28, 29, 30, 31, 32, 33, 34, 35, 36, 37, 38] (by decide +kernel) (by decide +kernel)
set_option maxRecDepth 20000 in
theorem gX8_leftStanding_X8_goes : GoodIn wsX8_leftStanding (va_wsS RX8 78 yX8_goes wsX8_goes) := goodIn_app (goodIn_of _ (by decide +kernel)) ggX8_leftStanding_X8_goes
set_option maxRecDepth 20000 in
theorem ggX8_commandGuest_X8_pressOn : GoodIn wsX8_commandGuest wsX8_pressOn := goodIn_r _ [5, 6, 7, 4, 8, 9, 10, 11, 12, 13, 14, 15, 16, 17, 18, 19, 20, 21, 22, 23, 24, 25, 26, 27, 28, 29] (by decide +kernel) (by decide +kernel)
set_option maxRecDepth 20000 in
theorem gX8_commandGuest_X8_pressOn : GoodIn wsX8_commandGuest (va_wsS RX8 133 yX8_pressOn wsX8_pressOn) := goodIn_app (goodIn_of _ (by decide +kernel)) ggX8_commandGuest_X8_pressOn
set_option maxRecDepth 20000 in
theorem ggX8_commandGuest_X8_leaveOn : GoodIn wsX8_commandGuest wsX8_leaveOn := goodIn_r _ [32, 9, 10, 4, 11] (by decide +kernel) (by decide +kernel)
set_option maxRecDepth 20000 in
theorem gX8_commandGuest_X8_leaveOn : GoodIn wsX8_commandGuest (va_wsS RX8 139 yX8_leaveOn wsX8_leaveOn) := goodIn_app (goodIn_of _ (by decide +kernel)) ggX8_commandGuest_X8_leaveOn
set_option maxRecDepth 20000 in
theorem ggX8_commandGuest_X8_of : GoodIn wsX8_commandGuest wsX8_of := goodIn_r _ [11] (by decide +kernel) (by decide +kernel)
set_option maxRecDepth 20000 in
theorem gX8_commandGuest_X8_of : GoodIn wsX8_commandGuest (va_wsS RX8 52 yX8_of wsX8_of) := goodIn_app (goodIn_of _ (by decide +kernel)) ggX8_commandGuest_X8_of
set_option maxRecDepth 20000 in
theorem ggX8_command_X8_isFloor : GoodIn wsX8_command wsX8_isFloor := goodIn_r _ [6, 7, 8, 9, 5, 10] (by decide +kernel) (by decide +kernel)
set_option maxRecDepth 20000 in
theorem gX8_command_X8_isFloor : GoodIn wsX8_command (va_wsS RX8 169 yX8_isFloor wsX8_isFloor) := goodIn_app (goodIn_of _ (by decide +kernel)) ggX8_command_X8_isFloor
set_option maxRecDepth 20000 in
theorem ggX8_command_X8_in : GoodIn wsX8_command wsX8_in := goodIn_r _ [10] (by decide +kernel) (by decide +kernel)
set_option maxRecDepth 20000 in
theorem gX8_command_X8_in : GoodIn wsX8_command (va_wsS RX8 40 yX8_in wsX8_in) := goodIn_app (goodIn_of _ (by decide +kernel)) ggX8_command_X8_in
set_option maxRecDepth 20000 in
theorem ggX8_command_X8_comeOn : GoodIn wsX8_command wsX8_comeOn := goodIn_r _ [13, 14, 15, 5, 16] (by decide +kernel) (by decide +kernel)
set_option maxRecDepth 20000 in
theorem gX8_command_X8_comeOn : GoodIn wsX8_command (va_wsS RX8 122 yX8_comeOn wsX8_comeOn) := goodIn_app (goodIn_of _ (by decide +kernel)) ggX8_command_X8_comeOn
set_option maxRecDepth 20000 in
theorem ggX8_command_X8_isGuest : GoodIn wsX8_command wsX8_isGuest := goodIn_r _ [19, 8, 9, 5, 10] (by decide +kernel) (by decide +kernel)
set_option maxRecDepth 20000 in
theorem gX8_command_X8_isGuest : GoodIn wsX8_command (va_wsS RX8 91 yX8_isGuest wsX8_isGuest) := goodIn_app (goodIn_of _ (by decide +kernel)) ggX8_command_X8_isGuest
set_option maxRecDepth 20000 in
theorem ggX8_command_X8_commandGuest : GoodIn wsX8_command wsX8_commandGuest := goodIn_r _ [23, 2, 24, 25, 5, 26, 27, 28, 29, 30, 31, 32, 33, 34, 35, 36, 37, 38, 39, 40, 41, 14, 15, 16, 42, 43, 44, 45, 46, 47, 48, 49, 50, 68, 69, 70, 71, 72, 73, 74, 75, 76, 77, 78, 79] (by decide +kernel) (by decide +kernel)
set_option maxRecDepth 20000 in
theorem gX8_command_X8_commandGuest : GoodIn wsX8_command (wsV RX8 179 RX8 yX8_commandGuest wsX8_commandGuest) := goodIn_app (goodIn_of _ (by decide +kernel)) ggX8_command_X8_commandGuest
set_option maxRecDepth 20000 in
theorem ggX8_command_X8_restOn : GoodIn wsX8_command wsX8_restOn := goodIn_r _ [53, 30, 31, 5, 32, 14, 15, 16, 54, 55, 56] (by decide +kernel) (by decide +kernel)
set_option maxRecDepth 20000 in
theorem gX8_command_X8_restOn : GoodIn wsX8_command (va_wsS RX8 136 yX8_restOn wsX8_restOn) := goodIn_app (goodIn_of _ (by decide +kernel)) ggX8_command_X8_restOn
set_option maxRecDepth 20000 in
theorem ggX8_command_X8_isSetting : GoodIn wsX8_command wsX8_isSetting := goodIn_r _ [59, 1, 60, 61, 8, 9, 5, 10] (by decide +kernel) (by decide +kernel)
set_option maxRecDepth 20000 in
theorem gX8_command_X8_isSetting : GoodIn wsX8_command (va_wsS RX8 142 yX8_isSetting wsX8_isSetting) := goodIn_app (goodIn_of _ (by decide +kernel)) ggX8_command_X8_isSetting
set_option maxRecDepth 20000 in
theorem ggX8_command_X8_change : GoodIn wsX8_command wsX8_change := goodIn_r _ [64] (by decide +kernel) (by decide +kernel)
set_option maxRecDepth 20000 in
theorem gX8_command_X8_change : GoodIn wsX8_command (va_wsS RX8 146 yX8_change wsX8_change) := goodIn_app (goodIn_of _ (by decide +kernel)) ggX8_command_X8_change
set_option maxRecDepth 20000 in
theorem ggX8_command_X8_inState : GoodIn wsX8_command wsX8_inState := goodIn_r _ [67, 30, 31, 5, 32] (by decide +kernel) (by decide +kernel)
set_option maxRecDepth 20000 in
theorem gX8_command_X8_inState : GoodIn wsX8_command (va_wsS RX8 84 yX8_inState wsX8_inState) := goodIn_app (goodIn_of _ (by decide +kernel)) ggX8_command_X8_inState
set_option maxRecDepth 20000 in
theorem ggX8_runScript_X8_in : GoodIn wsX8_runScript wsX8_in := goodIn_r _ [8] (by decide +kernel) (by decide +kernel)
set_option maxRecDepth 20000 in
theorem gX8_runScript_X8_in : GoodIn wsX8_runScript (va_wsS RX8 40 yX8_in wsX8_in) := goodIn_app (goodIn_of _ (by decide +kernel)) ggX8_runScript_X8_in
set_option maxRecDepth 20000 in
theorem ggX8_runScript_X8_refused : GoodIn wsX8_runScript wsX8_refused := goodIn_r _ [12, 13, 83, 84, 85, 86, 87, 88, 89, 90, 91, 92, 93, 94] (by decide +kernel) (by decide +kernel)
set_option maxRecDepth 20000 in
theorem gX8_runScript_X8_refused : GoodIn wsX8_runScript (wsV RX8 108 RX8 yX8_refused wsX8_refused) := goodIn_app (goodIn_of _ (by decide +kernel)) ggX8_runScript_X8_refused
set_option maxRecDepth 20000 in
theorem ggX8_runScript_X8_copyState : GoodIn wsX8_runScript wsX8_copyState := goodIn_r _ [16] (by decide +kernel) (by decide +kernel)
set_option maxRecDepth 20000 in
theorem gX8_runScript_X8_copyState : GoodIn wsX8_runScript (va_wsS RX8 87 yX8_copyState wsX8_copyState) := goodIn_app (goodIn_of _ (by decide +kernel)) ggX8_runScript_X8_copyState
set_option maxRecDepth 20000 in
theorem ggX8_runScript_X8_command : GoodIn wsX8_runScript wsX8_command := goodIn_r _ [20, 21, 4, 22, 23, 7, 24, 25, 5, 6, 8, 26, 27, 28, 29, 30, 31, 32, 33, 34, 35, 36, 37, 38, 39, 40, 41, 42, 43, 44, 45, 46, 47, 48, 49, 50, 51, 52, 53, 54, 55, 56, 57, 58, 59, 60, 61, 62, 63, 64, 65, 66, 67, 68, 69, 70, 71, 72, 73, 74, 75, 76, 77, 78, 79, 80, 81, 82, 83, 84, 85, 86, 87, 88, 89, 90, 91, 92, 93, 94] (by decide +kernel) (by decide +kernel)
set_option maxRecDepth 20000 in
theorem gX8_runScript_X8_command : GoodIn wsX8_runScript (wsV RX8 187 RX8 yX8_command wsX8_command) := goodIn_app (goodIn_of _ (by decide +kernel)) ggX8_runScript_X8_command
set_option maxRecDepth 20000 in
theorem ggX8_turnOf_X8_comeOn : GoodIn wsX8_turnOf wsX8_comeOn := goodIn_r _ [4, 5, 6, 3, 7] (by decide +kernel) (by decide +kernel)
set_option maxRecDepth 20000 in
theorem gX8_turnOf_X8_comeOn : GoodIn wsX8_turnOf (va_wsS RX8 122 yX8_comeOn wsX8_comeOn) := goodIn_app (goodIn_of _ (by decide +kernel)) ggX8_turnOf_X8_comeOn
set_option maxRecDepth 20000 in
theorem ggX8_turnOf_X8_isGuest : GoodIn wsX8_turnOf wsX8_isGuest := goodIn_r _ [10, 11, 12, 3, 13] (by decide +kernel) (by decide +kernel)
set_option maxRecDepth 20000 in
theorem gX8_turnOf_X8_isGuest : GoodIn wsX8_turnOf (va_wsS RX8 91 yX8_isGuest wsX8_isGuest) := goodIn_app (goodIn_of _ (by decide +kernel)) ggX8_turnOf_X8_isGuest
set_option maxRecDepth 20000 in
theorem ggX8_turnOf_X8_leaveOn : GoodIn wsX8_turnOf wsX8_leaveOn := goodIn_r _ [16, 17, 18, 3, 19] (by decide +kernel) (by decide +kernel)
set_option maxRecDepth 20000 in
theorem gX8_turnOf_X8_leaveOn : GoodIn wsX8_turnOf (va_wsS RX8 139 yX8_leaveOn wsX8_leaveOn) := goodIn_app (goodIn_of _ (by decide +kernel)) ggX8_turnOf_X8_leaveOn
set_option maxRecDepth 20000 in
theorem ggX8_turnOf_X8_restOn : GoodIn wsX8_turnOf wsX8_restOn := goodIn_r _ [22, 17, 18, 3, 19, 5, 6, 7, 23, 24, 25] (by decide +kernel) (by decide +kernel)
set_option maxRecDepth 20000 in
theorem gX8_turnOf_X8_restOn : GoodIn wsX8_turnOf (va_wsS RX8 136 yX8_restOn wsX8_restOn) := goodIn_app (goodIn_of _ (by decide +kernel)) ggX8_turnOf_X8_restOn
set_option maxRecDepth 20000 in
theorem ggX8_turnOf_X8_change : GoodIn wsX8_turnOf wsX8_change := goodIn_r _ [28] (by decide +kernel) (by decide +kernel)
set_option maxRecDepth 20000 in
theorem gX8_turnOf_X8_change : GoodIn wsX8_turnOf (va_wsS RX8 146 yX8_change wsX8_change) := goodIn_app (goodIn_of _ (by decide +kernel)) ggX8_turnOf_X8_change
set_option maxRecDepth 20000 in
theorem ggX8_turnOf_X8_pressOn : GoodIn wsX8_turnOf wsX8_pressOn := goodIn_r _ [31, 32, 33, 3, 34, 17, 18, 19, 35, 36, 37, 38, 39, 40, 41, 42, 43, 5, 6, 7, 44, 45, 46, 47, 48, 49] (by decide +kernel) (by decide +kernel)
set_option maxRecDepth 20000 in
theorem gX8_turnOf_X8_pressOn : GoodIn wsX8_turnOf (va_wsS RX8 133 yX8_pressOn wsX8_pressOn) := goodIn_app (goodIn_of _ (by decide +kernel)) ggX8_turnOf_X8_pressOn
set_option maxRecDepth 20000 in
theorem ggX8_simulate_X8_in : GoodIn wsX8_simulate wsX8_in := goodIn_r _ [9] (by decide +kernel) (by decide +kernel)
set_option maxRecDepth 20000 in
theorem gX8_simulate_X8_in : GoodIn wsX8_simulate (va_wsS RX8 40 yX8_in wsX8_in) := goodIn_app (goodIn_of _ (by decide +kernel)) ggX8_simulate_X8_in
set_option maxRecDepth 20000 in
theorem ggX8_simulate_X8_refused : GoodIn wsX8_simulate wsX8_refused := goodIn_r _ [13, 14, 66, 67, 68, 69, 70, 71, 72, 73, 74, 75, 76, 77] (by decide +kernel) (by decide +kernel)
set_option maxRecDepth 20000 in
theorem gX8_simulate_X8_refused : GoodIn wsX8_simulate (wsV RX8 108 RX8 yX8_refused wsX8_refused) := goodIn_app (goodIn_of _ (by decide +kernel)) ggX8_simulate_X8_refused
set_option maxRecDepth 20000 in
theorem ggX8_simulate_X8_copyState : GoodIn wsX8_simulate wsX8_copyState := goodIn_r _ [17] (by decide +kernel) (by decide +kernel)
set_option maxRecDepth 20000 in
theorem gX8_simulate_X8_copyState : GoodIn wsX8_simulate (va_wsS RX8 87 yX8_copyState wsX8_copyState) := goodIn_app (goodIn_of _ (by decide +kernel)) ggX8_simulate_X8_copyState
set_option maxRecDepth 20000 in
theorem ggX8_simulate_X8_turnOf : GoodIn wsX8_simulate wsX8_turnOf := goodIn_r _ [20, 21, 22, 8, 23, 24, 25, 26, 27, 28, 29, 6, 7, 9, 30, 31, 32, 33, 34, 35, 36, 37, 38, 39, 40, 41, 42, 43, 44, 45, 46, 47, 48, 49, 50, 51, 52, 53, 54, 55, 56, 57, 58, 59, 60, 61, 62, 63, 64, 65] (by decide +kernel) (by decide +kernel)
set_option maxRecDepth 20000 in
theorem gX8_simulate_X8_turnOf : GoodIn wsX8_simulate (va_wsS RX8 196 yX8_turnOf wsX8_turnOf) := goodIn_app (goodIn_of _ (by decide +kernel)) ggX8_simulate_X8_turnOf
set_option maxRecDepth 20000 in
theorem ggX8_simulate_X8_allGrudges : GoodIn wsX8_simulate wsX8_allGrudges := goodIn_r _ [41, 33, 34, 8, 35] (by decide +kernel) (by decide +kernel)
set_option maxRecDepth 20000 in
theorem gX8_simulate_X8_allGrudges : GoodIn wsX8_simulate (va_wsS RX8 81 yX8_allGrudges wsX8_allGrudges) := goodIn_app (goodIn_of _ (by decide +kernel)) ggX8_simulate_X8_allGrudges
set_option maxRecDepth 20000 in
theorem ggX8_save_X8_in : GoodIn wsX8_save wsX8_in := goodIn_r _ [7] (by decide +kernel) (by decide +kernel)
set_option maxRecDepth 20000 in
theorem gX8_save_X8_in : GoodIn wsX8_save (va_wsS RX8 40 yX8_in wsX8_in) := goodIn_app (goodIn_of _ (by decide +kernel)) ggX8_save_X8_in
set_option maxRecDepth 20000 in
theorem ggX8_save_X8_refused : GoodIn wsX8_save wsX8_refused := goodIn_r _ [11, 12, 16, 17, 18, 19, 20, 21, 22, 23, 24, 25, 26, 27] (by decide +kernel) (by decide +kernel)
set_option maxRecDepth 20000 in
theorem gX8_save_X8_refused : GoodIn wsX8_save (wsV RX8 108 RX8 yX8_refused wsX8_refused) := goodIn_app (goodIn_of _ (by decide +kernel)) ggX8_save_X8_refused
set_option maxRecDepth 20000 in
theorem ggX8_save_X8_copyState : GoodIn wsX8_save wsX8_copyState := goodIn_r _ [15] (by decide +kernel) (by decide +kernel)
set_option maxRecDepth 20000 in
theorem gX8_save_X8_copyState : GoodIn wsX8_save (va_wsS RX8 87 yX8_copyState wsX8_copyState) := goodIn_app (goodIn_of _ (by decide +kernel)) ggX8_save_X8_copyState
set_option maxRecDepth 20000 in
theorem ggX8_restore_X8_in : GoodIn wsX8_restore wsX8_in := goodIn_r _ [8] (by decide +kernel) (by decide +kernel)
set_option maxRecDepth 20000 in
theorem gX8_restore_X8_in : GoodIn wsX8_restore (va_wsS RX8 40 yX8_in wsX8_in) := goodIn_app (goodIn_of _ (by decide +kernel)) ggX8_restore_X8_in
set_option maxRecDepth 20000 in
theorem ggX8_restore_X8_refused : GoodIn wsX8_restore wsX8_refused := goodIn_r _ [12, 13, 17, 18, 19, 20, 21, 22, 23, 24, 25, 26, 27, 28] (by decide +kernel) (by decide +kernel)
set_option maxRecDepth 20000 in
theorem gX8_restore_X8_refused : GoodIn wsX8_restore (wsV RX8 108 RX8 yX8_refused wsX8_refused) := goodIn_app (goodIn_of _ (by decide +kernel)) ggX8_restore_X8_refused
set_option maxRecDepth 20000 in
theorem ggX8_restore_X8_copyState : GoodIn wsX8_restore wsX8_copyState := goodIn_r _ [16] (by decide +kernel) (by decide +kernel)
set_option maxRecDepth 20000 in
theorem gX8_restore_X8_copyState : GoodIn wsX8_restore (va_wsS RX8 87 yX8_copyState wsX8_copyState) := goodIn_app (goodIn_of _ (by decide +kernel)) ggX8_restore_X8_copyState
