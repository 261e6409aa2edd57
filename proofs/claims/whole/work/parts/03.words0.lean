set_option maxRecDepth 20000 in
theorem ggX1_isSettingValue_X1_isSetting : GoodIn wsX1_isSettingValue wsX1_isSetting := goodIn_r _ [6, 1] (by decide +kernel) (by decide +kernel)
set_option maxRecDepth 20000 in
theorem gX1_isSettingValue_X1_isSetting : GoodIn wsX1_isSettingValue (va_wsS RX1 42 yX1_isSetting wsX1_isSetting) := goodIn_app (goodIn_of _ (by decide +kernel)) ggX1_isSettingValue_X1_isSetting
set_option maxRecDepth 20000 in
theorem ggX1_number_X1_weightOfRiders : GoodIn wsX1_number wsX1_weightOfRiders := goodIn_r _ [12, 1, 13, 14, 24, 25, 26, 27, 28, 29, 30, 31, 32, 33, 34, 35, 36, 37, 38, 39] (by decide +kernel) (by decide +kernel)
set_option maxRecDepth 20000 in
theorem gX1_number_X1_weightOfRiders : GoodIn wsX1_number (wsV RX1 77 RX1 yX1_weightOfRiders wsX1_weightOfRiders) := goodIn_app (goodIn_of _ (by decide +kernel)) ggX1_number_X1_weightOfRiders
set_option maxRecDepth 20000 in
theorem ggX1_number_X1_guestsIn : GoodIn wsX1_number wsX1_guestsIn := goodIn_r _ [18, 1, 13, 24, 25, 26, 27, 28, 29, 30, 31, 32, 33, 34, 35, 36, 37, 38, 39] (by decide +kernel) (by decide +kernel)
set_option maxRecDepth 20000 in
theorem gX1_number_X1_guestsIn : GoodIn wsX1_number (wsV RX1 81 RX1 yX1_guestsIn wsX1_guestsIn) := goodIn_app (goodIn_of _ (by decide +kernel)) ggX1_number_X1_guestsIn
set_option maxRecDepth 20000 in
theorem ggX1_number_X1_allGrudges : GoodIn wsX1_number wsX1_allGrudges := goodIn_r _ [22, 1, 23, 24, 25, 26, 27, 28, 29, 30, 31, 32, 33, 34, 35, 36, 37, 38, 39] (by decide +kernel) (by decide +kernel)
set_option maxRecDepth 20000 in
theorem gX1_number_X1_allGrudges : GoodIn wsX1_number (wsV RX1 85 RX1 yX1_allGrudges wsX1_allGrudges) := goodIn_app (goodIn_of _ (by decide +kernel)) ggX1_number_X1_allGrudges
set_option maxRecDepth 20000 in
theorem ggX1_guestNumber_X1_isGuest : GoodIn wsX1_guestNumber wsX1_isGuest := goodIn_r _ [12, 13, 20, 21, 22, 23, 24, 25, 26, 27, 28, 29, 30, 31, 32, 33, 34, 35] (by decide +kernel) (by decide +kernel)
set_option maxRecDepth 20000 in
theorem gX1_guestNumber_X1_isGuest : GoodIn wsX1_guestNumber (wsV RX1 88 RX1 yX1_isGuest wsX1_isGuest) := goodIn_app (goodIn_of _ (by decide +kernel)) ggX1_guestNumber_X1_isGuest
set_option maxRecDepth 20000 in
theorem ggX1_guestNumber_X1_whereIs : GoodIn wsX1_guestNumber wsX1_whereIs := goodIn_r _ [17, 4, 18, 2, 19, 8, 9, 10, 11, 12, 13, 20, 21, 22, 23, 24, 25, 26, 27, 28, 29, 30, 31, 32, 33, 34, 35] (by decide +kernel) (by decide +kernel)
set_option maxRecDepth 20000 in
theorem gX1_guestNumber_X1_whereIs : GoodIn wsX1_guestNumber (wsV RX1 91 RX1 yX1_whereIs wsX1_whereIs) := goodIn_app (goodIn_of _ (by decide +kernel)) ggX1_guestNumber_X1_whereIs
set_option maxRecDepth 20000 in
theorem ggX1_stateOf_X1_isGuest : GoodIn wsX1_stateOf wsX1_isGuest := goodIn_r _ [6, 7, 8, 9, 10, 11, 12, 13, 14, 15, 16, 17, 18, 19, 20, 21, 22, 23] (by decide +kernel) (by decide +kernel)
set_option maxRecDepth 20000 in
theorem gX1_stateOf_X1_isGuest : GoodIn wsX1_stateOf (wsV RX1 88 RX1 yX1_isGuest wsX1_isGuest) := goodIn_app (goodIn_of _ (by decide +kernel)) ggX1_stateOf_X1_isGuest
set_option maxRecDepth 20000 in
theorem ggX1_grudgesOf_X1_isGuest : GoodIn wsX1_grudgesOf wsX1_isGuest := goodIn_r _ [6, 7, 8, 9, 10, 11, 12, 13, 14, 15, 16, 17, 18, 19, 20, 21, 22, 23] (by decide +kernel) (by decide +kernel)
set_option maxRecDepth 20000 in
theorem gX1_grudgesOf_X1_isGuest : GoodIn wsX1_grudgesOf (wsV RX1 88 RX1 yX1_isGuest wsX1_isGuest) := goodIn_app (goodIn_of _ (by decide +kernel)) ggX1_grudgesOf_X1_isGuest
set_option maxRecDepth 20000 in
theorem ggX1_settingOf_X1_isSetting : GoodIn wsX1_settingOf wsX1_isSetting := goodIn_r _ [5, 6] (by decide +kernel) (by decide +kernel)
set_option maxRecDepth 20000 in
theorem gX1_settingOf_X1_isSetting : GoodIn wsX1_settingOf (va_wsS RX1 42 yX1_isSetting wsX1_isSetting) := goodIn_app (goodIn_of _ (by decide +kernel)) ggX1_settingOf_X1_isSetting
set_option maxRecDepth 20000 in
theorem ggX1_floorSet_X1_belongsTo : GoodIn wsX1_floorSet wsX1_belongsTo := goodIn_r _ [6, 1, 7, 8, 9, 10, 11, 12, 13, 14, 15, 16, 17, 18, 19, 20, 21, 22, 23, 24, 25, 26] (by decide +kernel) (by decide +kernel)
set_option maxRecDepth 20000 in
theorem gX1_floorSet_X1_belongsTo : GoodIn wsX1_floorSet (wsV RX1 94 RX1 yX1_belongsTo wsX1_belongsTo) := goodIn_app (goodIn_of _ (by decide +kernel)) ggX1_floorSet_X1_belongsTo
set_option maxRecDepth 20000 in
theorem ggX1_whereIs_X1_isGuest : GoodIn wsX1_whereIs wsX1_isGuest := goodIn_r _ [9, 10, 11, 12, 13, 14, 15, 16, 17, 18, 19, 20, 21, 22, 23, 24, 25, 26] (by decide +kernel) (by decide +kernel)
set_option maxRecDepth 20000 in
theorem gX1_whereIs_X1_isGuest : GoodIn wsX1_whereIs (wsV RX1 88 RX1 yX1_isGuest wsX1_isGuest) := goodIn_app (goodIn_of _ (by decide +kernel)) ggX1_whereIs_X1_isGuest
set_option maxRecDepth 20000 in
theorem ggX1_areAllHome_X1_guestsIn : GoodIn wsX1_areAllHome wsX1_guestsIn := goodIn_r _ [6, 1, 7, 8, 9, 10, 11, 12, 13, 14, 15, 16, 17, 18, 19, 20, 21, 22, 23] (by decide +kernel) (by decide +kernel)
set_option maxRecDepth 20000 in
theorem gX1_areAllHome_X1_guestsIn : GoodIn wsX1_areAllHome (wsV RX1 81 RX1 yX1_guestsIn wsX1_guestsIn) := goodIn_app (goodIn_of _ (by decide +kernel)) ggX1_areAllHome_X1_guestsIn
set_option maxRecDepth 20000 in
theorem ggX1_admit_X1_isFloor : GoodIn wsX1_admit wsX1_isFloor := goodIn_r _ [13] (by decide +kernel) (by decide +kernel)
set_option maxRecDepth 20000 in
theorem gX1_admit_X1_isFloor : GoodIn wsX1_admit (va_wsS RX1 98 yX1_isFloor wsX1_isFloor) := goodIn_app (goodIn_of _ (by decide +kernel)) ggX1_admit_X1_isFloor
set_option maxRecDepth 20000 in
theorem ggX1_admit_X1_isWeight : GoodIn wsX1_admit wsX1_isWeight := goodIn_r _ [16] (by decide +kernel) (by decide +kernel)
set_option maxRecDepth 20000 in
theorem gX1_admit_X1_isWeight : GoodIn wsX1_admit (va_wsS RX1 101 yX1_isWeight wsX1_isWeight) := goodIn_app (goodIn_of _ (by decide +kernel)) ggX1_admit_X1_isWeight
set_option maxRecDepth 20000 in
theorem ggX1_admit_X1_isFull : GoodIn wsX1_admit wsX1_isFull := goodIn_r _ [20, 1, 21, 22, 23, 24, 25, 26, 27, 28, 29, 30, 31, 32, 33, 34, 35, 36] (by decide +kernel) (by decide +kernel)
set_option maxRecDepth 20000 in
theorem gX1_admit_X1_isFull : GoodIn wsX1_admit (wsV RX1 104 RX1 yX1_isFull wsX1_isFull) := goodIn_app (goodIn_of _ (by decide +kernel)) ggX1_admit_X1_isFull
set_option maxRecDepth 20000 in
theorem ggX1_dismiss_X1_isGuest : GoodIn wsX1_dismiss wsX1_isGuest := goodIn_r _ [7, 2, 19, 20, 21, 22, 23, 24, 25, 26, 27, 28, 29, 30, 31, 32, 33, 34] (by decide +kernel) (by decide +kernel)
set_option maxRecDepth 20000 in
theorem gX1_dismiss_X1_isGuest : GoodIn wsX1_dismiss (wsV RX1 88 RX1 yX1_isGuest wsX1_isGuest) := goodIn_app (goodIn_of _ (by decide +kernel)) ggX1_dismiss_X1_isGuest
set_option maxRecDepth 20000 in
theorem ggX1_dismiss_X1_moveGuest : GoodIn wsX1_dismiss wsX1_moveGuest := goodIn_r _ [11, 12, 13, 14, 15, 16, 1, 17, 18, 3, 4, 5, 6, 7, 2, 19, 20, 21, 22, 23, 24, 25, 26, 27, 28, 29, 30, 31, 32, 33, 34] (by decide +kernel) (by decide +kernel)
set_option maxRecDepth 20000 in
theorem gX1_dismiss_X1_moveGuest : GoodIn wsX1_dismiss (wsV RX1 108 RX1 yX1_moveGuest wsX1_moveGuest) := goodIn_app (goodIn_of _ (by decide +kernel)) ggX1_dismiss_X1_moveGuest
set_option maxRecDepth 20000 in
theorem ggX1_moveGuest_X1_isGuest : GoodIn wsX1_moveGuest wsX1_isGuest := goodIn_r _ [13, 14, 15, 16, 17, 18, 19, 20, 21, 22, 23, 24, 25, 26, 27, 28, 29, 30] (by decide +kernel) (by decide +kernel)
set_option maxRecDepth 20000 in
theorem gX1_moveGuest_X1_isGuest : GoodIn wsX1_moveGuest (wsV RX1 88 RX1 yX1_isGuest wsX1_isGuest) := goodIn_app (goodIn_of _ (by decide +kernel)) ggX1_moveGuest_X1_isGuest
set_option maxRecDepth 20000 in
theorem ggX1_change_X1_isSettingValue : GoodIn wsX1_change wsX1_isSettingValue := goodIn_r _ [5, 6, 7, 8, 9, 4, 10] (by decide +kernel) (by decide +kernel)
set_option maxRecDepth 20000 in
theorem gX1_change_X1_isSettingValue : GoodIn wsX1_change (va_wsS RX1 112 yX1_isSettingValue wsX1_isSettingValue) := goodIn_app (goodIn_of _ (by decide +kernel)) ggX1_change_X1_isSettingValue
set_option maxRecDepth 20000 in
theorem ggX1_reasonOf_X1_isGuest : GoodIn wsX1_reasonOf wsX1_isGuest := goodIn_r _ [10, 11, 12, 13, 14, 15, 16, 17, 18, 19, 20, 21, 22, 23, 24, 25, 26, 27] (by decide +kernel) (by decide +kernel)
set_option maxRecDepth 20000 in
theorem gX1_reasonOf_X1_isGuest : GoodIn wsX1_reasonOf (wsV RX1 88 RX1 yX1_isGuest wsX1_isGuest) := goodIn_app (goodIn_of _ (by decide +kernel)) ggX1_reasonOf_X1_isGuest
set_option maxRecDepth 20000 in
theorem ggX1_goIfWilling_X1_reasonOf : GoodIn wsX1_goIfWilling wsX1_reasonOf := goodIn_r _ [5, 6, 7, 8, 9, 10, 11, 12, 13, 4, 14, 15, 53, 54, 55, 56, 57, 58, 59, 60, 61, 62, 63, 64, 65, 66, 67, 68] (by decide +kernel) (by decide +kernel)
set_option maxRecDepth 20000 in
theorem gX1_goIfWilling_X1_reasonOf : GoodIn wsX1_goIfWilling (wsV RX1 116 RX1 yX1_reasonOf wsX1_reasonOf) := goodIn_app (goodIn_of _ (by decide +kernel)) ggX1_goIfWilling_X1_reasonOf
set_option maxRecDepth 20000 in
theorem ggX1_goIfWilling_X1_goFor : GoodIn wsX1_goIfWilling wsX1_goFor := goodIn_r _ [19, 20, 21, 10, 11, 12, 13, 4, 14, 15, 22, 23, 24, 25, 9, 6, 26, 27, 8, 28, 29, 30, 31, 32, 33, 34, 35, 36, 37, 38, 7, 39, 40, 41, 42, 43, 44, 45, 46, 47, 48, 49, 50, 51, 52, 53, 54, 55, 56, 57, 58, 59, 60, 61, 62, 63, 64, 65, 66, 67, 68] (by decide +kernel) (by decide +kernel)
set_option maxRecDepth 20000 in
theorem gX1_goIfWilling_X1_goFor : GoodIn wsX1_goIfWilling (wsV RX1 119 RX1 yX1_goFor wsX1_goFor) := goodIn_app (goodIn_of _ (by decide +kernel)) ggX1_goIfWilling_X1_goFor
set_option maxRecDepth 20000 in
theorem ggX1_pressBy_X1_reasonOf : GoodIn wsX1_pressBy wsX1_reasonOf := goodIn_r _ [6, 7, 8, 9, 10, 11, 12, 13, 14, 5, 15, 16, 54, 55, 56, 57, 58, 59, 60, 61, 62, 63, 64, 65, 66, 67, 68, 69] (by decide +kernel) (by decide +kernel)
set_option maxRecDepth 20000 in
theorem gX1_pressBy_X1_reasonOf : GoodIn wsX1_pressBy (wsV RX1 116 RX1 yX1_reasonOf wsX1_reasonOf) := goodIn_app (goodIn_of _ (by decide +kernel)) ggX1_pressBy_X1_reasonOf
set_option maxRecDepth 20000 in
theorem ggX1_pressBy_X1_goFor : GoodIn wsX1_pressBy wsX1_goFor := goodIn_r _ [20, 21, 22, 11, 12, 13, 14, 5, 15, 16, 23, 24, 25, 26, 10, 7, 27, 28, 9, 29, 30, 31, 32, 33, 34, 35, 36, 37, 38, 39, 8, 40, 41, 42, 43, 44, 45, 46, 47, 48, 49, 50, 51, 52, 53, 54, 55, 56, 57, 58, 59, 60, 61, 62, 63, 64, 65, 66, 67, 68, 69] (by decide +kernel) (by decide +kernel)
set_option maxRecDepth 20000 in
theorem gX1_pressBy_X1_goFor : GoodIn wsX1_pressBy (wsV RX1 119 RX1 yX1_goFor wsX1_goFor) := goodIn_app (goodIn_of _ (by decide +kernel)) ggX1_pressBy_X1_goFor
set_option maxRecDepth 20000 in
theorem ggX1_standingBehind_X1_isGuest : GoodIn wsX1_standingBehind wsX1_isGuest := goodIn_r _ [7, 8, 57, 58, 59, 60, 61, 62, 63, 64, 65, 66, 67, 68, 69, 70, 71, 72] (by decide +kernel) (by decide +kernel)
set_option maxRecDepth 20000 in
theorem gX1_standingBehind_X1_isGuest : GoodIn wsX1_standingBehind (wsV RX1 88 RX1 yX1_isGuest wsX1_isGuest) := goodIn_app (goodIn_of _ (by decide +kernel)) ggX1_standingBehind_X1_isGuest
set_option maxRecDepth 20000 in
theorem ggX1_standingBehind_X1_goFor : GoodIn wsX1_standingBehind wsX1_goFor := goodIn_r _ [12, 13, 14, 2, 3, 4, 5, 6, 7, 8, 15, 16, 17, 18, 1, 19, 20, 21, 22, 23, 24, 25, 26, 27, 28, 29, 30, 31, 32, 33, 34, 35, 36, 37, 38, 39, 40, 41, 42, 43, 44, 45, 46, 47, 48, 57, 58, 59, 60, 61, 62, 63, 64, 65, 66, 67, 68, 69, 70, 71, 72] (by decide +kernel) (by decide +kernel)
set_option maxRecDepth 20000 in
theorem gX1_standingBehind_X1_goFor : GoodIn wsX1_standingBehind (wsV RX1 119 RX1 yX1_goFor wsX1_goFor) := goodIn_app (goodIn_of _ (by decide +kernel)) ggX1_standingBehind_X1_goFor
set_option maxRecDepth 20000 in
theorem ggX1_standingBehind_X1_floorSet : GoodIn wsX1_standingBehind wsX1_floorSet := goodIn_r _ [52, 8, 53, 54, 55, 6, 56, 19, 29, 28, 2, 57, 58, 59, 60, 61, 62, 63, 64, 65, 66, 67, 68, 69, 70, 71, 72] (by decide +kernel) (by decide +kernel)
set_option maxRecDepth 20000 in
theorem gX1_standingBehind_X1_floorSet : GoodIn wsX1_standingBehind (wsV RX1 123 RX1 yX1_floorSet wsX1_floorSet) := goodIn_app (goodIn_of _ (by decide +kernel)) ggX1_standingBehind_X1_floorSet
set_option maxRecDepth 20000 in
theorem ggX1_goFor_X1_isGuest : GoodIn wsX1_goFor wsX1_isGuest := goodIn_r _ [8, 9, 45, 46, 47, 48, 49, 50, 51, 52, 53, 54, 55, 56, 57, 58, 59, 60] (by decide +kernel) (by decide +kernel)
set_option maxRecDepth 20000 in
theorem gX1_goFor_X1_isGuest : GoodIn wsX1_goFor (wsV RX1 88 RX1 yX1_isGuest wsX1_isGuest) := goodIn_app (goodIn_of _ (by decide +kernel)) ggX1_goFor_X1_isGuest
set_option maxRecDepth 20000 in
theorem ggX1_goFor_X1_travelTo : GoodIn wsX1_goFor wsX1_travelTo := goodIn_r _ [13, 14, 9, 15, 16, 17, 18, 19, 20, 21, 22, 7, 23, 24, 25, 26, 27, 28, 29, 30, 45, 46, 47, 48, 49, 50, 51, 52, 53, 54, 55, 56, 57, 58, 59, 60] (by decide +kernel) (by decide +kernel)
set_option maxRecDepth 20000 in
theorem gX1_goFor_X1_travelTo : GoodIn wsX1_goFor (wsV RX1 127 RX1 yX1_travelTo wsX1_travelTo) := goodIn_app (goodIn_of _ (by decide +kernel)) ggX1_goFor_X1_travelTo
set_option maxRecDepth 20000 in
theorem ggX1_goFor_X1_letOut : GoodIn wsX1_goFor wsX1_letOut := goodIn_r _ [34, 9, 15, 24, 14, 30, 35, 45, 46, 47, 48, 49, 50, 51, 52, 53, 54, 55, 56, 57, 58, 59, 60] (by decide +kernel) (by decide +kernel)
set_option maxRecDepth 20000 in
theorem gX1_goFor_X1_letOut : GoodIn wsX1_goFor (wsV RX1 130 RX1 yX1_letOut wsX1_letOut) := goodIn_app (goodIn_of _ (by decide +kernel)) ggX1_goFor_X1_letOut
set_option maxRecDepth 20000 in
theorem ggX1_goFor_X1_letIn : GoodIn wsX1_goFor wsX1_letIn := goodIn_r _ [39, 9, 15, 25, 14, 40, 18, 30, 41, 42, 43, 7, 44, 26, 27, 28, 29, 45, 46, 47, 48, 49, 50, 51, 52, 53, 54, 55, 56, 57, 58, 59, 60] (by decide +kernel) (by decide +kernel)
set_option maxRecDepth 20000 in
theorem gX1_goFor_X1_letIn : GoodIn wsX1_goFor (wsV RX1 133 RX1 yX1_letIn wsX1_letIn) := goodIn_app (goodIn_of _ (by decide +kernel)) ggX1_goFor_X1_letIn
set_option maxRecDepth 20000 in
theorem ggX1_travelTo_X1_hopedStop : GoodIn wsX1_travelTo wsX1_hopedStop := goodIn_r _ [12, 2, 3, 13, 14, 20, 21, 22, 23, 24, 25, 26, 27, 28, 29, 30, 31, 32, 33, 34, 35] (by decide +kernel) (by decide +kernel)
set_option maxRecDepth 20000 in
theorem gX1_travelTo_X1_hopedStop : GoodIn wsX1_travelTo (wsV RX1 136 RX1 yX1_hopedStop wsX1_hopedStop) := goodIn_app (goodIn_of _ (by decide +kernel)) ggX1_travelTo_X1_hopedStop
set_option maxRecDepth 20000 in
theorem ggX1_travelTo_X1_addGrudge : GoodIn wsX1_travelTo wsX1_addGrudge := goodIn_r _ [18, 2, 19, 20, 21, 22, 23, 24, 25, 26, 27, 28, 29, 30, 31, 32, 33, 34, 35] (by decide +kernel) (by decide +kernel)
set_option maxRecDepth 20000 in
theorem gX1_travelTo_X1_addGrudge : GoodIn wsX1_travelTo (wsV RX1 139 RX1 yX1_addGrudge wsX1_addGrudge) := goodIn_app (goodIn_of _ (by decide +kernel)) ggX1_travelTo_X1_addGrudge
set_option maxRecDepth 20000 in
theorem ggX1_letIn_X1_weightOfRiders : GoodIn wsX1_letIn wsX1_weightOfRiders := goodIn_r _ [12, 1, 2, 5, 17, 18, 19, 20, 21, 22, 23, 24, 25, 26, 27, 28, 29, 30, 31, 32] (by decide +kernel) (by decide +kernel)
set_option maxRecDepth 20000 in
theorem gX1_letIn_X1_weightOfRiders : GoodIn wsX1_letIn (wsV RX1 77 RX1 yX1_weightOfRiders wsX1_weightOfRiders) := goodIn_app (goodIn_of _ (by decide +kernel)) ggX1_letIn_X1_weightOfRiders
set_option maxRecDepth 20000 in
theorem ggX1_letIn_X1_addGrudge : GoodIn wsX1_letIn wsX1_addGrudge := goodIn_r _ [16, 1, 7, 17, 18, 19, 20, 21, 22, 23, 24, 25, 26, 27, 28, 29, 30, 31, 32] (by decide +kernel) (by decide +kernel)
set_option maxRecDepth 20000 in
theorem gX1_letIn_X1_addGrudge : GoodIn wsX1_letIn (wsV RX1 139 RX1 yX1_addGrudge wsX1_addGrudge) := goodIn_app (goodIn_of _ (by decide +kernel)) ggX1_letIn_X1_addGrudge
set_option maxRecDepth 20000 in
theorem ggX2_digitAt_X2_signAt : GoodIn wsX2_digitAt wsX2_signAt := goodIn_r _ [5, 6, 7, 8, 9] (by decide +kernel) (by decide +kernel)
set_option maxRecDepth 20000 in
theorem gX2_digitAt_X2_signAt : GoodIn wsX2_digitAt (wsV RX2 19 RX2 yX2_signAt wsX2_signAt) := goodIn_app (goodIn_of _ (by decide +kernel)) ggX2_digitAt_X2_signAt
set_option maxRecDepth 20000 in
theorem ggX2_isCommand_X2_signAt : GoodIn wsX2_isCommand wsX2_signAt := goodIn_r _ [5, 6, 7, 11, 12] (by decide +kernel) (by decide +kernel)
set_option maxRecDepth 20000 in
theorem gX2_isCommand_X2_signAt : GoodIn wsX2_isCommand (wsV RX2 19 RX2 yX2_signAt wsX2_signAt) := goodIn_app (goodIn_of _ (by decide +kernel)) ggX2_isCommand_X2_signAt
set_option maxRecDepth 20000 in
theorem ggX2_isCommand_X2_digitsOf : GoodIn wsX2_isCommand wsX2_digitsOf := goodIn_r _ [10] (by decide +kernel) (by decide +kernel)
set_option maxRecDepth 20000 in
theorem gX2_isCommand_X2_digitsOf : GoodIn wsX2_isCommand (va_wsS RX2 23 yX2_digitsOf wsX2_digitsOf) := goodIn_app (goodIn_of _ (by decide +kernel)) ggX2_isCommand_X2_digitsOf
set_option maxRecDepth 20000 in
theorem ggX2_firstError_X2_signAt : GoodIn wsX2_firstError wsX2_signAt := goodIn_r _ [6, 1, 7, 26, 27] (by decide +kernel) (by decide +kernel)
set_option maxRecDepth 20000 in
theorem gX2_firstError_X2_signAt : GoodIn wsX2_firstError (wsV RX2 19 RX2 yX2_signAt wsX2_signAt) := goodIn_app (goodIn_of _ (by decide +kernel)) ggX2_firstError_X2_signAt
set_option maxRecDepth 20000 in
theorem ggX2_firstError_X2_isDigitAllowed : GoodIn wsX2_firstError wsX2_isDigitAllowed := goodIn_r _ [11, 12, 13, 14, 5, 15, 2, 3, 4, 6, 1, 7, 16, 17, 18, 26, 27] (by decide +kernel) (by decide +kernel)
set_option maxRecDepth 20000 in
theorem gX2_firstError_X2_isDigitAllowed : GoodIn wsX2_firstError (wsV RX2 26 RX2 yX2_isDigitAllowed wsX2_isDigitAllowed) := goodIn_app (goodIn_of _ (by decide +kernel)) ggX2_firstError_X2_isDigitAllowed
set_option maxRecDepth 20000 in
theorem ggX2_firstError_X2_isCommand : GoodIn wsX2_firstError wsX2_isCommand := goodIn_r _ [22, 2, 3, 4, 5, 6, 1, 7, 23, 24, 25, 26, 27] (by decide +kernel) (by decide +kernel)
set_option maxRecDepth 20000 in
theorem gX2_firstError_X2_isCommand : GoodIn wsX2_firstError (wsV RX2 30 RX2 yX2_isCommand wsX2_isCommand) := goodIn_app (goodIn_of _ (by decide +kernel)) ggX2_firstError_X2_isCommand
set_option maxRecDepth 20000 in
theorem ggX2_firstError_X2_digitsOf : GoodIn wsX2_firstError wsX2_digitsOf := goodIn_r _ [25] (by decide +kernel) (by decide +kernel)
set_option maxRecDepth 20000 in
theorem gX2_firstError_X2_digitsOf : GoodIn wsX2_firstError (va_wsS RX2 23 yX2_digitsOf wsX2_digitsOf) := goodIn_app (goodIn_of _ (by decide +kernel)) ggX2_firstError_X2_digitsOf
set_option maxRecDepth 20000 in
theorem ggX2_isDigitAllowed_X2_digitAt : GoodIn wsX2_isDigitAllowed wsX2_digitAt := goodIn_r _ [5, 6, 7, 8, 4, 9, 10, 11, 15, 16] (by decide +kernel) (by decide +kernel)
set_option maxRecDepth 20000 in
theorem gX2_isDigitAllowed_X2_digitAt : GoodIn wsX2_isDigitAllowed (wsV RX2 34 RX2 yX2_digitAt wsX2_digitAt) := goodIn_app (goodIn_of _ (by decide +kernel)) ggX2_isDigitAllowed_X2_digitAt
set_option maxRecDepth 20000 in
theorem ggX2_isDigitAllowed_X2_greatestDigit : GoodIn wsX2_isDigitAllowed wsX2_greatestDigit := goodIn_r _ [14] (by decide +kernel) (by decide +kernel)
set_option maxRecDepth 20000 in
theorem gX2_isDigitAllowed_X2_greatestDigit : GoodIn wsX2_isDigitAllowed (va_wsS RX2 37 yX2_greatestDigit wsX2_greatestDigit) := goodIn_app (goodIn_of _ (by decide +kernel)) ggX2_isDigitAllowed_X2_greatestDigit
set_option maxRecDepth 20000 in
theorem ggX3_remember_X3_forgetOldest : GoodIn wsX3_remember wsX3_forgetOldest := goodIn_r _ [10, 2, 1, 41, 42] (by decide +kernel) (by decide +kernel)
set_option maxRecDepth 20000 in
theorem gX3_remember_X3_forgetOldest : GoodIn wsX3_remember (wsV RX3 19 RX3 yX3_forgetOldest wsX3_forgetOldest) := goodIn_app (goodIn_of _ (by decide +kernel)) ggX3_remember_X3_forgetOldest
set_option maxRecDepth 20000 in
theorem ggX3_remember_X1_init : GoodIn wsX3_remember wsX1_init := goodIn_r _ [12, 13, 14, 15, 16, 17, 18, 19, 20, 21, 22, 23, 24, 25, 43, 44, 45, 46, 47, 48, 49, 50, 51, 52, 53, 54, 55, 56, 57, 58] (by decide +kernel) (by decide +kernel)
set_option maxRecDepth 20000 in
theorem gX3_remember_X1_init_n22 : GoodIn wsX3_remember (wsX1_init) := ggX3_remember_X1_init
set_option maxRecDepth 20000 in
theorem ggX3_remember_X1_copyFrom : GoodIn wsX3_remember wsX1_copyFrom := goodIn_r _ [29, 30, 31, 32, 33, 34, 35, 36, 17, 37, 38, 39, 40, 18, 19, 20, 21, 22, 23, 24, 25, 43, 44, 45, 46, 47, 48, 49, 50, 51, 52, 53, 54, 55, 56, 57, 58] (by decide +kernel) (by decide +kernel)
set_option maxRecDepth 20000 in
theorem gX3_remember_X1_copyFrom : GoodIn wsX3_remember (wsV RX3 23 RX1 yX1_copyFrom wsX1_copyFrom) := goodIn_app (goodIn_of _ (by decide +kernel)) ggX3_remember_X1_copyFrom
set_option maxRecDepth 20000 in
theorem ggX3_takeBack_X1_copyFrom : GoodIn wsX3_takeBack wsX1_copyFrom := goodIn_r _ [7, 8, 9, 10, 11, 12, 13, 14, 15, 16, 17, 18, 19, 20, 21, 22, 23, 24, 25, 26, 27, 30, 31, 32, 33, 34, 35, 36, 37, 38, 39, 40, 41, 42, 43, 44, 45] (by decide +kernel) (by decide +kernel)
set_option maxRecDepth 20000 in
theorem gX3_takeBack_X1_copyFrom : GoodIn wsX3_takeBack (wsV RX3 23 RX1 yX1_copyFrom wsX1_copyFrom) := goodIn_app (goodIn_of _ (by decide +kernel)) ggX3_takeBack_X1_copyFrom
set_option maxRecDepth 20000 in
theorem ggX4_succeeds_X1_admit : GoodIn wsX4_succeeds wsX1_admit := goodIn_r _ [5, 6, 7, 8, 9, 10, 11, 12, 13, 14, 15, 16, 4, 17, 18, 19, 20, 21, 22, 23, 24, 121, 122, 123, 124, 125, 126, 127, 128, 129, 130, 131, 132, 133, 134, 135, 136] (by decide +kernel) (by decide +kernel)
set_option maxRecDepth 20000 in
theorem gX4_succeeds_X1_admit : GoodIn wsX4_succeeds (wsV RX4 9 RX1 yX1_admit wsX1_admit) := goodIn_app (goodIn_of _ (by decide +kernel)) ggX4_succeeds_X1_admit
set_option maxRecDepth 20000 in
theorem ggX4_succeeds_X1_pressBy : GoodIn wsX4_succeeds wsX1_pressBy := goodIn_r _ [28, 29, 30, 31, 32, 4, 33, 11, 12, 34, 35, 7, 36, 37, 38, 39, 6, 40, 41, 42, 43, 44, 13, 45, 46, 47, 48, 14, 49, 50, 51, 52, 53, 54, 9, 8, 55, 56, 57, 58, 59, 60, 61, 62, 63, 64, 65, 66, 67, 10, 68, 69, 70, 71, 121, 122, 123, 124, 125, 126, 127, 128, 129, 130, 131, 132, 133, 134, 135, 136] (by decide +kernel) (by decide +kernel)
set_option maxRecDepth 20000 in
theorem gX4_succeeds_X1_pressBy : GoodIn wsX4_succeeds (wsV RX4 15 RX1 yX1_pressBy wsX1_pressBy) := goodIn_app (goodIn_of _ (by decide +kernel)) ggX4_succeeds_X1_pressBy
set_option maxRecDepth 20000 in
theorem ggX4_succeeds_X4_restTimes : GoodIn wsX4_succeeds wsX4_restTimes := goodIn_r _ [75, 76, 77, 78, 4, 79, 49, 6, 12, 121, 122, 123, 124, 125, 126, 127, 128, 129, 130, 131, 132, 133, 134, 135, 136] (by decide +kernel) (by decide +kernel)
set_option maxRecDepth 20000 in
theorem gX4_succeeds_X4_restTimes : GoodIn wsX4_succeeds (va_wsS RX4 19 yX4_restTimes wsX4_restTimes) := goodIn_app (goodIn_of _ (by decide +kernel)) ggX4_succeeds_X4_restTimes
set_option maxRecDepth 20000 in
theorem ggX4_succeeds_X1_dismiss : GoodIn wsX4_succeeds wsX1_dismiss := goodIn_r _ [83, 12, 6, 36, 37, 38, 4, 39, 84, 85, 86, 87, 7, 8, 9, 10, 11, 13, 14, 121, 122, 123, 124, 125, 126, 127, 128, 129, 130, 131, 132, 133, 134, 135, 136] (by decide +kernel) (by decide +kernel)
set_option maxRecDepth 20000 in
theorem gX4_succeeds_X1_dismiss : GoodIn wsX4_succeeds (wsV RX4 25 RX1 yX1_dismiss wsX1_dismiss) := goodIn_app (goodIn_of _ (by decide +kernel)) ggX4_succeeds_X1_dismiss
set_option maxRecDepth 20000 in
theorem ggX4_succeeds_X1_change : GoodIn wsX4_succeeds wsX1_change := goodIn_r _ [91, 34, 92, 93, 4, 94, 95, 96, 97, 98, 99, 121, 122, 123, 124, 125, 126, 127, 128, 129, 130, 131, 132, 133, 134, 135, 136] (by decide +kernel) (by decide +kernel)
set_option maxRecDepth 20000 in
theorem gX4_succeeds_X1_change : GoodIn wsX4_succeeds (wsV RX4 28 RX1 yX1_change wsX1_change) := goodIn_app (goodIn_of _ (by decide +kernel)) ggX4_succeeds_X1_change
