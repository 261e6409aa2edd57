set_option maxRecDepth 20000 in
theorem ggX1_isSettingValue_X1_isSetting : GoodIn wsX1_isSettingValue wsX1_isSetting := goodIn_r _ [6, 1] (by decide +kernel) (by decide +kernel)
set_option maxRecDepth 20000 in
theorem gX1_isSettingValue_X1_isSetting : GoodIn wsX1_isSettingValue (va_wsS RX1 42 yX1_isSetting wsX1_isSetting) := goodIn_app (goodIn_of _ (by decide +kernel)) ggX1_isSettingValue_X1_isSetting
set_option maxRecDepth 20000 in
theorem ggX1_number_X1_weightOfRiders : GoodIn wsX1_number wsX1_weightOfRiders := goodIn_r _ [12, 1, 13, 14, 24, 25, 26, 27, 28, 29, 30, 31, 32, 33, 34, 35, 36, 37, 38, 39] (by decide +kernel) (by decide +kernel)
set_option maxRecDepth 20000 in
theorem gX1_number_X1_weightOfRiders : GoodIn wsX1_number (wsV RX1 77 RX1 yX1_weightOfRiders wsX1_weightOfRiders) := goodIn_app (goodIn_of _ (by decide +kernel)) ggX1_number_X1_weightOfRiders
set_option maxRecDepth 20000 in
theorem ggX1_number_X1_guestsIn : GoodIn wsX1_number wsX1_guestsIn := goodIn_r _ [18, 1, 13, 24, 25, 26, 27, 28, 29, 30, 31, 32, 33, 34, 35, 36, 37, 38, 39] (by decide +kernel) (by decide +kernel)
set_option maxRecDepth 20000 in
theorem gX1_number_X1_guestsIn : GoodIn wsX1_number (wsV RX1 81 RX1 yX1_guestsIn wsX1_guestsIn) := goodIn_app (goodIn_of _ (by decide +kernel)) ggX1_number_X1_guestsIn
set_option maxRecDepth 20000 in
theorem ggX1_number_X1_allGrudges : GoodIn wsX1_number wsX1_allGrudges := goodIn_r _ [22, 1, 23, 24, 25, 26, 27, 28, 29, 30, 31, 32, 33, 34, 35, 36, 37, 38, 39] (by decide +kernel) (by decide +kernel)
set_option maxRecDepth 20000 in
theorem gX1_number_X1_allGrudges : GoodIn wsX1_number (wsV RX1 85 RX1 yX1_allGrudges wsX1_allGrudges) := goodIn_app (goodIn_of _ (by decide +kernel)) ggX1_number_X1_allGrudges
set_option maxRecDepth 20000 in
theorem ggX1_guestNumber_X1_isGuest : GoodIn wsX1_guestNumber wsX1_isGuest := goodIn_r _ [12, 13, 20, 21, 22, 23, 24, 25, 26, 27, 28, 29, 30, 31, 32, 33, 34, 35] (by decide +kernel) (by decide +kernel)
set_option maxRecDepth 20000 in
theorem gX1_guestNumber_X1_isGuest : GoodIn wsX1_guestNumber (wsV RX1 88 RX1 yX1_isGuest wsX1_isGuest) := goodIn_app (goodIn_of _ (by decide +kernel)) ggX1_guestNumber_X1_isGuest
set_option maxRecDepth 20000 in
theorem ggX1_guestNumber_X1_whereIs : GoodIn wsX1_guestNumber wsX1_whereIs := goodIn_r _ [17, 4, 18, 2, 19, 8, 9, 10, 11, 12, 13, 20, 21, 22, 23, 24, 25, 26, 27, 28, 29, 30, 31, 32, 33, 34, 35] (by decide +kernel) (by decide +kernel)
set_option maxRecDepth 20000 in
theorem gX1_guestNumber_X1_whereIs : GoodIn wsX1_guestNumber (wsV RX1 91 RX1 yX1_whereIs wsX1_whereIs) := goodIn_app (goodIn_of _ (by decide +kernel)) ggX1_guestNumber_X1_whereIs
set_option maxRecDepth 20000 in
theorem ggX1_stateOf_X1_isGuest : GoodIn wsX1_stateOf wsX1_isGuest := goodIn_r _ [6, 7, 8, 9, 10, 11, 12, 13, 14, 15, 16, 17, 18, 19, 20, 21, 22, 23] (by decide +kernel) (by decide +kernel)
set_option maxRecDepth 20000 in
theorem gX1_stateOf_X1_isGuest : GoodIn wsX1_stateOf (wsV RX1 88 RX1 yX1_isGuest wsX1_isGuest) := goodIn_app (goodIn_of _ (by decide +kernel)) ggX1_stateOf_X1_isGuest
set_option maxRecDepth 20000 in
theorem ggX1_grudgesOf_X1_isGuest : GoodIn wsX1_grudgesOf wsX1_isGuest := goodIn_r _ [6, 7, 8, 9, 10, 11, 12, 13, 14, 15, 16, 17, 18, 19, 20, 21, 22, 23] (by decide +kernel) (by decide +kernel)
set_option maxRecDepth 20000 in
theorem gX1_grudgesOf_X1_isGuest : GoodIn wsX1_grudgesOf (wsV RX1 88 RX1 yX1_isGuest wsX1_isGuest) := goodIn_app (goodIn_of _ (by decide +kernel)) ggX1_grudgesOf_X1_isGuest
set_option maxRecDepth 20000 in
theorem ggX1_settingOf_X1_isSetting : GoodIn wsX1_settingOf wsX1_isSetting := goodIn_r _ [5, 6] (by decide +kernel) (by decide +kernel)
set_option maxRecDepth 20000 in
theorem gX1_settingOf_X1_isSetting : GoodIn wsX1_settingOf (va_wsS RX1 42 yX1_isSetting wsX1_isSetting) := goodIn_app (goodIn_of _ (by decide +kernel)) ggX1_settingOf_X1_isSetting
set_option maxRecDepth 20000 in
theorem ggX1_floorSet_X1_belongsTo : GoodIn wsX1_floorSet wsX1_belongsTo := goodIn_r _ [6, 1, 7, 8, 9, 10, 11, 12, 13, 14, 15, 16, 17, 18, 19, 20, 21, 22, 23, 24, 25, 26] (by decide +kernel) (by decide +kernel)
set_option maxRecDepth 20000 in
theorem gX1_floorSet_X1_belongsTo : GoodIn wsX1_floorSet (wsV RX1 94 RX1 yX1_belongsTo wsX1_belongsTo) := goodIn_app (goodIn_of _ (by decide +kernel)) ggX1_floorSet_X1_belongsTo
set_option maxRecDepth 20000 in
theorem ggX1_whereIs_X1_isGuest : GoodIn wsX1_whereIs wsX1_isGuest := goodIn_r _ [9, 10, 11, 12, 13, 14, 15, 16, 17, 18, 19, 20, 21, 22, 23, 24, 25, 26] (by decide +kernel) (by decide +kernel)
set_option maxRecDepth 20000 in
theorem gX1_whereIs_X1_isGuest : GoodIn wsX1_whereIs (wsV RX1 88 RX1 yX1_isGuest wsX1_isGuest) := goodIn_app (goodIn_of _ (by decide +kernel)) ggX1_whereIs_X1_isGuest
set_option maxRecDepth 20000 in
theorem ggX1_areAllHome_X1_guestsIn : GoodIn wsX1_areAllHome wsX1_guestsIn := goodIn_r _ [6, 1, 7, 8, 9, 10, 11, 12, 13, 14, 15, 16, 17, 18, 19, 20, 21, 22, 23] (by decide +kernel) (by decide +kernel)
set_option maxRecDepth 20000 in
theorem gX1_areAllHome_X1_guestsIn : GoodIn wsX1_areAllHome (wsV RX1 81 RX1 yX1_guestsIn wsX1_guestsIn) := goodIn_app (goodIn_of _ (by decide +kernel)) ggX1_areAllHome_X1_guestsIn
set_option maxRecDepth 20000 in
theorem ggX1_admit_X1_isFloor : GoodIn wsX1_admit wsX1_isFloor := goodIn_r _ [13] (by decide +kernel) (by decide +kernel)
set_option maxRecDepth 20000 in
theorem gX1_admit_X1_isFloor : GoodIn wsX1_admit (va_wsS RX1 98 yX1_isFloor wsX1_isFloor) := goodIn_app (goodIn_of _ (by decide +kernel)) ggX1_admit_X1_isFloor
set_option maxRecDepth 20000 in
theorem ggX1_admit_X1_isWeight : GoodIn wsX1_admit wsX1_isWeight := goodIn_r _ [16] (by decide +kernel) (by decide +kernel)
set_option maxRecDepth 20000 in
theorem gX1_admit_X1_isWeight : GoodIn wsX1_admit (va_wsS RX1 101 yX1_isWeight wsX1_isWeight) := goodIn_app (goodIn_of _ (by decide +kernel)) ggX1_admit_X1_isWeight
set_option maxRecDepth 20000 in
theorem ggX1_admit_X1_isFull : GoodIn wsX1_admit wsX1_isFull := goodIn_r _ [20, 1, 21, 22, 23, 24, 25, 26, 27, 28, 29, 30, 31, 32, 33, 34, 35, 36] (by decide +kernel) (by decide +kernel)
set_option maxRecDepth 20000 in
theorem gX1_admit_X1_isFull : GoodIn wsX1_admit (wsV RX1 104 RX1 yX1_isFull wsX1_isFull) := goodIn_app (goodIn_of _ (by decide +kernel)) ggX1_admit_X1_isFull
set_option maxRecDepth 20000 in
theorem ggX1_dismiss_X1_isGuest : GoodIn wsX1_dismiss wsX1_isGuest := goodIn_r _ [7, 2, 19, 20, 21, 22, 23, 24, 25, 26, 27, 28, 29, 30, 31, 32, 33, 34] (by decide +kernel) (by decide +kernel)
set_option maxRecDepth 20000 in
theorem gX1_dismiss_X1_isGuest : GoodIn wsX1_dismiss (wsV RX1 88 RX1 yX1_isGuest wsX1_isGuest) := goodIn_app (goodIn_of _ (by decide +kernel)) ggX1_dismiss_X1_isGuest
set_option maxRecDepth 20000 in
theorem ggX1_dismiss_X1_moveGuest : GoodIn wsX1_dismiss wsX1_moveGuest := goodIn_r _ [11, 12, 13, 14, 15, 16, 1, 17, 18, 3, 4, 5, 6, 7, 2, 19, 20, 21, 22, 23, 24, 25, 26, 27, 28, 29, 30, 31, 32, 33, 34] (by decide +kernel) (by decide +kernel)
set_option maxRecDepth 20000 in
theorem gX1_dismiss_X1_moveGuest : GoodIn wsX1_dismiss (wsV RX1 108 RX1 yX1_moveGuest wsX1_moveGuest) := goodIn_app (goodIn_of _ (by decide +kernel)) ggX1_dismiss_X1_moveGuest
set_option maxRecDepth 20000 in
theorem ggX1_moveGuest_X1_isGuest : GoodIn wsX1_moveGuest wsX1_isGuest := goodIn_r _ [13, 14, 15, 16, 17, 18, 19, 20, 21, 22, 23, 24, 25, 26, 27, 28, 29, 30] (by decide +kernel) (by decide +kernel)
set_option maxRecDepth 20000 in
theorem gX1_moveGuest_X1_isGuest : GoodIn wsX1_moveGuest (wsV RX1 88 RX1 yX1_isGuest wsX1_isGuest) := goodIn_app (goodIn_of _ (by decide +kernel)) ggX1_moveGuest_X1_isGuest
set_option maxRecDepth 20000 in
theorem ggX1_change_X1_isSettingValue : GoodIn wsX1_change wsX1_isSettingValue := goodIn_r _ [5, 6, 7, 8, 9, 4, 10] (by decide +kernel) (by decide +kernel)
set_option maxRecDepth 20000 in
theorem gX1_change_X1_isSettingValue : GoodIn wsX1_change (va_wsS RX1 112 yX1_isSettingValue wsX1_isSettingValue) := goodIn_app (goodIn_of _ (by decide +kernel)) ggX1_change_X1_isSettingValue
set_option maxRecDepth 20000 in
theorem ggX1_reasonOf_X1_isGuest : GoodIn wsX1_reasonOf wsX1_isGuest := goodIn_r _ [10, 11, 12, 13, 14, 15, 16, 17, 18, 19, 20, 21, 22, 23, 24, 25, 26, 27] (by decide +kernel) (by decide +kernel)
set_option maxRecDepth 20000 in
theorem gX1_reasonOf_X1_isGuest : GoodIn wsX1_reasonOf (wsV RX1 88 RX1 yX1_isGuest wsX1_isGuest) := goodIn_app (goodIn_of _ (by decide +kernel)) ggX1_reasonOf_X1_isGuest
set_option maxRecDepth 20000 in
theorem ggX1_goIfWilling_X1_reasonOf : GoodIn wsX1_goIfWilling wsX1_reasonOf := goodIn_r _ [5, 6, 7, 8, 9, 10, 11, 12, 13, 4, 14, 15, 53, 54, 55, 56, 57, 58, 59, 60, 61, 62, 63, 64, 65, 66, 67, 68] (by decide +kernel) (by decide +kernel)
set_option maxRecDepth 20000 in
theorem gX1_goIfWilling_X1_reasonOf : GoodIn wsX1_goIfWilling (wsV RX1 116 RX1 yX1_reasonOf wsX1_reasonOf) := goodIn_app (goodIn_of _ (by decide +kernel)) ggX1_goIfWilling_X1_reasonOf
set_option maxRecDepth 20000 in
theorem ggX1_goIfWilling_X1_goFor : GoodIn wsX1_goIfWilling wsX1_goFor := goodIn_r _ [19, 20, 21, 10, 11, 12, 13, 4, 14, 15, 22, 23, 24, 25, 9, 6, 26, 27, 8, 28, 29, 30, 31, 32, 33, 34, 35, 36, 37, 38, 7, 39, 40, 41, 42, 43, 44, 45, 46, 47, 48, 49, 50, 51, 52, 53, 54, 55, 56, 57, 58, 59, 60, 61, 62, 63, 64, 65, 66, 67, 68] (by decide +kernel) (by decide +kernel)
set_option maxRecDepth 20000 in
theorem gX1_goIfWilling_X1_goFor : GoodIn wsX1_goIfWilling (wsV RX1 119 RX1 yX1_goFor wsX1_goFor) := goodIn_app (goodIn_of _ (by decide +kernel)) ggX1_goIfWilling_X1_goFor
set_option maxRecDepth 20000 in
theorem ggX1_pressBy_X1_reasonOf : GoodIn wsX1_pressBy wsX1_reasonOf := goodIn_r _ [6, 7, 8, 9, 10, 11, 12, 13, 14, 5, 15, 16, 54, 55, 56, 57, 58, 59, 60, 61, 62, 63, 64, 65, 66, 67, 68, 69] (by decide +kernel) (by decide +kernel)
set_option maxRecDepth 20000 in
theorem gX1_pressBy_X1_reasonOf : GoodIn wsX1_pressBy (wsV RX1 116 RX1 yX1_reasonOf wsX1_reasonOf) := goodIn_app (goodIn_of _ (by decide +kernel)) ggX1_pressBy_X1_reasonOf
set_option maxRecDepth 20000 in
theorem ggX1_pressBy_X1_goFor : GoodIn wsX1_pressBy wsX1_goFor := goodIn_r _ [20, 21, 22, 11, 12, 13, 14, 5, 15, 16, 23, 24, 25, 26, 10, 7, 27, 28, 9, 29, 30, 31, 32, 33, 34, 35, 36, 37, 38, 39, 8, 40, 41, 42, 43, 44, 45, 46, 47, 48, 49, 50, 51, 52, 53, 54, 55, 56, 57, 58, 59, 60, 61, 62, 63, 64, 65, 66, 67, 68, 69] (by decide +kernel) (by decide +kernel)
set_option maxRecDepth 20000 in
theorem gX1_pressBy_X1_goFor : GoodIn wsX1_pressBy (wsV RX1 119 RX1 yX1_goFor wsX1_goFor) := goodIn_app (goodIn_of _ (by decide +kernel)) ggX1_pressBy_X1_goFor
set_option maxRecDepth 20000 in
theorem ggX1_standingBehind_X1_isGuest : GoodIn wsX1_standingBehind wsX1_isGuest := goodIn_r _ [7, 8, 57, 58, 59, 60, 61, 62, 63, 64, 65, 66, 67, 68, 69, 70, 71, 72] (by decide +kernel) (by decide +kernel)
set_option maxRecDepth 20000 in
theorem gX1_standingBehind_X1_isGuest : GoodIn wsX1_standingBehind (wsV RX1 88 RX1 yX1_isGuest wsX1_isGuest) := goodIn_app (goodIn_of _ (by decide +kernel)) ggX1_standingBehind_X1_isGuest
set_option maxRecDepth 20000 in
theorem ggX1_standingBehind_X1_goFor : GoodIn wsX1_standingBehind wsX1_goFor := goodIn_r _ [12, 13, 14, 2, 3, 4, 5, 6, 7, 8, 15, 16, 17, 18, 1, 19, 20, 21, 22, 23, 24, 25, 26, 27, 28, 29, 30, 31, 32, 33, 34, 35, 36, 37, 38, 39, 40, 41, 42, 43, 44, 45, 46, 47, 48, 57, 58, 59, 60, 61, 62, 63, 64, 65, 66, 67, 68, 69, 70, 71, 72] (by decide +kernel) (by decide +kernel)
set_option maxRecDepth 20000 in
theorem gX1_standingBehind_X1_goFor : GoodIn wsX1_standingBehind (wsV RX1 119 RX1 yX1_goFor wsX1_goFor) := goodIn_app (goodIn_of _ (by decide +kernel)) ggX1_standingBehind_X1_goFor
set_option maxRecDepth 20000 in
theorem ggX1_standingBehind_X1_floorSet : GoodIn wsX1_standingBehind wsX1_floorSet := goodIn_r _ [52, 8, 53, 54, 55, 6, 56, 19, 29, 28, 2, 57, 58, 59, 60, 61, 62, 63, 64, 65, 66, 67, 68, 69, 70, 71, 72] (by decide +kernel) (by decide +kernel)
set_option maxRecDepth 20000 in
theorem gX1_standingBehind_X1_floorSet : GoodIn wsX1_standingBehind (wsV RX1 123 RX1 yX1_floorSet wsX1_floorSet) := goodIn_app (goodIn_of _ (by decide +kernel)) ggX1_standingBehind_X1_floorSet
set_option maxRecDepth 20000 in
theorem ggX1_goFor_X1_isGuest : GoodIn wsX1_goFor wsX1_isGuest := goodIn_r _ [8, 9, 45, 46, 47, 48, 49, 50, 51, 52, 53, 54, 55, 56, 57, 58, 59, 60] (by decide +kernel) (by decide +kernel)
set_option maxRecDepth 20000 in
theorem gX1_goFor_X1_isGuest : GoodIn wsX1_goFor (wsV RX1 88 RX1 yX1_isGuest wsX1_isGuest) := goodIn_app (goodIn_of _ (by decide +kernel)) ggX1_goFor_X1_isGuest
