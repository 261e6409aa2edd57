set_option maxRecDepth 20000 in
theorem ggX4_succeeds_X1_stateOf : GoodIn wsX4_succeeds wsX1_stateOf := goodIn_r _ [103, 11, 36, 37, 38, 4, 39, 6, 121, 122, 123, 124, 125, 126, 127, 128, 129, 130, 131, 132, 133, 134, 135, 136] (by decide +kernel) (by decide +kernel)
set_option maxRecDepth 20000 in
theorem gX4_succeeds_X1_stateOf : GoodIn wsX4_succeeds (wsV RX4 32 RX1 yX1_stateOf wsX1_stateOf) := goodIn_app (goodIn_of _ (by decide +kernel)) ggX4_succeeds_X1_stateOf
set_option maxRecDepth 20000 in
theorem ggX4_succeeds_X1_isGuest : GoodIn wsX4_succeeds wsX1_isGuest := goodIn_r _ [39, 6, 121, 122, 123, 124, 125, 126, 127, 128, 129, 130, 131, 132, 133, 134, 135, 136] (by decide +kernel) (by decide +kernel)
set_option maxRecDepth 20000 in
theorem gX4_succeeds_X1_isGuest : GoodIn wsX4_succeeds (wsV RX4 35 RX1 yX1_isGuest wsX1_isGuest) := goodIn_app (goodIn_of _ (by decide +kernel)) ggX4_succeeds_X1_isGuest
set_option maxRecDepth 20000 in
theorem ggX4_succeeds_X1_grudgesOf : GoodIn wsX4_succeeds wsX1_grudgesOf := goodIn_r _ [108, 12, 36, 37, 38, 4, 39, 6, 121, 122, 123, 124, 125, 126, 127, 128, 129, 130, 131, 132, 133, 134, 135, 136] (by decide +kernel) (by decide +kernel)
set_option maxRecDepth 20000 in
theorem gX4_succeeds_X1_grudgesOf : GoodIn wsX4_succeeds (wsV RX4 39 RX1 yX1_grudgesOf wsX1_grudgesOf) := goodIn_app (goodIn_of _ (by decide +kernel)) ggX4_succeeds_X1_grudgesOf
set_option maxRecDepth 20000 in
theorem ggX4_succeeds_X1_number : GoodIn wsX4_succeeds wsX1_number := goodIn_r _ [112, 6, 35, 49, 44, 29, 50, 63, 68, 69, 70, 4, 71, 11, 10, 113, 114, 115, 116, 117, 118, 119, 120, 12, 121, 122, 123, 124, 125, 126, 127, 128, 129, 130, 131, 132, 133, 134, 135, 136] (by decide +kernel) (by decide +kernel)
set_option maxRecDepth 20000 in
theorem gX4_succeeds_X1_number : GoodIn wsX4_succeeds (wsV RX4 42 RX1 yX1_number wsX1_number) := goodIn_app (goodIn_of _ (by decide +kernel)) ggX4_succeeds_X1_number
set_option maxRecDepth 20000 in
theorem ggX4_restTimes_X1_letAllRest : GoodIn wsX4_restTimes wsX1_letAllRest := goodIn_r _ [5, 6, 7, 8, 9, 10, 11, 12, 13, 14, 15, 16, 17, 18, 19, 20, 21, 22, 23, 24] (by decide +kernel) (by decide +kernel)
set_option maxRecDepth 20000 in
theorem gX4_restTimes_X1_letAllRest : GoodIn wsX4_restTimes (wsV RX4 45 RX1 yX1_letAllRest wsX1_letAllRest) := goodIn_app (goodIn_of _ (by decide +kernel)) ggX4_restTimes_X1_letAllRest
set_option maxRecDepth 20000 in
theorem ggX5_init_X1_init : GoodIn wsX5_init wsX1_init := goodIn_r _ [12, 13, 2, 3, 8, 14, 15, 16, 17, 18, 19, 20, 21, 22, 23, 24, 25, 26, 27, 28, 29, 30, 31, 32, 33, 34, 35, 36, 37, 38] (by decide +kernel) (by decide +kernel)
set_option maxRecDepth 20000 in
theorem gX5_init_X1_init_n11 : GoodIn wsX5_init (wsX1_init) := ggX5_init_X1_init
set_option maxRecDepth 20000 in
theorem ggX5_fewestByRows_X1_copyFrom : GoodIn wsX5_fewestByRows wsX1_copyFrom := goodIn_r _ [6, 7, 8, 9, 10, 11, 12, 13, 14, 15, 16, 17, 18, 19, 20, 21, 22, 23, 24, 25, 26, 95, 96, 97, 98, 99, 100, 101, 102, 103, 104, 105, 106, 107, 108, 109, 110] (by decide +kernel) (by decide +kernel)
set_option maxRecDepth 20000 in
theorem gX5_fewestByRows_X1_copyFrom : GoodIn wsX5_fewestByRows (wsV RX5 25 RX1 yX1_copyFrom wsX1_copyFrom) := goodIn_app (goodIn_of _ (by decide +kernel)) ggX5_fewestByRows_X1_copyFrom
set_option maxRecDepth 20000 in
theorem ggX5_fewestByRows_X1_position : GoodIn wsX5_fewestByRows wsX1_position := goodIn_r _ [30, 8, 7, 23, 24, 95, 96, 97, 98, 99, 100, 101, 102, 103, 104, 105, 106, 107, 108, 109, 110] (by decide +kernel) (by decide +kernel)
set_option maxRecDepth 20000 in
theorem gX5_fewestByRows_X1_position : GoodIn wsX5_fewestByRows (wsV RX5 29 RX1 yX1_position wsX1_position) := goodIn_app (goodIn_of _ (by decide +kernel)) ggX5_fewestByRows_X1_position
set_option maxRecDepth 20000 in
theorem ggX5_fewestByRows_X5_aRowBringsAllHome : GoodIn wsX5_fewestByRows wsX5_aRowBringsAllHome := goodIn_r _ [34, 35, 36, 37, 5, 38, 8, 7, 23, 24, 39, 40, 41, 42, 43, 44, 45, 46, 47, 48, 49, 50, 51, 52, 53, 54, 55, 56, 57, 58, 14, 19, 59, 60, 61, 62, 63, 64, 65, 66, 10, 25, 67, 68, 69, 70, 26, 9, 12, 71, 72, 73, 74, 21, 20, 75, 76, 77, 78, 79, 80, 81, 82, 13, 83, 84, 85, 86, 22, 87, 88, 89, 90, 27, 28, 29, 30, 31, 32, 33, 95, 96, 97, 98, 99, 100, 101, 102, 103, 104, 105, 106, 107, 108, 109, 110] (by decide +kernel) (by decide +kernel)
set_option maxRecDepth 20000 in
theorem gX5_fewestByRows_X5_aRowBringsAllHome : GoodIn wsX5_fewestByRows (va_wsS RX5 33 yX5_aRowBringsAllHome wsX5_aRowBringsAllHome) := goodIn_app (goodIn_of _ (by decide +kernel)) ggX5_fewestByRows_X5_aRowBringsAllHome
set_option maxRecDepth 20000 in
theorem ggX5_aRowBringsAllHome_X1_takePosition : GoodIn wsX5_aRowBringsAllHome wsX1_takePosition := goodIn_r _ [5, 6, 7, 8, 9, 80, 81, 82, 83, 84, 85, 86, 87, 88, 89, 90, 91, 92, 93, 94, 95] (by decide +kernel) (by decide +kernel)
set_option maxRecDepth 20000 in
theorem gX5_aRowBringsAllHome_X1_takePosition : GoodIn wsX5_aRowBringsAllHome (wsV RX5 37 RX1 yX1_takePosition wsX1_takePosition) := goodIn_app (goodIn_of _ (by decide +kernel)) ggX5_aRowBringsAllHome_X1_takePosition
set_option maxRecDepth 20000 in
theorem ggX5_aRowBringsAllHome_X1_areAllHome : GoodIn wsX5_aRowBringsAllHome wsX1_areAllHome := goodIn_r _ [13, 7, 14, 15, 16, 4, 17, 8, 80, 81, 82, 83, 84, 85, 86, 87, 88, 89, 90, 91, 92, 93, 94, 95] (by decide +kernel) (by decide +kernel)
set_option maxRecDepth 20000 in
theorem gX5_aRowBringsAllHome_X1_areAllHome : GoodIn wsX5_aRowBringsAllHome (wsV RX5 41 RX1 yX1_areAllHome wsX1_areAllHome) := goodIn_app (goodIn_of _ (by decide +kernel)) ggX5_aRowBringsAllHome_X1_areAllHome
set_option maxRecDepth 20000 in
theorem ggX5_aRowBringsAllHome_X1_guestCount : GoodIn wsX5_aRowBringsAllHome wsX1_guestCount := goodIn_r _ [21, 7, 80, 81, 82, 83, 84, 85, 86, 87, 88, 89, 90, 91, 92, 93, 94, 95] (by decide +kernel) (by decide +kernel)
set_option maxRecDepth 20000 in
theorem gX5_aRowBringsAllHome_X1_guestCount : GoodIn wsX5_aRowBringsAllHome (wsV RX5 45 RX1 yX1_guestCount wsX1_guestCount) := goodIn_app (goodIn_of _ (by decide +kernel)) ggX5_aRowBringsAllHome_X1_guestCount
set_option maxRecDepth 20000 in
theorem ggX5_aRowBringsAllHome_X1_goIfWilling : GoodIn wsX5_aRowBringsAllHome wsX1_goIfWilling := goodIn_r _ [25, 26, 27, 28, 4, 29, 8, 9, 30, 6, 31, 32, 33, 34, 35, 7, 36, 37, 38, 39, 40, 41, 42, 43, 44, 45, 46, 47, 48, 49, 50, 51, 52, 53, 54, 55, 56, 57, 58, 59, 60, 61, 62, 63, 64, 65, 66, 67, 68, 69, 70, 71, 72, 80, 81, 82, 83, 84, 85, 86, 87, 88, 89, 90, 91, 92, 93, 94, 95] (by decide +kernel) (by decide +kernel)
set_option maxRecDepth 20000 in
theorem gX5_aRowBringsAllHome_X1_goIfWilling : GoodIn wsX5_aRowBringsAllHome (wsV RX5 48 RX1 yX1_goIfWilling wsX1_goIfWilling) := goodIn_app (goodIn_of _ (by decide +kernel)) ggX5_aRowBringsAllHome_X1_goIfWilling
set_option maxRecDepth 20000 in
theorem ggX5_aRowBringsAllHome_X1_position : GoodIn wsX5_aRowBringsAllHome wsX1_position := goodIn_r _ [76, 6, 7, 8, 9, 80, 81, 82, 83, 84, 85, 86, 87, 88, 89, 90, 91, 92, 93, 94, 95] (by decide +kernel) (by decide +kernel)
set_option maxRecDepth 20000 in
theorem gX5_aRowBringsAllHome_X1_position : GoodIn wsX5_aRowBringsAllHome (wsV RX5 29 RX1 yX1_position wsX1_position) := goodIn_app (goodIn_of _ (by decide +kernel)) ggX5_aRowBringsAllHome_X1_position
set_option maxRecDepth 20000 in
theorem ggX5_aRowBringsAllHome_X5_aRowBringsAllHome : GoodIn wsX5_aRowBringsAllHome wsX5_aRowBringsAllHome := goodIn_r _ [0, 1, 2, 3, 4, 5, 6, 7, 8, 9, 10, 11, 12, 13, 14, 15, 16, 17, 18, 19, 20, 21, 22, 23, 24, 25, 26, 27, 28, 29, 30, 31, 32, 33, 34, 35, 36, 37, 38, 39, 40, 41, 42, 43, 44, 45, 46, 47, 48, 49, 50, 51, 52, 53, 54, 55, 56, 57, 58, 59, 60, 61, 62, 63, 64, 65, 66, 67, 68, 69, 70, 71, 72, 73, 74, 75, 76, 77, 78, 79, 80, 81, 82, 83, 84, 85, 86, 87, 88, 89, 90, 91, 92, 93, 94, 95] (by decide +kernel) (by decide +kernel)
set_option maxRecDepth 20000 in
theorem gX5_aRowBringsAllHome_X5_aRowBringsAllHome : GoodIn wsX5_aRowBringsAllHome (va_wsS RX5 33 yX5_aRowBringsAllHome wsX5_aRowBringsAllHome) := goodIn_app (goodIn_of _ (by decide +kernel)) ggX5_aRowBringsAllHome_X5_aRowBringsAllHome
set_option maxRecDepth 20000 in
theorem ggX5_fewestByPositions_X1_copyFrom : GoodIn wsX5_fewestByPositions wsX1_copyFrom := goodIn_r _ [9, 10, 11, 12, 13, 14, 15, 16, 17, 18, 19, 20, 21, 22, 23, 24, 25, 26, 27, 28, 29, 99, 100, 101, 102, 103, 104, 105, 106, 107, 108, 109, 110, 111, 112, 113, 114] (by decide +kernel) (by decide +kernel)
set_option maxRecDepth 20000 in
theorem gX5_fewestByPositions_X1_copyFrom : GoodIn wsX5_fewestByPositions (wsV RX5 25 RX1 yX1_copyFrom wsX1_copyFrom) := goodIn_app (goodIn_of _ (by decide +kernel)) ggX5_fewestByPositions_X1_copyFrom
set_option maxRecDepth 20000 in
theorem ggX5_fewestByPositions_X1_areAllHome : GoodIn wsX5_fewestByPositions wsX1_areAllHome := goodIn_r _ [33, 10, 34, 35, 36, 8, 37, 26, 99, 100, 101, 102, 103, 104, 105, 106, 107, 108, 109, 110, 111, 112, 113, 114] (by decide +kernel) (by decide +kernel)
set_option maxRecDepth 20000 in
theorem gX5_fewestByPositions_X1_areAllHome : GoodIn wsX5_fewestByPositions (wsV RX5 41 RX1 yX1_areAllHome wsX1_areAllHome) := goodIn_app (goodIn_of _ (by decide +kernel)) ggX5_fewestByPositions_X1_areAllHome
set_option maxRecDepth 20000 in
theorem ggX5_fewestByPositions_X1_position : GoodIn wsX5_fewestByPositions wsX1_position := goodIn_r _ [41, 11, 10, 26, 27, 99, 100, 101, 102, 103, 104, 105, 106, 107, 108, 109, 110, 111, 112, 113, 114] (by decide +kernel) (by decide +kernel)
set_option maxRecDepth 20000 in
theorem gX5_fewestByPositions_X1_position : GoodIn wsX5_fewestByPositions (wsV RX5 29 RX1 yX1_position wsX1_position) := goodIn_app (goodIn_of _ (by decide +kernel)) ggX5_fewestByPositions_X1_position
set_option maxRecDepth 20000 in
theorem ggX5_fewestByPositions_X5_keepIfNew : GoodIn wsX5_fewestByPositions wsX5_keepIfNew := goodIn_r _ [46, 2, 4, 3, 95, 96, 97, 98] (by decide +kernel) (by decide +kernel)
set_option maxRecDepth 20000 in
theorem gX5_fewestByPositions_X5_keepIfNew : GoodIn wsX5_fewestByPositions (wsV RX5 56 RX5 yX5_keepIfNew wsX5_keepIfNew) := goodIn_app (goodIn_of _ (by decide +kernel)) ggX5_fewestByPositions_X5_keepIfNew
set_option maxRecDepth 20000 in
theorem ggX5_fewestByPositions_X1_guestCount : GoodIn wsX5_fewestByPositions wsX1_guestCount := goodIn_r _ [50, 10, 99, 100, 101, 102, 103, 104, 105, 106, 107, 108, 109, 110, 111, 112, 113, 114] (by decide +kernel) (by decide +kernel)
set_option maxRecDepth 20000 in
theorem gX5_fewestByPositions_X1_guestCount : GoodIn wsX5_fewestByPositions (wsV RX5 45 RX1 yX1_guestCount wsX1_guestCount) := goodIn_app (goodIn_of _ (by decide +kernel)) ggX5_fewestByPositions_X1_guestCount
set_option maxRecDepth 20000 in
theorem ggX5_fewestByPositions_X1_takePosition : GoodIn wsX5_fewestByPositions wsX1_takePosition := goodIn_r _ [54, 11, 10, 26, 27, 99, 100, 101, 102, 103, 104, 105, 106, 107, 108, 109, 110, 111, 112, 113, 114] (by decide +kernel) (by decide +kernel)
set_option maxRecDepth 20000 in
theorem gX5_fewestByPositions_X1_takePosition : GoodIn wsX5_fewestByPositions (wsV RX5 37 RX1 yX1_takePosition wsX1_takePosition) := goodIn_app (goodIn_of _ (by decide +kernel)) ggX5_fewestByPositions_X1_takePosition
set_option maxRecDepth 20000 in
theorem ggX5_fewestByPositions_X1_goIfWilling : GoodIn wsX5_fewestByPositions wsX1_goIfWilling := goodIn_r _ [58, 59, 60, 61, 8, 62, 26, 27, 17, 11, 22, 63, 64, 65, 66, 10, 67, 68, 69, 70, 13, 28, 71, 72, 73, 74, 29, 12, 15, 75, 76, 77, 78, 24, 23, 79, 80, 81, 82, 83, 84, 85, 86, 16, 87, 88, 89, 90, 25, 91, 92, 93, 94, 99, 100, 101, 102, 103, 104, 105, 106, 107, 108, 109, 110, 111, 112, 113, 114] (by decide +kernel) (by decide +kernel)
set_option maxRecDepth 20000 in
theorem gX5_fewestByPositions_X1_goIfWilling : GoodIn wsX5_fewestByPositions (wsV RX5 48 RX1 yX1_goIfWilling wsX1_goIfWilling) := goodIn_app (goodIn_of _ (by decide +kernel)) ggX5_fewestByPositions_X1_goIfWilling
set_option maxRecDepth 20000 in
theorem ggX5_bestPress_X5_fewestByPositions : GoodIn wsX5_bestPress wsX5_fewestByPositions := goodIn_r _ [6, 1, 7, 8, 9, 10, 11, 12, 13, 14, 15, 16, 17, 18, 19, 20, 21, 22, 23, 24, 25, 26, 27, 28, 29, 30, 31, 32, 33, 34, 35, 36, 37, 38, 39, 40, 41, 42, 43, 44, 45, 46, 47, 48, 49, 5, 50, 51, 52, 53, 54, 55, 56, 57, 58, 59, 60, 61, 62, 63, 64, 65, 66, 67, 68, 69, 70, 71, 72, 73, 74, 75, 76, 77, 78, 79, 80, 81, 82, 83, 84, 85, 86, 87, 88, 89, 90, 91, 92, 93, 94, 95, 96, 97, 98, 102, 103, 104, 105, 106, 107, 108, 109, 110, 111, 112, 113, 114, 115, 116, 117, 118, 119, 120, 121] (by decide +kernel) (by decide +kernel)
set_option maxRecDepth 20000 in
theorem gX5_bestPress_X5_fewestByPositions : GoodIn wsX5_bestPress (wsV RX5 60 RX5 yX5_fewestByPositions wsX5_fewestByPositions) := goodIn_app (goodIn_of _ (by decide +kernel)) ggX5_bestPress_X5_fewestByPositions
set_option maxRecDepth 20000 in
theorem ggX5_bestPress_X1_copyFrom : GoodIn wsX5_bestPress wsX1_copyFrom := goodIn_r _ [14, 15, 16, 17, 18, 19, 20, 21, 22, 23, 24, 25, 26, 27, 28, 29, 30, 31, 32, 33, 34, 106, 107, 108, 109, 110, 111, 112, 113, 114, 115, 116, 117, 118, 119, 120, 121] (by decide +kernel) (by decide +kernel)
set_option maxRecDepth 20000 in
theorem gX5_bestPress_X1_copyFrom : GoodIn wsX5_bestPress (wsV RX5 25 RX1 yX1_copyFrom wsX1_copyFrom) := goodIn_app (goodIn_of _ (by decide +kernel)) ggX5_bestPress_X1_copyFrom
set_option maxRecDepth 20000 in
theorem ggX5_bestPress_X1_position : GoodIn wsX5_bestPress wsX1_position := goodIn_r _ [46, 16, 15, 31, 32, 106, 107, 108, 109, 110, 111, 112, 113, 114, 115, 116, 117, 118, 119, 120, 121] (by decide +kernel) (by decide +kernel)
set_option maxRecDepth 20000 in
theorem gX5_bestPress_X1_position : GoodIn wsX5_bestPress (wsV RX5 29 RX1 yX1_position wsX1_position) := goodIn_app (goodIn_of _ (by decide +kernel)) ggX5_bestPress_X1_position
set_option maxRecDepth 20000 in
theorem ggX5_bestPress_X1_guestCount : GoodIn wsX5_bestPress wsX1_guestCount := goodIn_r _ [54, 15, 106, 107, 108, 109, 110, 111, 112, 113, 114, 115, 116, 117, 118, 119, 120, 121] (by decide +kernel) (by decide +kernel)
set_option maxRecDepth 20000 in
theorem gX5_bestPress_X1_guestCount : GoodIn wsX5_bestPress (wsV RX5 45 RX1 yX1_guestCount wsX1_guestCount) := goodIn_app (goodIn_of _ (by decide +kernel)) ggX5_bestPress_X1_guestCount
set_option maxRecDepth 20000 in
theorem ggX5_bestPress_X1_takePosition : GoodIn wsX5_bestPress wsX1_takePosition := goodIn_r _ [58, 16, 15, 31, 32, 106, 107, 108, 109, 110, 111, 112, 113, 114, 115, 116, 117, 118, 119, 120, 121] (by decide +kernel) (by decide +kernel)
set_option maxRecDepth 20000 in
theorem gX5_bestPress_X1_takePosition : GoodIn wsX5_bestPress (wsV RX5 37 RX1 yX1_takePosition wsX1_takePosition) := goodIn_app (goodIn_of _ (by decide +kernel)) ggX5_bestPress_X1_takePosition
set_option maxRecDepth 20000 in
theorem ggX5_bestPress_X1_goIfWilling : GoodIn wsX5_bestPress wsX1_goIfWilling := goodIn_r _ [62, 63, 64, 65, 13, 66, 31, 32, 22, 16, 27, 67, 68, 69, 70, 15, 71, 72, 73, 74, 18, 33, 75, 76, 77, 78, 34, 17, 20, 79, 80, 81, 82, 29, 28, 83, 84, 85, 86, 87, 88, 89, 90, 21, 91, 92, 93, 94, 30, 95, 96, 97, 98, 106, 107, 108, 109, 110, 111, 112, 113, 114, 115, 116, 117, 118, 119, 120, 121] (by decide +kernel) (by decide +kernel)
set_option maxRecDepth 20000 in
theorem gX5_bestPress_X1_goIfWilling : GoodIn wsX5_bestPress (wsV RX5 48 RX1 yX1_goIfWilling wsX1_goIfWilling) := goodIn_app (goodIn_of _ (by decide +kernel)) ggX5_bestPress_X1_goIfWilling
set_option maxRecDepth 20000 in
theorem ggX5_bestPress_X5_aRowBringsAllHome : GoodIn wsX5_bestPress wsX5_aRowBringsAllHome := goodIn_r _ [101, 55, 56, 57, 13, 58, 16, 15, 31, 32, 35, 36, 37, 38, 39, 40, 41, 42, 51, 52, 53, 54, 59, 60, 61, 62, 63, 64, 65, 66, 22, 27, 67, 68, 69, 70, 71, 72, 73, 74, 18, 33, 75, 76, 77, 78, 34, 17, 20, 79, 80, 81, 82, 29, 28, 83, 84, 85, 86, 87, 88, 89, 90, 21, 91, 92, 93, 94, 30, 95, 96, 97, 98, 43, 44, 45, 46, 99, 100, 5, 106, 107, 108, 109, 110, 111, 112, 113, 114, 115, 116, 117, 118, 119, 120, 121] (by decide +kernel) (by decide +kernel)
set_option maxRecDepth 20000 in
theorem gX5_bestPress_X5_aRowBringsAllHome : GoodIn wsX5_bestPress (va_wsS RX5 33 yX5_aRowBringsAllHome wsX5_aRowBringsAllHome) := goodIn_app (goodIn_of _ (by decide +kernel)) ggX5_bestPress_X5_aRowBringsAllHome
set_option maxRecDepth 20000 in
theorem ggX6_take_X1_admit : GoodIn wsX6_take wsX1_admit := goodIn_r _ [5, 6, 7, 8, 9, 10, 11, 12, 13, 14, 15, 16, 4, 17, 18, 19, 20, 21, 22, 23, 24, 96, 97, 98, 99, 100, 101, 102, 103, 104, 105, 106, 107, 108, 109, 110, 111] (by decide +kernel) (by decide +kernel)
set_option maxRecDepth 20000 in
theorem gX6_take_X1_admit : GoodIn wsX6_take (wsV RX6 7 RX1 yX1_admit wsX1_admit) := goodIn_app (goodIn_of _ (by decide +kernel)) ggX6_take_X1_admit
set_option maxRecDepth 20000 in
theorem ggX6_take_X1_dismiss : GoodIn wsX6_take wsX1_dismiss := goodIn_r _ [28, 12, 6, 29, 30, 31, 4, 32, 33, 34, 35, 36, 7, 8, 9, 10, 11, 13, 14, 96, 97, 98, 99, 100, 101, 102, 103, 104, 105, 106, 107, 108, 109, 110, 111] (by decide +kernel) (by decide +kernel)
set_option maxRecDepth 20000 in
theorem gX6_take_X1_dismiss : GoodIn wsX6_take (wsV RX6 13 RX1 yX1_dismiss wsX1_dismiss) := goodIn_app (goodIn_of _ (by decide +kernel)) ggX6_take_X1_dismiss
set_option maxRecDepth 20000 in
theorem ggX6_take_X1_letAllRest : GoodIn wsX6_take wsX1_letAllRest := goodIn_r _ [40, 41, 6, 12, 96, 97, 98, 99, 100, 101, 102, 103, 104, 105, 106, 107, 108, 109, 110, 111] (by decide +kernel) (by decide +kernel)
set_option maxRecDepth 20000 in
theorem gX6_take_X1_letAllRest : GoodIn wsX6_take (wsV RX6 17 RX1 yX1_letAllRest wsX1_letAllRest) := goodIn_app (goodIn_of _ (by decide +kernel)) ggX6_take_X1_letAllRest
set_option maxRecDepth 20000 in
theorem ggX6_take_X1_change : GoodIn wsX6_take wsX1_change := goodIn_r _ [45, 46, 47, 48, 4, 49, 50, 51, 52, 53, 54, 96, 97, 98, 99, 100, 101, 102, 103, 104, 105, 106, 107, 108, 109, 110, 111] (by decide +kernel) (by decide +kernel)
set_option maxRecDepth 20000 in
theorem gX6_take_X1_change : GoodIn wsX6_take (wsV RX6 20 RX1 yX1_change wsX1_change) := goodIn_app (goodIn_of _ (by decide +kernel)) ggX6_take_X1_change
set_option maxRecDepth 20000 in
theorem ggX6_take_X1_pressBy : GoodIn wsX6_take wsX1_pressBy := goodIn_r _ [58, 59, 60, 61, 62, 4, 63, 11, 12, 46, 64, 7, 29, 30, 31, 32, 6, 65, 66, 67, 68, 69, 13, 70, 71, 72, 73, 14, 41, 74, 75, 76, 77, 78, 9, 8, 79, 80, 81, 82, 83, 84, 85, 86, 87, 88, 89, 90, 91, 10, 92, 93, 94, 95, 96, 97, 98, 99, 100, 101, 102, 103, 104, 105, 106, 107, 108, 109, 110, 111] (by decide +kernel) (by decide +kernel)
set_option maxRecDepth 20000 in
theorem gX6_take_X1_pressBy : GoodIn wsX6_take (wsV RX6 24 RX1 yX1_pressBy wsX1_pressBy) := goodIn_app (goodIn_of _ (by decide +kernel)) ggX6_take_X1_pressBy
set_option maxRecDepth 20000 in
theorem ggX7_init_X2_init : GoodIn wsX7_init wsX2_init := goodIn_r _ [23, 24, 2, 3, 25, 26, 52, 53] (by decide +kernel) (by decide +kernel)
set_option maxRecDepth 20000 in
theorem gX7_init_X2_init_n9 : GoodIn wsX7_init (wsX2_init) := ggX7_init_X2_init
set_option maxRecDepth 20000 in
theorem ggX7_init_X3_init : GoodIn wsX7_init wsX3_init := goodIn_r _ [28, 29, 2, 3, 30, 31, 60, 61] (by decide +kernel) (by decide +kernel)
set_option maxRecDepth 20000 in
theorem gX7_init_X3_init_n18 : GoodIn wsX7_init (wsX3_init) := ggX7_init_X3_init
set_option maxRecDepth 20000 in
theorem ggX7_init_X5_init : GoodIn wsX7_init wsX5_init := goodIn_r _ [33, 34, 2, 3, 35, 18, 19, 36, 37, 38, 39, 40, 41, 42, 43, 44, 45, 46, 47, 48, 49, 50, 51, 66, 67, 68, 69, 70, 71, 72, 73, 74, 75, 76, 77, 78, 79, 80, 81, 62, 63, 64, 65] (by decide +kernel) (by decide +kernel)
set_option maxRecDepth 20000 in
theorem gX7_init_X5_init_n25 : GoodIn wsX7_init (wsX5_init) := ggX7_init_X5_init
set_option maxRecDepth 20000 in
theorem ggX7_init_X1_init : GoodIn wsX7_init wsX1_init := goodIn_r _ [41, 42, 2, 3, 37, 43, 44, 45, 46, 47, 48, 49, 50, 51, 66, 67, 68, 69, 70, 71, 72, 73, 74, 75, 76, 77, 78, 79, 80, 81] (by decide +kernel) (by decide +kernel)
set_option maxRecDepth 20000 in
theorem gX7_init_X1_init_n36 : GoodIn wsX7_init (wsX1_init) := ggX7_init_X1_init
set_option maxRecDepth 20000 in
theorem ggX7_append_X2_isFull : GoodIn wsX7_append wsX2_isFull := goodIn_r _ [10, 11, 12, 23, 24] (by decide +kernel) (by decide +kernel)
set_option maxRecDepth 20000 in
theorem gX7_append_X2_isFull : GoodIn wsX7_append (wsV RX7 51 RX2 yX2_isFull wsX2_isFull) := goodIn_app (goodIn_of _ (by decide +kernel)) ggX7_append_X2_isFull
set_option maxRecDepth 20000 in
theorem ggX7_append_X2_add : GoodIn wsX7_append wsX2_add := goodIn_r _ [16, 11, 12, 23, 24] (by decide +kernel) (by decide +kernel)
set_option maxRecDepth 20000 in
theorem gX7_append_X2_add : GoodIn wsX7_append (wsV RX7 60 RX2 yX2_add wsX2_add) := goodIn_app (goodIn_of _ (by decide +kernel)) ggX7_append_X2_add
set_option maxRecDepth 20000 in
theorem ggX7_clearText_X2_empty : GoodIn wsX7_clearText wsX2_empty := goodIn_r _ [6, 7, 14, 15] (by decide +kernel) (by decide +kernel)
set_option maxRecDepth 20000 in
theorem gX7_clearText_X2_empty : GoodIn wsX7_clearText (wsV RX7 64 RX2 yX2_empty wsX2_empty) := goodIn_app (goodIn_of _ (by decide +kernel)) ggX7_clearText_X2_empty
set_option maxRecDepth 20000 in
theorem ggX7_errorPosition_X2_firstError : GoodIn wsX7_errorPosition wsX2_firstError := goodIn_r _ [6, 7, 8, 9, 10, 5, 11, 12, 13, 14, 15, 16, 17, 18, 19, 20, 21, 22, 23, 24, 25, 26, 27, 28, 29, 30, 37, 38] (by decide +kernel) (by decide +kernel)
set_option maxRecDepth 20000 in
theorem gX7_errorPosition_X2_firstError : GoodIn wsX7_errorPosition (wsV RX7 68 RX2 yX2_firstError wsX2_firstError) := goodIn_app (goodIn_of _ (by decide +kernel)) ggX7_errorPosition_X2_firstError
set_option maxRecDepth 20000 in
theorem ggX7_load_X2_firstError : GoodIn wsX7_load wsX2_firstError := goodIn_r _ [14, 15, 16, 17, 18, 13, 19, 20, 21, 22, 23, 24, 25, 26, 27, 28, 29, 30, 31, 32, 33, 34, 35, 36, 37, 38, 229, 230] (by decide +kernel) (by decide +kernel)
set_option maxRecDepth 20000 in
theorem gX7_load_X2_firstError : GoodIn wsX7_load (wsV RX7 68 RX2 yX2_firstError wsX2_firstError) := goodIn_app (goodIn_of _ (by decide +kernel)) ggX7_load_X2_firstError
set_option maxRecDepth 20000 in
theorem ggX7_load_X1_init : GoodIn wsX7_load wsX1_init := goodIn_r _ [40, 41, 42, 43, 44, 45, 46, 47, 48, 49, 50, 51, 52, 53, 213, 214, 215, 216, 217, 218, 219, 220, 221, 222, 223, 224, 225, 226, 227, 228] (by decide +kernel) (by decide +kernel)
set_option maxRecDepth 20000 in
theorem gX7_load_X1_init_n36 : GoodIn wsX7_load (wsX1_init) := ggX7_load_X1_init
set_option maxRecDepth 20000 in
theorem ggX7_load_X3_forgetAll : GoodIn wsX7_load wsX3_forgetAll := goodIn_r _ [58, 59, 231, 232] (by decide +kernel) (by decide +kernel)
set_option maxRecDepth 20000 in
theorem gX7_load_X3_forgetAll : GoodIn wsX7_load (wsV RX7 73 RX3 yX3_forgetAll wsX3_forgetAll) := goodIn_app (goodIn_of _ (by decide +kernel)) ggX7_load_X3_forgetAll
set_option maxRecDepth 20000 in
theorem ggX7_load_X2_size : GoodIn wsX7_load wsX2_size := goodIn_r _ [63, 15, 229, 230] (by decide +kernel) (by decide +kernel)
set_option maxRecDepth 20000 in
theorem gX7_load_X2_size : GoodIn wsX7_load (wsV RX7 76 RX2 yX2_size wsX2_size) := goodIn_app (goodIn_of _ (by decide +kernel)) ggX7_load_X2_size
set_option maxRecDepth 20000 in
theorem ggX7_load_X2_isCommand : GoodIn wsX7_load wsX2_isCommand := goodIn_r _ [35, 16, 17, 18, 13, 19, 15, 20, 36, 37, 38, 229, 230] (by decide +kernel) (by decide +kernel)
set_option maxRecDepth 20000 in
theorem gX7_load_X2_isCommand : GoodIn wsX7_load (wsV RX7 79 RX2 yX2_isCommand wsX2_isCommand) := goodIn_app (goodIn_of _ (by decide +kernel)) ggX7_load_X2_isCommand
set_option maxRecDepth 20000 in
theorem ggX7_load_X7_doCommand : GoodIn wsX7_load wsX7_doCommand := goodIn_r _ [69, 3, 7, 70, 71, 26, 27, 13, 28, 16, 17, 18, 19, 15, 20, 72, 73, 74, 75, 6, 76, 77, 46, 47, 48, 49, 50, 51, 52, 53, 78, 79, 80, 81, 82, 83, 84, 85, 86, 87, 88, 89, 90, 91, 92, 93, 94, 95, 45, 96, 97, 98, 99, 100, 101, 102, 103, 104, 105, 106, 107, 108, 109, 110, 111, 112, 113, 114, 115, 116, 117, 118, 119, 120, 121, 122, 123, 124, 125, 126, 127, 128, 129, 130, 131, 132, 133, 134, 135, 136, 137, 138, 139, 140, 141, 142, 143, 144, 145, 146, 147, 148, 149, 150, 151, 152, 153, 154, 155, 156, 157, 158, 159, 160, 161, 162, 163, 164, 165, 166, 167, 168, 169, 170, 171, 172, 173, 174, 175, 176, 177, 178, 179, 180, 181, 182, 183, 184, 185, 186, 187, 188, 189, 190, 191, 192, 193, 194, 195, 196, 197, 198, 199, 200, 201, 202, 203, 204, 205, 206, 207, 208, 209, 210, 211, 212, 229, 230, 213, 214, 215, 216, 217, 218, 219, 220, 221, 222, 223, 224, 225, 226, 227, 228, 233, 234, 235, 236] (by decide +kernel) (by decide +kernel)
set_option maxRecDepth 20000 in
theorem gX7_load_X7_doCommand : GoodIn wsX7_load (wsV RX7 83 RX7 yX7_doCommand wsX7_doCommand) := goodIn_app (goodIn_of _ (by decide +kernel)) ggX7_load_X7_doCommand
set_option maxRecDepth 20000 in
theorem ggX7_doCommand_X2_digitAt : GoodIn wsX7_doCommand wsX2_digitAt := goodIn_r _ [8, 9, 10, 11, 7, 12, 13, 14, 166, 167] (by decide +kernel) (by decide +kernel)
set_option maxRecDepth 20000 in
theorem gX7_doCommand_X2_digitAt : GoodIn wsX7_doCommand (wsV RX7 86 RX2 yX2_digitAt wsX2_digitAt) := goodIn_app (goodIn_of _ (by decide +kernel)) ggX7_doCommand_X2_digitAt
set_option maxRecDepth 20000 in
theorem ggX7_doCommand_X2_signAt : GoodIn wsX7_doCommand wsX2_signAt := goodIn_r _ [12, 13, 14, 166, 167] (by decide +kernel) (by decide +kernel)
set_option maxRecDepth 20000 in
theorem gX7_doCommand_X2_signAt : GoodIn wsX7_doCommand (wsV RX7 90 RX2 yX2_signAt wsX2_signAt) := goodIn_app (goodIn_of _ (by decide +kernel)) ggX7_doCommand_X2_signAt
set_option maxRecDepth 20000 in
theorem ggX7_doCommand_X1_admit : GoodIn wsX7_doCommand wsX1_admit := goodIn_r _ [20, 21, 22, 23, 24, 25, 26, 27, 28, 29, 30, 31, 19, 32, 33, 34, 35, 36, 37, 38, 39, 168, 169, 170, 171, 172, 173, 174, 175, 176, 177, 178, 179, 180, 181, 182, 183] (by decide +kernel) (by decide +kernel)
set_option maxRecDepth 20000 in
theorem gX7_doCommand_X1_admit : GoodIn wsX7_doCommand (wsV RX7 93 RX1 yX1_admit wsX1_admit) := goodIn_app (goodIn_of _ (by decide +kernel)) ggX7_doCommand_X1_admit
set_option maxRecDepth 20000 in
theorem ggX7_doCommand_X1_goIfWilling : GoodIn wsX7_doCommand wsX1_goIfWilling := goodIn_r _ [43, 44, 45, 46, 19, 47, 26, 27, 48, 49, 22, 50, 51, 52, 53, 21, 54, 55, 56, 57, 58, 28, 59, 60, 61, 62, 29, 63, 64, 65, 66, 67, 68, 24, 23, 69, 70, 71, 72, 73, 74, 75, 76, 77, 78, 79, 80, 81, 25, 82, 83, 84, 85, 168, 169, 170, 171, 172, 173, 174, 175, 176, 177, 178, 179, 180, 181, 182, 183] (by decide +kernel) (by decide +kernel)
set_option maxRecDepth 20000 in
theorem gX7_doCommand_X1_goIfWilling : GoodIn wsX7_doCommand (wsV RX7 97 RX1 yX1_goIfWilling wsX1_goIfWilling) := goodIn_app (goodIn_of _ (by decide +kernel)) ggX7_doCommand_X1_goIfWilling
set_option maxRecDepth 20000 in
theorem ggX7_doCommand_X1_letAllRest : GoodIn wsX7_doCommand wsX1_letAllRest := goodIn_r _ [89, 63, 21, 27, 168, 169, 170, 171, 172, 173, 174, 175, 176, 177, 178, 179, 180, 181, 182, 183] (by decide +kernel) (by decide +kernel)
set_option maxRecDepth 20000 in
theorem gX7_doCommand_X1_letAllRest : GoodIn wsX7_doCommand (wsV RX7 100 RX1 yX1_letAllRest wsX1_letAllRest) := goodIn_app (goodIn_of _ (by decide +kernel)) ggX7_doCommand_X1_letAllRest
