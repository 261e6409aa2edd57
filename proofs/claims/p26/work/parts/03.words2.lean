set_option maxRecDepth 20000 in
theorem ggX4_succeeds_X1_number : GoodIn wsX4_succeeds wsX1_number := goodIn_r _ [112, 6, 35, 49, 44, 29, 50, 63, 68, 69, 70, 4, 71, 11, 10, 113, 114, 115, 116, 117, 118, 119, 120, 12, 121, 122, 123, 124, 125, 126, 127, 128, 129, 130, 131, 132, 133, 134, 135, 136] (by decide +kernel) (by decide +kernel)
set_option maxRecDepth 20000 in
theorem gX4_succeeds_X1_number : GoodIn wsX4_succeeds (wsV RX4 42 RX1 yX1_number wsX1_number) := goodIn_app (goodIn_of _ (by decide +kernel)) ggX4_succeeds_X1_number
set_option maxRecDepth 20000 in
theorem ggX4_restTimes_X1_letAllRest : GoodIn wsX4_restTimes wsX1_letAllRest := goodIn_r _ [5, 6, 7, 8, 9, 10, 11, 12, 13, 14, 15, 16, 17, 18, 19, 20, 21, 22, 23, 24] (by decide +kernel) (by decide +kernel)
set_option maxRecDepth 20000 in
theorem gX4_restTimes_X1_letAllRest : GoodIn wsX4_restTimes (wsV RX4 45 RX1 yX1_letAllRest wsX1_letAllRest) := goodIn_app (goodIn_of _ (by decide +kernel)) ggX4_restTimes_X1_letAllRest
set_option maxRecDepth 20000 in
theorem ggX5_init_X1_init : GoodIn wsX5_init wsX1_init := goodIn_r _ [12, 13, 2, 3, 8, 14, 15, 16, 17, 18, 19, 20, 21, 22, 23, 24, 25, 26, 27, 28, 29, 30, 31, 32, 33, 34, 35, 36, 37, 38] (by decide +kernel) (by decide +kernel)
set_option maxRecDepth 20000 in
theorem gX5_init_X1_init_n11 : GoodIn wsX5_init (wsX1_init) := ggX5_init_X1_init
set_option maxRecDepth 20000 in
theorem ggX5_fewestByRows_X1_copyFrom : GoodIn wsX5_fewestByRows wsX1_copyFrom := goodIn_r _ [6, 7, 8, 9, 10, 11, 12, 13, 14, 15, 16, 17, 18, 19, 20, 21, 22, 23, 24, 25, 26, 95, 96, 97, 98, 99, 100, 101, 102, 103, 104, 105, 106, 107, 108, 109, 110] (by decide +kernel) (by decide +kernel)
set_option maxRecDepth 20000 in
theorem gX5_fewestByRows_X1_copyFrom : GoodIn wsX5_fewestByRows (wsV RX5 25 RX1 yX1_copyFrom wsX1_copyFrom) := goodIn_app (goodIn_of _ (by decide +kernel)) ggX5_fewestByRows_X1_copyFrom
set_option maxRecDepth 20000 in
theorem ggX5_fewestByRows_X1_position : GoodIn wsX5_fewestByRows wsX1_position := goodIn_r _ [30, 8, 7, 23, 24, 95, 96, 97, 98, 99, 100, 101, 102, 103, 104, 105, 106, 107, 108, 109, 110] (by decide +kernel) (by decide +kernel)
set_option maxRecDepth 20000 in
theorem gX5_fewestByRows_X1_position : GoodIn wsX5_fewestByRows (wsV RX5 29 RX1 yX1_position wsX1_position) := goodIn_app (goodIn_of _ (by decide +kernel)) ggX5_fewestByRows_X1_position
set_option maxRecDepth 20000 in
theorem ggX5_fewestByRows_X5_aRowBringsAllHome : GoodIn wsX5_fewestByRows wsX5_aRowBringsAllHome := goodIn_r _ [34, 35, 36, 37, 5, 38, 8, 7, 23, 24, 39, 40, 41, 42, 43, 44, 45, 46, 47, 48, 49, 50, 51, 52, 53, 54, 55, 56, 57, 58, 14, 19, 59, 60, 61, 62, 63, 64, 65, 66, 10, 25, 67, 68, 69, 70, 26, 9, 12, 71, 72, 73, 74, 21, 20, 75, 76, 77, 78, 79, 80, 81, 82, 13, 83, 84, 85, 86, 22, 87, 88, 89, 90, 27, 28, 29, 30, 31, 32, 33, 95, 96, 97, 98, 99, 100, 101, 102, 103, 104, 105, 106, 107, 108, 109, 110] (by decide +kernel) (by decide +kernel)
set_option maxRecDepth 20000 in
theorem gX5_fewestByRows_X5_aRowBringsAllHome : GoodIn wsX5_fewestByRows (va_wsS RX5 33 yX5_aRowBringsAllHome wsX5_aRowBringsAllHome) := goodIn_app (goodIn_of _ (by decide +kernel)) ggX5_fewestByRows_X5_aRowBringsAllHome
set_option maxRecDepth 20000 in
theorem ggX5_aRowBringsAllHome_X1_takePosition : GoodIn wsX5_aRowBringsAllHome wsX1_takePosition := goodIn_r _ [5, 6, 7, 8, 9, 80, 81, 82, 83, 84, 85, 86, 87, 88, 89, 90, 91, 92, 93, 94, 95] (by decide +kernel) (by decide +kernel)
set_option maxRecDepth 20000 in
theorem gX5_aRowBringsAllHome_X1_takePosition : GoodIn wsX5_aRowBringsAllHome (wsV RX5 37 RX1 yX1_takePosition wsX1_takePosition) := goodIn_app (goodIn_of _ (by decide +kernel)) ggX5_aRowBringsAllHome_X1_takePosition
set_option maxRecDepth 20000 in
theorem ggX5_aRowBringsAllHome_X1_areAllHome : GoodIn wsX5_aRowBringsAllHome wsX1_areAllHome := goodIn_r _ [13, 7, 14, 15, 16, 4, 17, 8, 80, 81, 82, 83, 84, 85, 86, 87, 88, 89, 90, 91, 92, 93, 94, 95] (by decide +kernel) (by decide +kernel)
set_option maxRecDepth 20000 in
theorem gX5_aRowBringsAllHome_X1_areAllHome : GoodIn wsX5_aRowBringsAllHome (wsV RX5 41 RX1 yX1_areAllHome wsX1_areAllHome) := goodIn_app (goodIn_of _ (by decide +kernel)) ggX5_aRowBringsAllHome_X1_areAllHome
set_option maxRecDepth 20000 in
theorem ggX5_aRowBringsAllHome_X1_guestCount : GoodIn wsX5_aRowBringsAllHome wsX1_guestCount := goodIn_r _ [21, 7, 80, 81, 82, 83, 84, 85, 86, 87, 88, 89, 90, 91, 92, 93, 94, 95] (by decide +kernel) (by decide +kernel)
set_option maxRecDepth 20000 in
theorem gX5_aRowBringsAllHome_X1_guestCount : GoodIn wsX5_aRowBringsAllHome (wsV RX5 45 RX1 yX1_guestCount wsX1_guestCount) := goodIn_app (goodIn_of _ (by decide +kernel)) ggX5_aRowBringsAllHome_X1_guestCount
set_option maxRecDepth 20000 in
theorem ggX5_aRowBringsAllHome_X1_goIfWilling : GoodIn wsX5_aRowBringsAllHome wsX1_goIfWilling := goodIn_r _ [25, 26, 27, 28, 4, 29, 8, 9, 30, 6, 31, 32, 33, 34, 35, 7, 36, 37, 38, 39, 40, 41, 42, 43, 44, 45, 46, 47, 48, 49, 50, 51, 52, 53, 54, 55, 56, 57, 58, 59, 60, 61, 62, 63, 64, 65, 66, 67, 68, 69, 70, 71, 72, 80, 81, 82, 83, 84, 85, 86, 87, 88, 89, 90, 91, 92, 93, 94, 95] (by decide +kernel) (by decide +kernel)
set_option maxRecDepth 20000 in
theorem gX5_aRowBringsAllHome_X1_goIfWilling : GoodIn wsX5_aRowBringsAllHome (wsV RX5 48 RX1 yX1_goIfWilling wsX1_goIfWilling) := goodIn_app (goodIn_of _ (by decide +kernel)) ggX5_aRowBringsAllHome_X1_goIfWilling
set_option maxRecDepth 20000 in
theorem ggX5_aRowBringsAllHome_X1_position : GoodIn wsX5_aRowBringsAllHome wsX1_position := goodIn_r _ [76, 6, 7, 8, 9, 80, 81, 82, 83, 84, 85, 86, 87, 88, 89, 90, 91, 92, 93, 94, 95] (by decide +kernel) (by decide +kernel)
set_option maxRecDepth 20000 in
theorem gX5_aRowBringsAllHome_X1_position : GoodIn wsX5_aRowBringsAllHome (wsV RX5 29 RX1 yX1_position wsX1_position) := goodIn_app (goodIn_of _ (by decide +kernel)) ggX5_aRowBringsAllHome_X1_position
set_option maxRecDepth 20000 in
theorem ggX5_aRowBringsAllHome_X5_aRowBringsAllHome : GoodIn wsX5_aRowBringsAllHome wsX5_aRowBringsAllHome := goodIn_r _ [0, 1, 2, 3, 4, 5, 6, 7, 8, 9, 10, 11, 12, 13, 14, 15, 16, 17, 18, 19, 20, 21, 22, 23, 24, 25, 26, 27, 28, 29, 30, 31, 32, 33, 34, 35, 36, 37, 38, 39, 40, 41, 42, 43, 44, 45, 46, 47, 48, 49, 50, 51, 52, 53, 54, 55, 56, 57, 58, 59, 60, 61, 62, 63, 64, 65, 66, 67, 68, 69, 70, 71, 72, 73, 74, 75, 76, 77, 78, 79, 80, 81, 82, 83, 84, 85, 86, 87, 88, 89, 90, 91, 92, 93, 94, 95] (by decide +kernel) (by decide +kernel)
set_option maxRecDepth 20000 in
theorem gX5_aRowBringsAllHome_X5_aRowBringsAllHome : GoodIn wsX5_aRowBringsAllHome (va_wsS RX5 33 yX5_aRowBringsAllHome wsX5_aRowBringsAllHome) := goodIn_app (goodIn_of _ (by decide +kernel)) ggX5_aRowBringsAllHome_X5_aRowBringsAllHome
set_option maxRecDepth 20000 in
theorem ggX5_fewestByPositions_X1_copyFrom : GoodIn wsX5_fewestByPositions wsX1_copyFrom := goodIn_r _ [9, 10, 11, 12, 13, 14, 15, 16, 17, 18, 19, 20, 21, 22, 23, 24, 25, 26, 27, 28, 29, 99, 100, 101, 102, 103, 104, 105, 106, 107, 108, 109, 110, 111, 112, 113, 114] (by decide +kernel) (by decide +kernel)
set_option maxRecDepth 20000 in
theorem gX5_fewestByPositions_X1_copyFrom : GoodIn wsX5_fewestByPositions (wsV RX5 25 RX1 yX1_copyFrom wsX1_copyFrom) := goodIn_app (goodIn_of _ (by decide +kernel)) ggX5_fewestByPositions_X1_copyFrom
set_option maxRecDepth 20000 in
theorem ggX5_fewestByPositions_X1_areAllHome : GoodIn wsX5_fewestByPositions wsX1_areAllHome := goodIn_r _ [33, 10, 34, 35, 36, 8, 37, 26, 99, 100, 101, 102, 103, 104, 105, 106, 107, 108, 109, 110, 111, 112, 113, 114] (by decide +kernel) (by decide +kernel)
set_option maxRecDepth 20000 in
theorem gX5_fewestByPositions_X1_areAllHome : GoodIn wsX5_fewestByPositions (wsV RX5 41 RX1 yX1_areAllHome wsX1_areAllHome) := goodIn_app (goodIn_of _ (by decide +kernel)) ggX5_fewestByPositions_X1_areAllHome
set_option maxRecDepth 20000 in
theorem ggX5_fewestByPositions_X1_position : GoodIn wsX5_fewestByPositions wsX1_position := goodIn_r _ [41, 11, 10, 26, 27, 99, 100, 101, 102, 103, 104, 105, 106, 107, 108, 109, 110, 111, 112, 113, 114] (by decide +kernel) (by decide +kernel)
set_option maxRecDepth 20000 in
theorem gX5_fewestByPositions_X1_position : GoodIn wsX5_fewestByPositions (wsV RX5 29 RX1 yX1_position wsX1_position) := goodIn_app (goodIn_of _ (by decide +kernel)) ggX5_fewestByPositions_X1_position
set_option maxRecDepth 20000 in
theorem ggX5_fewestByPositions_X5_keepIfNew : GoodIn wsX5_fewestByPositions wsX5_keepIfNew := goodIn_r _ [46, 2, 4, 3, 95, 96, 97, 98] (by decide +kernel) (by decide +kernel)
set_option maxRecDepth 20000 in
theorem gX5_fewestByPositions_X5_keepIfNew : GoodIn wsX5_fewestByPositions (wsV RX5 56 RX5 yX5_keepIfNew wsX5_keepIfNew) := goodIn_app (goodIn_of _ (by decide +kernel)) ggX5_fewestByPositions_X5_keepIfNew
set_option maxRecDepth 20000 in
theorem ggX5_fewestByPositions_X1_guestCount : GoodIn wsX5_fewestByPositions wsX1_guestCount := goodIn_r _ [50, 10, 99, 100, 101, 102, 103, 104, 105, 106, 107, 108, 109, 110, 111, 112, 113, 114] (by decide +kernel) (by decide +kernel)
set_option maxRecDepth 20000 in
theorem gX5_fewestByPositions_X1_guestCount : GoodIn wsX5_fewestByPositions (wsV RX5 45 RX1 yX1_guestCount wsX1_guestCount) := goodIn_app (goodIn_of _ (by decide +kernel)) ggX5_fewestByPositions_X1_guestCount
set_option maxRecDepth 20000 in
theorem ggX5_fewestByPositions_X1_takePosition : GoodIn wsX5_fewestByPositions wsX1_takePosition := goodIn_r _ [54, 11, 10, 26, 27, 99, 100, 101, 102, 103, 104, 105, 106, 107, 108, 109, 110, 111, 112, 113, 114] (by decide +kernel) (by decide +kernel)
set_option maxRecDepth 20000 in
theorem gX5_fewestByPositions_X1_takePosition : GoodIn wsX5_fewestByPositions (wsV RX5 37 RX1 yX1_takePosition wsX1_takePosition) := goodIn_app (goodIn_of _ (by decide +kernel)) ggX5_fewestByPositions_X1_takePosition
set_option maxRecDepth 20000 in
theorem ggX5_fewestByPositions_X1_goIfWilling : GoodIn wsX5_fewestByPositions wsX1_goIfWilling := goodIn_r _ [58, 59, 60, 61, 8, 62, 26, 27, 17, 11, 22, 63, 64, 65, 66, 10, 67, 68, 69, 70, 13, 28, 71, 72, 73, 74, 29, 12, 15, 75, 76, 77, 78, 24, 23, 79, 80, 81, 82, 83, 84, 85, 86, 16, 87, 88, 89, 90, 25, 91, 92, 93, 94, 99, 100, 101, 102, 103, 104, 105, 106, 107, 108, 109, 110, 111, 112, 113, 114] (by decide +kernel) (by decide +kernel)
set_option maxRecDepth 20000 in
theorem gX5_fewestByPositions_X1_goIfWilling : GoodIn wsX5_fewestByPositions (wsV RX5 48 RX1 yX1_goIfWilling wsX1_goIfWilling) := goodIn_app (goodIn_of _ (by decide +kernel)) ggX5_fewestByPositions_X1_goIfWilling
set_option maxRecDepth 20000 in
theorem ggX5_bestPress_X5_fewestByPositions : GoodIn wsX5_bestPress wsX5_fewestByPositions := goodIn_r _ [6, 1, 7, 8, 9, 10, 11, 12, 13, 14, 15, 16, 17, 18, 19, 20, 21, 22, 23, 24, 25, 26, 27, 28, 29, 30, 31, 32, 33, 34, 35, 36, 37, 38, 39, 40, 41, 42, 43, 44, 45, 46, 47, 48, 49, 5, 50, 51, 52, 53, 54, 55, 56, 57, 58, 59, 60, 61, 62, 63, 64, 65, 66, 67, 68, 69, 70, 71, 72, 73, 74, 75, 76, 77, 78, 79, 80, 81, 82, 83, 84, 85, 86, 87, 88, 89, 90, 91, 92, 93, 94, 95, 96, 97, 98, 102, 103, 104, 105, 106, 107, 108, 109, 110, 111, 112, 113, 114, 115, 116, 117, 118, 119, 120, 121] (by decide +kernel) (by decide +kernel)
set_option maxRecDepth 20000 in
theorem gX5_bestPress_X5_fewestByPositions : GoodIn wsX5_bestPress (wsV RX5 60 RX5 yX5_fewestByPositions wsX5_fewestByPositions) := goodIn_app (goodIn_of _ (by decide +kernel)) ggX5_bestPress_X5_fewestByPositions
set_option maxRecDepth 20000 in
theorem ggX5_bestPress_X1_copyFrom : GoodIn wsX5_bestPress wsX1_copyFrom := goodIn_r _ [14, 15, 16, 17, 18, 19, 20, 21, 22, 23, 24, 25, 26, 27, 28, 29, 30, 31, 32, 33, 34, 106, 107, 108, 109, 110, 111, 112, 113, 114, 115, 116, 117, 118, 119, 120, 121] (by decide +kernel) (by decide +kernel)
set_option maxRecDepth 20000 in
theorem gX5_bestPress_X1_copyFrom : GoodIn wsX5_bestPress (wsV RX5 25 RX1 yX1_copyFrom wsX1_copyFrom) := goodIn_app (goodIn_of _ (by decide +kernel)) ggX5_bestPress_X1_copyFrom
set_option maxRecDepth 20000 in
theorem ggX5_bestPress_X1_position : GoodIn wsX5_bestPress wsX1_position := goodIn_r _ [46, 16, 15, 31, 32, 106, 107, 108, 109, 110, 111, 112, 113, 114, 115, 116, 117, 118, 119, 120, 121] (by decide +kernel) (by decide +kernel)
set_option maxRecDepth 20000 in
theorem gX5_bestPress_X1_position : GoodIn wsX5_bestPress (wsV RX5 29 RX1 yX1_position wsX1_position) := goodIn_app (goodIn_of _ (by decide +kernel)) ggX5_bestPress_X1_position
set_option maxRecDepth 20000 in
theorem ggX5_bestPress_X1_guestCount : GoodIn wsX5_bestPress wsX1_guestCount := goodIn_r _ [54, 15, 106, 107, 108, 109, 110, 111, 112, 113, 114, 115, 116, 117, 118, 119, 120, 121] (by decide +kernel) (by decide +kernel)
set_option maxRecDepth 20000 in
theorem gX5_bestPress_X1_guestCount : GoodIn wsX5_bestPress (wsV RX5 45 RX1 yX1_guestCount wsX1_guestCount) := goodIn_app (goodIn_of _ (by decide +kernel)) ggX5_bestPress_X1_guestCount
set_option maxRecDepth 20000 in
theorem ggX5_bestPress_X1_takePosition : GoodIn wsX5_bestPress wsX1_takePosition := goodIn_r _ [58, 16, 15, 31, 32, 106, 107, 108, 109, 110, 111, 112, 113, 114, 115, 116, 117, 118, 119, 120, 121] (by decide +kernel) (by decide +kernel)
set_option maxRecDepth 20000 in
theorem gX5_bestPress_X1_takePosition : GoodIn wsX5_bestPress (wsV RX5 37 RX1 yX1_takePosition wsX1_takePosition) := goodIn_app (goodIn_of _ (by decide +kernel)) ggX5_bestPress_X1_takePosition
set_option maxRecDepth 20000 in
theorem ggX5_bestPress_X1_goIfWilling : GoodIn wsX5_bestPress wsX1_goIfWilling := goodIn_r _ [62, 63, 64, 65, 13, 66, 31, 32, 22, 16, 27, 67, 68, 69, 70, 15, 71, 72, 73, 74, 18, 33, 75, 76, 77, 78, 34, 17, 20, 79, 80, 81, 82, 29, 28, 83, 84, 85, 86, 87, 88, 89, 90, 21, 91, 92, 93, 94, 30, 95, 96, 97, 98, 106, 107, 108, 109, 110, 111, 112, 113, 114, 115, 116, 117, 118, 119, 120, 121] (by decide +kernel) (by decide +kernel)
set_option maxRecDepth 20000 in
theorem gX5_bestPress_X1_goIfWilling : GoodIn wsX5_bestPress (wsV RX5 48 RX1 yX1_goIfWilling wsX1_goIfWilling) := goodIn_app (goodIn_of _ (by decide +kernel)) ggX5_bestPress_X1_goIfWilling
set_option maxRecDepth 20000 in
theorem ggX5_bestPress_X5_aRowBringsAllHome : GoodIn wsX5_bestPress wsX5_aRowBringsAllHome := goodIn_r _ [101, 55, 56, 57, 13, 58, 16, 15, 31, 32, 35, 36, 37, 38, 39, 40, 41, 42, 51, 52, 53, 54, 59, 60, 61, 62, 63, 64, 65, 66, 22, 27, 67, 68, 69, 70, 71, 72, 73, 74, 18, 33, 75, 76, 77, 78, 34, 17, 20, 79, 80, 81, 82, 29, 28, 83, 84, 85, 86, 87, 88, 89, 90, 21, 91, 92, 93, 94, 30, 95, 96, 97, 98, 43, 44, 45, 46, 99, 100, 5, 106, 107, 108, 109, 110, 111, 112, 113, 114, 115, 116, 117, 118, 119, 120, 121] (by decide +kernel) (by decide +kernel)
set_option maxRecDepth 20000 in
theorem gX5_bestPress_X5_aRowBringsAllHome : GoodIn wsX5_bestPress (va_wsS RX5 33 yX5_aRowBringsAllHome wsX5_aRowBringsAllHome) := goodIn_app (goodIn_of _ (by decide +kernel)) ggX5_bestPress_X5_aRowBringsAllHome
set_option maxRecDepth 20000 in
theorem ggX6_take_X1_admit : GoodIn wsX6_take wsX1_admit := goodIn_r _ [5, 6, 7, 8, 9, 10, 11, 12, 13, 14, 15, 16, 4, 17, 18, 19, 20, 21, 22, 23, 24, 96, 97, 98, 99, 100, 101, 102, 103, 104, 105, 106, 107, 108, 109, 110, 111] (by decide +kernel) (by decide +kernel)
set_option maxRecDepth 20000 in
theorem gX6_take_X1_admit : GoodIn wsX6_take (wsV RX6 7 RX1 yX1_admit wsX1_admit) := goodIn_app (goodIn_of _ (by decide +kernel)) ggX6_take_X1_admit
set_option maxRecDepth 20000 in
theorem ggX6_take_X1_dismiss : GoodIn wsX6_take wsX1_dismiss := goodIn_r _ [28, 12, 6, 29, 30, 31, 4, 32, 33, 34, 35, 36, 7, 8, 9, 10, 11, 13, 14, 96, 97, 98, 99, 100, 101, 102, 103, 104, 105, 106, 107, 108, 109, 110, 111] (by decide +kernel) (by decide +kernel)
set_option maxRecDepth 20000 in
theorem gX6_take_X1_dismiss : GoodIn wsX6_take (wsV RX6 13 RX1 yX1_dismiss wsX1_dismiss) := goodIn_app (goodIn_of _ (by decide +kernel)) ggX6_take_X1_dismiss
