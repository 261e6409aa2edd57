set_option maxRecDepth 20000 in
theorem ggX6_take_X1_letAllRest : GoodIn wsX6_take wsX1_letAllRest := goodIn_r _ [40, 41, 6, 12, 96, 97, 98, 99, 100, 101, 102, 103, 104, 105, 106, 107, 108, 109, 110, 111] (by decide +kernel) (by decide +kernel)
set_option maxRecDepth 20000 in
theorem gX6_take_X1_letAllRest : GoodIn wsX6_take (wsV RX6 17 RX1 yX1_letAllRest wsX1_letAllRest) := goodIn_app (goodIn_of _ (by decide +kernel)) ggX6_take_X1_letAllRest
set_option maxRecDepth 20000 in
theorem ggX6_take_X1_change : GoodIn wsX6_take wsX1_change := goodIn_r _ [45, 46, 47, 48, 4, 49, 50, 51, 52, 53, 54, 96, 97, 98, 99, 100, 101, 102, 103, 104, 105, 106, 107, 108, 109, 110, 111] (by decide +kernel) (by decide +kernel)
set_option maxRecDepth 20000 in
theorem gX6_take_X1_change : GoodIn wsX6_take (wsV RX6 20 RX1 yX1_change wsX1_change) := goodIn_app (goodIn_of _ (by decide +kernel)) ggX6_take_X1_change
set_option maxRecDepth 20000 in
theorem ggX6_take_X1_pressBy : GoodIn wsX6_take wsX1_pressBy := goodIn_r _ [58, 59, 60, 61, 62, 4, 63, 11, 12, 46, 64, 7, 29, 30, 31, 32, 6, 65, 66, 67, 68, 69, 13, 70, 71, 72, 73, 14, 41, 74, 75, 76, 77, 78, 9, 8, 79, 80, 81, 82, 83, 84, 85, 86, 87, 88, 89, 90, 91, 10, 92, 93, 94, 95, 96, 97, 98, 99, 100, 101, 102, 103, 104, 105, 106, 107, 108, 109, 110, 111] (by decide +kernel) (by decide +kernel)
set_option maxRecDepth 20000 in
theorem gX6_take_X1_pressBy : GoodIn wsX6_take (wsV RX6 24 RX1 yX1_pressBy wsX1_pressBy) := goodIn_app (goodIn_of _ (by decide +kernel)) ggX6_take_X1_pressBy
set_option maxRecDepth 20000 in
theorem ggX7_init_X2_init : GoodIn wsX7_init wsX2_init := goodIn_r _ [23, 24, 2, 3, 25, 26, 52, 53] (by decide +kernel) (by decide +kernel)
set_option maxRecDepth 20000 in
theorem gX7_init_X2_init_n9 : GoodIn wsX7_init (wsX2_init) := ggX7_init_X2_init
set_option maxRecDepth 20000 in
theorem ggX7_init_X3_init : GoodIn wsX7_init wsX3_init := goodIn_r _ [28, 29, 2, 3, 30, 31, 60, 61] (by decide +kernel) (by decide +kernel)
set_option maxRecDepth 20000 in
theorem gX7_init_X3_init_n18 : GoodIn wsX7_init (wsX3_init) := ggX7_init_X3_init
set_option maxRecDepth 20000 in
theorem ggX7_init_X5_init : GoodIn wsX7_init wsX5_init := goodIn_r _ [33, 34, 2, 3, 35, 18, 19, 36, 37, 38, 39, 40, 41, 42, 43, 44, 45, 46, 47, 48, 49, 50, 51, 66, 67, 68, 69, 70, 71, 72, 73, 74, 75, 76, 77, 78, 79, 80, 81, 62, 63, 64, 65] (by decide +kernel) (by decide +kernel)
set_option maxRecDepth 20000 in
theorem gX7_init_X5_init_n25 : GoodIn wsX7_init (wsX5_init) := ggX7_init_X5_init
set_option maxRecDepth 20000 in
theorem ggX7_init_X1_init : GoodIn wsX7_init wsX1_init := goodIn_r _ [41, 42, 2, 3, 37, 43, 44, 45, 46, 47, 48, 49, 50, 51, 66, 67, 68, 69, 70, 71, 72, 73, 74, 75, 76, 77, 78, 79, 80, 81] (by decide +kernel) (by decide +kernel)
set_option maxRecDepth 20000 in
theorem gX7_init_X1_init_n36 : GoodIn wsX7_init (wsX1_init) := ggX7_init_X1_init
set_option maxRecDepth 20000 in
theorem ggX7_append_X2_isFull : GoodIn wsX7_append wsX2_isFull := goodIn_r _ [10, 11, 12, 23, 24] (by decide +kernel) (by decide +kernel)
set_option maxRecDepth 20000 in
theorem gX7_append_X2_isFull : GoodIn wsX7_append (wsV RX7 51 RX2 yX2_isFull wsX2_isFull) := goodIn_app (goodIn_of _ (by decide +kernel)) ggX7_append_X2_isFull
set_option maxRecDepth 20000 in
theorem ggX7_append_X2_add : GoodIn wsX7_append wsX2_add := goodIn_r _ [16, 11, 12, 23, 24] (by decide +kernel) (by decide +kernel)
set_option maxRecDepth 20000 in
theorem gX7_append_X2_add : GoodIn wsX7_append (wsV RX7 60 RX2 yX2_add wsX2_add) := goodIn_app (goodIn_of _ (by decide +kernel)) ggX7_append_X2_add
set_option maxRecDepth 20000 in
theorem ggX7_load_X2_firstError : GoodIn wsX7_load wsX2_firstError := goodIn_r _ [14, 15, 16, 17, 18, 13, 19, 20, 21, 22, 23, 24, 25, 26, 27, 28, 29, 30, 31, 32, 33, 34, 35, 36, 37, 38, 229, 230] (by decide +kernel) (by decide +kernel)
set_option maxRecDepth 20000 in
theorem gX7_load_X2_firstError : GoodIn wsX7_load (wsV RX7 68 RX2 yX2_firstError wsX2_firstError) := goodIn_app (goodIn_of _ (by decide +kernel)) ggX7_load_X2_firstError
set_option maxRecDepth 20000 in
theorem ggX7_load_X1_init : GoodIn wsX7_load wsX1_init := goodIn_r _ [40, 41, 42, 43, 44, 45, 46, 47, 48, 49, 50, 51, 52, 53, 213, 214, 215, 216, 217, 218, 219, 220, 221, 222, 223, 224, 225, 226, 227, 228] (by decide +kernel) (by decide +kernel)
set_option maxRecDepth 20000 in
theorem gX7_load_X1_init_n36 : GoodIn wsX7_load (wsX1_init) := ggX7_load_X1_init
set_option maxRecDepth 20000 in
theorem ggX7_load_X3_forgetAll : GoodIn wsX7_load wsX3_forgetAll := goodIn_r _ [58, 59, 231, 232] (by decide +kernel) (by decide +kernel)
set_option maxRecDepth 20000 in
theorem gX7_load_X3_forgetAll : GoodIn wsX7_load (wsV RX7 73 RX3 yX3_forgetAll wsX3_forgetAll) := goodIn_app (goodIn_of _ (by decide +kernel)) ggX7_load_X3_forgetAll
set_option maxRecDepth 20000 in
theorem ggX7_load_X2_size : GoodIn wsX7_load wsX2_size := goodIn_r _ [63, 15, 229, 230] (by decide +kernel) (by decide +kernel)
set_option maxRecDepth 20000 in
theorem gX7_load_X2_size : GoodIn wsX7_load (wsV RX7 76 RX2 yX2_size wsX2_size) := goodIn_app (goodIn_of _ (by decide +kernel)) ggX7_load_X2_size
set_option maxRecDepth 20000 in
theorem ggX7_load_X2_isCommand : GoodIn wsX7_load wsX2_isCommand := goodIn_r _ [35, 16, 17, 18, 13, 19, 15, 20, 36, 37, 38, 229, 230] (by decide +kernel) (by decide +kernel)
set_option maxRecDepth 20000 in
theorem gX7_load_X2_isCommand : GoodIn wsX7_load (wsV RX7 79 RX2 yX2_isCommand wsX2_isCommand) := goodIn_app (goodIn_of _ (by decide +kernel)) ggX7_load_X2_isCommand
set_option maxRecDepth 20000 in
theorem ggX7_load_X7_doCommand : GoodIn wsX7_load wsX7_doCommand := goodIn_r _ [69, 3, 7, 70, 71, 26, 27, 13, 28, 16, 17, 18, 19, 15, 20, 72, 73, 74, 75, 6, 76, 77, 46, 47, 48, 49, 50, 51, 52, 53, 78, 79, 80, 81, 82, 83, 84, 85, 86, 87, 88, 89, 90, 91, 92, 93, 94, 95, 45, 96, 97, 98, 99, 100, 101, 102, 103, 104, 105, 106, 107, 108, 109, 110, 111, 112, 113, 114, 115, 116, 117, 118, 119, 120, 121, 122, 123, 124, 125, 126, 127, 128, 129, 130, 131, 132, 133, 134, 135, 136, 137, 138, 139, 140, 141, 142, 143, 144, 145, 146, 147, 148, 149, 150, 151, 152, 153, 154, 155, 156, 157, 158, 159, 160, 161, 162, 163, 164, 165, 166, 167, 168, 169, 170, 171, 172, 173, 174, 175, 176, 177, 178, 179, 180, 181, 182, 183, 184, 185, 186, 187, 188, 189, 190, 191, 192, 193, 194, 195, 196, 197, 198, 199, 200, 201, 202, 203, 204, 205, 206, 207, 208, 209, 210, 211, 212, 229, 230, 213, 214, 215, 216, 217, 218, 219, 220, 221, 222, 223, 224, 225, 226, 227, 228, 233, 234, 235, 236] (by decide +kernel) (by decide +kernel)
set_option maxRecDepth 20000 in
theorem gX7_load_X7_doCommand : GoodIn wsX7_load (wsV RX7 83 RX7 yX7_doCommand wsX7_doCommand) := goodIn_app (goodIn_of _ (by decide +kernel)) ggX7_load_X7_doCommand
set_option maxRecDepth 20000 in
theorem ggX7_doCommand_X2_digitAt : GoodIn wsX7_doCommand wsX2_digitAt := goodIn_r _ [8, 9, 10, 11, 7, 12, 13, 14, 166, 167] (by decide +kernel) (by decide +kernel)
set_option maxRecDepth 20000 in
theorem gX7_doCommand_X2_digitAt : GoodIn wsX7_doCommand (wsV RX7 86 RX2 yX2_digitAt wsX2_digitAt) := goodIn_app (goodIn_of _ (by decide +kernel)) ggX7_doCommand_X2_digitAt
set_option maxRecDepth 20000 in
theorem ggX7_doCommand_X2_signAt : GoodIn wsX7_doCommand wsX2_signAt := goodIn_r _ [12, 13, 14, 166, 167] (by decide +kernel) (by decide +kernel)
set_option maxRecDepth 20000 in
theorem gX7_doCommand_X2_signAt : GoodIn wsX7_doCommand (wsV RX7 90 RX2 yX2_signAt wsX2_signAt) := goodIn_app (goodIn_of _ (by decide +kernel)) ggX7_doCommand_X2_signAt
set_option maxRecDepth 20000 in
theorem ggX7_doCommand_X1_admit : GoodIn wsX7_doCommand wsX1_admit := goodIn_r _ [20, 21, 22, 23, 24, 25, 26, 27, 28, 29, 30, 31, 19, 32, 33, 34, 35, 36, 37, 38, 39, 168, 169, 170, 171, 172, 173, 174, 175, 176, 177, 178, 179, 180, 181, 182, 183] (by decide +kernel) (by decide +kernel)
set_option maxRecDepth 20000 in
theorem gX7_doCommand_X1_admit : GoodIn wsX7_doCommand (wsV RX7 93 RX1 yX1_admit wsX1_admit) := goodIn_app (goodIn_of _ (by decide +kernel)) ggX7_doCommand_X1_admit
set_option maxRecDepth 20000 in
theorem ggX7_doCommand_X1_goIfWilling : GoodIn wsX7_doCommand wsX1_goIfWilling := goodIn_r _ [43, 44, 45, 46, 19, 47, 26, 27, 48, 49, 22, 50, 51, 52, 53, 21, 54, 55, 56, 57, 58, 28, 59, 60, 61, 62, 29, 63, 64, 65, 66, 67, 68, 24, 23, 69, 70, 71, 72, 73, 74, 75, 76, 77, 78, 79, 80, 81, 25, 82, 83, 84, 85, 168, 169, 170, 171, 172, 173, 174, 175, 176, 177, 178, 179, 180, 181, 182, 183] (by decide +kernel) (by decide +kernel)
set_option maxRecDepth 20000 in
theorem gX7_doCommand_X1_goIfWilling : GoodIn wsX7_doCommand (wsV RX7 97 RX1 yX1_goIfWilling wsX1_goIfWilling) := goodIn_app (goodIn_of _ (by decide +kernel)) ggX7_doCommand_X1_goIfWilling
set_option maxRecDepth 20000 in
theorem ggX7_doCommand_X1_letAllRest : GoodIn wsX7_doCommand wsX1_letAllRest := goodIn_r _ [89, 63, 21, 27, 168, 169, 170, 171, 172, 173, 174, 175, 176, 177, 178, 179, 180, 181, 182, 183] (by decide +kernel) (by decide +kernel)
set_option maxRecDepth 20000 in
theorem gX7_doCommand_X1_letAllRest : GoodIn wsX7_doCommand (wsV RX7 100 RX1 yX1_letAllRest wsX1_letAllRest) := goodIn_app (goodIn_of _ (by decide +kernel)) ggX7_doCommand_X1_letAllRest
set_option maxRecDepth 20000 in
theorem ggX7_doCommand_X1_dismiss : GoodIn wsX7_doCommand wsX1_dismiss := goodIn_r _ [93, 27, 21, 50, 51, 52, 19, 53, 94, 95, 96, 97, 22, 23, 24, 25, 26, 28, 29, 168, 169, 170, 171, 172, 173, 174, 175, 176, 177, 178, 179, 180, 181, 182, 183] (by decide +kernel) (by decide +kernel)
set_option maxRecDepth 20000 in
theorem gX7_doCommand_X1_dismiss : GoodIn wsX7_doCommand (wsV RX7 103 RX1 yX1_dismiss wsX1_dismiss) := goodIn_app (goodIn_of _ (by decide +kernel)) ggX7_doCommand_X1_dismiss
set_option maxRecDepth 20000 in
theorem ggX7_doCommand_X1_change : GoodIn wsX7_doCommand wsX1_change := goodIn_r _ [101, 48, 102, 103, 19, 104, 105, 106, 107, 108, 109, 168, 169, 170, 171, 172, 173, 174, 175, 176, 177, 178, 179, 180, 181, 182, 183] (by decide +kernel) (by decide +kernel)
set_option maxRecDepth 20000 in
theorem gX7_doCommand_X1_change : GoodIn wsX7_doCommand (wsV RX7 106 RX1 yX1_change wsX1_change) := goodIn_app (goodIn_of _ (by decide +kernel)) ggX7_doCommand_X1_change
set_option maxRecDepth 20000 in
theorem ggX7_doCommand_X5_bestPress : GoodIn wsX7_doCommand wsX5_bestPress := goodIn_r _ [114, 115, 116, 117, 118, 113, 119, 120, 121, 122, 123, 124, 125, 19, 126, 21, 49, 63, 58, 127, 64, 77, 48, 128, 129, 130, 131, 22, 23, 24, 25, 26, 27, 28, 29, 132, 133, 134, 135, 136, 137, 138, 139, 140, 141, 142, 143, 144, 145, 146, 147, 148, 149, 150, 151, 152, 153, 154, 155, 156, 41, 42, 43, 44, 45, 46, 47, 50, 51, 52, 53, 54, 55, 56, 57, 59, 60, 61, 62, 65, 66, 67, 68, 69, 70, 71, 72, 73, 74, 75, 76, 78, 79, 80, 81, 82, 83, 84, 85, 157, 158, 159, 184, 185, 186, 187, 168, 169, 170, 171, 172, 173, 174, 175, 176, 177, 178, 179, 180, 181, 182, 183] (by decide +kernel) (by decide +kernel)
set_option maxRecDepth 20000 in
theorem gX7_doCommand_X5_bestPress : GoodIn wsX7_doCommand (wsV RX7 110 RX5 yX5_bestPress wsX5_bestPress) := goodIn_app (goodIn_of _ (by decide +kernel)) ggX7_doCommand_X5_bestPress
set_option maxRecDepth 20000 in
theorem ggX7_about_X1_number : GoodIn wsX7_about wsX1_number := goodIn_r _ [8, 9, 10, 11, 12, 13, 14, 15, 16, 17, 18, 7, 19, 20, 21, 22, 23, 24, 25, 26, 27, 28, 29, 30, 37, 38, 39, 40, 41, 42, 43, 44, 45, 46, 47, 48, 49, 50, 51, 52] (by decide +kernel) (by decide +kernel)
set_option maxRecDepth 20000 in
theorem gX7_about_X1_number : GoodIn wsX7_about (wsV RX7 116 RX1 yX1_number wsX1_number) := goodIn_app (goodIn_of _ (by decide +kernel)) ggX7_about_X1_number
set_option maxRecDepth 20000 in
theorem ggX7_guestOf_X7_requireGuest : GoodIn wsX7_guestOf wsX7_requireGuest := goodIn_ca (goodIn_r _ [8, 9, 10, 3, 11, 12, 13, 14, 15, 16, 35, 36, 37, 38, 39, 40, 41, 42, 43, 44, 45, 46, 47, 48, 49, 50, 51, 52, 53, 54, 55, 56] (by decide +kernel) (by decide +kernel)) (goodIn_sub (fun _ h => List.mem_cons_of_mem _ (List.mem_append_right _ h)) (by decide +kernel))
set_option maxRecDepth 20000 in
theorem gX7_guestOf_X7_requireGuest : GoodIn wsX7_guestOf (wsV RX7 119 RX7 yX7_requireGuest wsX7_requireGuest) := goodIn_app (goodIn_of _ (by decide +kernel)) ggX7_guestOf_X7_requireGuest
set_option maxRecDepth 20000 in
theorem ggX7_guestOf_X1_guestNumber : GoodIn wsX7_guestOf wsX1_guestNumber := goodIn_r _ [20, 21, 22, 23, 24, 25, 26, 27, 28, 12, 13, 14, 15, 16, 29, 30, 31, 32, 33, 34, 41, 42, 43, 44, 45, 46, 47, 48, 49, 50, 51, 52, 53, 54, 55, 56] (by decide +kernel) (by decide +kernel)
set_option maxRecDepth 20000 in
theorem gX7_guestOf_X1_guestNumber : GoodIn wsX7_guestOf (wsV RX7 125 RX1 yX1_guestNumber wsX1_guestNumber) := goodIn_app (goodIn_of _ (by decide +kernel)) ggX7_guestOf_X1_guestNumber
set_option maxRecDepth 20000 in
theorem ggX7_floorOf_X1_isFloor : GoodIn wsX7_floorOf wsX1_isFloor := goodIn_r _ [9] (by decide +kernel) (by decide +kernel)
set_option maxRecDepth 20000 in
theorem gX7_floorOf_X1_isFloor : GoodIn wsX7_floorOf (va_wsS RX7 128 yX1_isFloor wsX1_isFloor) := goodIn_app (goodIn_of _ (by decide +kernel)) ggX7_floorOf_X1_isFloor
set_option maxRecDepth 20000 in
theorem ggX7_floorOf_X1_floorSet : GoodIn wsX7_floorOf wsX1_floorSet := goodIn_r _ [13, 14, 15, 16, 17, 8, 18, 19, 20, 21, 22, 29, 30, 31, 32, 33, 34, 35, 36, 37, 38, 39, 40, 41, 42, 43, 44] (by decide +kernel) (by decide +kernel)
set_option maxRecDepth 20000 in
theorem gX7_floorOf_X1_floorSet : GoodIn wsX7_floorOf (wsV RX7 138 RX1 yX1_floorSet wsX1_floorSet) := goodIn_app (goodIn_of _ (by decide +kernel)) ggX7_floorOf_X1_floorSet
