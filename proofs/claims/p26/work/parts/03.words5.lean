set_option maxRecDepth 20000 in
theorem ggX7_ifPressed_X1_copyFrom : GoodIn wsX7_ifPressed wsX1_copyFrom := goodIn_r _ [15, 16, 17, 18, 19, 20, 21, 22, 23, 24, 25, 26, 27, 28, 29, 30, 31, 32, 33, 34, 35, 100, 101, 102, 103, 104, 105, 106, 107, 108, 109, 110, 111, 112, 113, 114, 115] (by decide +kernel) (by decide +kernel)
set_option maxRecDepth 20000 in
theorem gX7_ifPressed_X1_copyFrom : GoodIn wsX7_ifPressed (wsV RX7 205 RX1 yX1_copyFrom wsX1_copyFrom) := goodIn_app (goodIn_of _ (by decide +kernel)) ggX7_ifPressed_X1_copyFrom
set_option maxRecDepth 20000 in
theorem ggX7_ifPressed_X1_pressBy : GoodIn wsX7_ifPressed wsX1_pressBy := goodIn_r _ [39, 20, 40, 41, 42, 14, 43, 32, 33, 23, 17, 28, 44, 45, 46, 47, 16, 48, 49, 50, 51, 19, 34, 52, 53, 54, 55, 35, 18, 21, 56, 57, 58, 59, 30, 29, 60, 61, 62, 63, 64, 65, 66, 67, 22, 68, 69, 70, 71, 31, 72, 73, 74, 75, 100, 101, 102, 103, 104, 105, 106, 107, 108, 109, 110, 111, 112, 113, 114, 115] (by decide +kernel) (by decide +kernel)
set_option maxRecDepth 20000 in
theorem gX7_ifPressed_X1_pressBy : GoodIn wsX7_ifPressed (wsV RX7 161 RX1 yX1_pressBy wsX1_pressBy) := goodIn_app (goodIn_of _ (by decide +kernel)) ggX7_ifPressed_X1_pressBy
set_option maxRecDepth 20000 in
theorem ggX7_ifPressed_X7_brought : GoodIn wsX7_ifPressed wsX7_brought := goodIn_r _ [80, 3, 4, 81, 82, 83, 14, 84, 16, 17, 18, 19, 20, 21, 22, 72, 73, 74, 75, 32, 31, 85, 86, 87, 88, 89, 90, 91, 92, 33, 93, 94, 95, 96, 97, 98, 99, 100, 101, 102, 103, 104, 105, 106, 107, 108, 109, 110, 111, 112, 113, 114, 115] (by decide +kernel) (by decide +kernel)
set_option maxRecDepth 20000 in
theorem gX7_ifPressed_X7_brought : GoodIn wsX7_ifPressed (wsV RX7 210 RX7 yX7_brought wsX7_brought) := goodIn_app (goodIn_of _ (by decide +kernel)) ggX7_ifPressed_X7_brought
set_option maxRecDepth 20000 in
theorem ggX7_brought_X1_number : GoodIn wsX7_brought wsX1_number := goodIn_r _ [7, 8, 9, 10, 11, 12, 13, 14, 15, 16, 17, 6, 18, 19, 20, 21, 22, 23, 24, 25, 26, 27, 28, 29, 37, 38, 39, 40, 41, 42, 43, 44, 45, 46, 47, 48, 49, 50, 51, 52] (by decide +kernel) (by decide +kernel)
set_option maxRecDepth 20000 in
theorem gX7_brought_X1_number : GoodIn wsX7_brought (wsV RX7 116 RX1 yX1_number wsX1_number) := goodIn_app (goodIn_of _ (by decide +kernel)) ggX7_brought_X1_number
set_option maxRecDepth 20000 in
theorem ggX7_brought_X1_allGrudges : GoodIn wsX7_brought wsX1_allGrudges := goodIn_r _ [28, 8, 29, 37, 38, 39, 40, 41, 42, 43, 44, 45, 46, 47, 48, 49, 50, 51, 52] (by decide +kernel) (by decide +kernel)
set_option maxRecDepth 20000 in
theorem gX7_brought_X1_allGrudges : GoodIn wsX7_brought (wsV RX7 164 RX1 yX1_allGrudges wsX1_allGrudges) := goodIn_app (goodIn_of _ (by decide +kernel)) ggX7_brought_X1_allGrudges
set_option maxRecDepth 20000 in
theorem ggX7_leftStanding_X7_requireGuest : GoodIn wsX7_leftStanding wsX7_requireGuest := goodIn_ca (goodIn_r _ [7, 8, 9, 2, 10, 11, 12, 13, 14, 15, 80, 81, 82, 83, 84, 85, 86, 87, 88, 89, 90, 91, 92, 93, 94, 95, 96, 97, 98, 99, 100, 101] (by decide +kernel) (by decide +kernel)) (goodIn_sub (fun _ h => List.mem_cons_of_mem _ (List.mem_append_right _ h)) (by decide +kernel))
set_option maxRecDepth 20000 in
theorem gX7_leftStanding_X7_requireGuest : GoodIn wsX7_leftStanding (wsV RX7 119 RX7 yX7_requireGuest wsX7_requireGuest) := goodIn_app (goodIn_of _ (by decide +kernel)) ggX7_leftStanding_X7_requireGuest
set_option maxRecDepth 20000 in
theorem ggX7_leftStanding_X1_copyFrom : GoodIn wsX7_leftStanding wsX1_copyFrom := goodIn_r _ [19, 15, 20, 21, 22, 23, 24, 25, 26, 27, 28, 29, 30, 31, 32, 33, 34, 35, 36, 37, 38, 86, 87, 88, 89, 90, 91, 92, 93, 94, 95, 96, 97, 98, 99, 100, 101] (by decide +kernel) (by decide +kernel)
set_option maxRecDepth 20000 in
theorem gX7_leftStanding_X1_copyFrom : GoodIn wsX7_leftStanding (wsV RX7 205 RX1 yX1_copyFrom wsX1_copyFrom) := goodIn_app (goodIn_of _ (by decide +kernel)) ggX7_leftStanding_X1_copyFrom
set_option maxRecDepth 20000 in
theorem ggX7_leftStanding_X1_standingBehind : GoodIn wsX7_leftStanding wsX1_standingBehind := goodIn_r _ [42, 20, 31, 43, 11, 12, 13, 14, 15, 44, 45, 46, 47, 22, 37, 48, 49, 50, 51, 35, 38, 21, 26, 24, 52, 53, 54, 55, 33, 32, 56, 57, 58, 59, 36, 60, 61, 62, 63, 25, 64, 65, 66, 67, 34, 68, 69, 70, 71, 72, 73, 74, 75, 76, 77, 78, 79, 86, 87, 88, 89, 90, 91, 92, 93, 94, 95, 96, 97, 98, 99, 100, 101] (by decide +kernel) (by decide +kernel)
set_option maxRecDepth 20000 in
theorem gX7_leftStanding_X1_standingBehind : GoodIn wsX7_leftStanding (wsV RX7 213 RX1 yX1_standingBehind wsX1_standingBehind) := goodIn_app (goodIn_of _ (by decide +kernel)) ggX7_leftStanding_X1_standingBehind
set_option maxRecDepth 20000 in
theorem ggX7_runScript_X0_without : GoodIn wsX7_runScript wsX0_without := goodIn_r _ [9, 10] (by decide +kernel) (by decide +kernel)
set_option maxRecDepth 20000 in
theorem gX7_runScript_X0_without : GoodIn wsX7_runScript (va_wsS RX7 195 yX0_without wsX0_without) := goodIn_app (goodIn_of _ (by decide +kernel)) ggX7_runScript_X0_without
set_option maxRecDepth 20000 in
theorem ggX7_runScript_X1_copyFrom : GoodIn wsX7_runScript wsX1_copyFrom := goodIn_r _ [15, 16, 17, 18, 19, 20, 21, 22, 23, 24, 25, 26, 27, 28, 29, 30, 31, 32, 33, 34, 35, 148, 149, 150, 151, 152, 153, 154, 155, 156, 157, 158, 159, 160, 161, 162, 163] (by decide +kernel) (by decide +kernel)
set_option maxRecDepth 20000 in
theorem gX7_runScript_X1_copyFrom : GoodIn wsX7_runScript (wsV RX7 205 RX1 yX1_copyFrom wsX1_copyFrom) := goodIn_app (goodIn_of _ (by decide +kernel)) ggX7_runScript_X1_copyFrom
set_option maxRecDepth 20000 in
theorem ggX7_runScript_X4_succeeds : GoodIn wsX7_runScript wsX4_succeeds := goodIn_r _ [39, 40, 41, 42, 14, 43, 16, 28, 29, 30, 31, 32, 33, 34, 35, 44, 45, 46, 47, 48, 49, 50, 51, 52, 53, 54, 55, 56, 57, 20, 58, 59, 60, 61, 23, 17, 62, 63, 64, 65, 66, 67, 68, 69, 19, 70, 71, 72, 73, 18, 21, 74, 75, 76, 77, 78, 79, 80, 81, 82, 83, 84, 85, 22, 86, 87, 88, 89, 90, 91, 92, 93, 94, 95, 38, 96, 97, 98, 99, 100, 101, 102, 103, 104, 105, 106, 107, 108, 109, 110, 111, 112, 113, 114, 115, 116, 117, 118, 119, 120, 121, 122, 123, 124, 125, 126, 127, 128, 129, 130, 131, 132, 133, 134, 135, 136, 137, 138, 139, 140, 141, 148, 149, 150, 151, 152, 153, 154, 155, 156, 157, 158, 159, 160, 161, 162, 163] (by decide +kernel) (by decide +kernel)
set_option maxRecDepth 20000 in
theorem gX7_runScript_X4_succeeds : GoodIn wsX7_runScript (va_wsS RX7 222 yX4_succeeds wsX4_succeeds) := goodIn_app (goodIn_of _ (by decide +kernel)) ggX7_runScript_X4_succeeds
set_option maxRecDepth 20000 in
theorem ggX7_simulate_X1_copyFrom : GoodIn wsX7_simulate wsX1_copyFrom := goodIn_r _ [11, 12, 13, 14, 15, 16, 17, 18, 19, 20, 21, 22, 23, 24, 25, 26, 27, 28, 29, 30, 31, 133, 134, 135, 136, 137, 138, 139, 140, 141, 142, 143, 144, 145, 146, 147, 148] (by decide +kernel) (by decide +kernel)
set_option maxRecDepth 20000 in
theorem gX7_simulate_X1_copyFrom : GoodIn wsX7_simulate (wsV RX7 205 RX1 yX1_copyFrom wsX1_copyFrom) := goodIn_app (goodIn_of _ (by decide +kernel)) ggX7_simulate_X1_copyFrom
set_option maxRecDepth 20000 in
theorem ggX7_simulate_X6_take : GoodIn wsX7_simulate wsX6_take := goodIn_r _ [35, 36, 37, 38, 10, 39, 12, 24, 25, 26, 27, 28, 29, 30, 31, 40, 41, 42, 43, 44, 45, 46, 47, 48, 49, 50, 51, 52, 53, 54, 55, 56, 57, 58, 59, 60, 61, 62, 63, 64, 65, 14, 66, 67, 68, 69, 19, 70, 71, 72, 73, 74, 75, 76, 77, 78, 79, 80, 81, 16, 82, 83, 84, 85, 13, 86, 87, 88, 89, 15, 90, 91, 92, 93, 17, 94, 95, 96, 97, 98, 99, 100, 101, 102, 103, 104, 105, 18, 106, 107, 108, 109, 110, 111, 112, 113, 133, 134, 135, 136, 137, 138, 139, 140, 141, 142, 143, 144, 145, 146, 147, 148] (by decide +kernel) (by decide +kernel)
set_option maxRecDepth 20000 in
theorem gX7_simulate_X6_take : GoodIn wsX7_simulate (va_wsS RX7 234 yX6_take wsX6_take) := goodIn_app (goodIn_of _ (by decide +kernel)) ggX7_simulate_X6_take
set_option maxRecDepth 20000 in
theorem ggX7_simulate_X1_number : GoodIn wsX7_simulate wsX1_number := goodIn_r _ [117, 12, 13, 14, 15, 16, 17, 18, 110, 111, 112, 10, 113, 28, 27, 118, 119, 120, 121, 122, 123, 124, 125, 29, 133, 134, 135, 136, 137, 138, 139, 140, 141, 142, 143, 144, 145, 146, 147, 148] (by decide +kernel) (by decide +kernel)
set_option maxRecDepth 20000 in
theorem gX7_simulate_X1_number : GoodIn wsX7_simulate (wsV RX7 116 RX1 yX1_number wsX1_number) := goodIn_app (goodIn_of _ (by decide +kernel)) ggX7_simulate_X1_number
set_option maxRecDepth 20000 in
theorem ggX7_simulate_X1_allGrudges : GoodIn wsX7_simulate wsX1_allGrudges := goodIn_r _ [125, 12, 29, 133, 134, 135, 136, 137, 138, 139, 140, 141, 142, 143, 144, 145, 146, 147, 148] (by decide +kernel) (by decide +kernel)
set_option maxRecDepth 20000 in
theorem gX7_simulate_X1_allGrudges : GoodIn wsX7_simulate (wsV RX7 164 RX1 yX1_allGrudges wsX1_allGrudges) := goodIn_app (goodIn_of _ (by decide +kernel)) ggX7_simulate_X1_allGrudges
set_option maxRecDepth 20000 in
theorem ggX7_save_X7_requireSlot : GoodIn wsX7_save wsX7_requireSlot := goodIn_ca (goodIn_r _ [10, 11, 12, 1, 59, 60, 61, 62, 63, 64] (by decide +kernel) (by decide +kernel)) (goodIn_sub (fun _ h => List.mem_cons_of_mem _ (List.mem_append_right _ h)) (by decide +kernel))
set_option maxRecDepth 20000 in
theorem gX7_save_X7_requireSlot : GoodIn wsX7_save (wsV RX7 240 RX7 yX7_requireSlot wsX7_requireSlot) := goodIn_app (goodIn_of _ (by decide +kernel)) ggX7_save_X7_requireSlot
set_option maxRecDepth 20000 in
theorem ggX7_save_X1_init : GoodIn wsX7_save wsX1_init := goodIn_r _ [14, 15, 16, 17, 18, 19, 20, 21, 22, 23, 24, 25, 26, 27, 65, 66, 67, 68, 69, 70, 71, 72, 73, 74, 75, 76, 77, 78, 79, 80] (by decide +kernel) (by decide +kernel)
set_option maxRecDepth 20000 in
theorem gX7_save_X1_init_n36 : GoodIn wsX7_save (wsX1_init) := ggX7_save_X1_init
set_option maxRecDepth 20000 in
theorem ggX7_save_X1_copyFrom : GoodIn wsX7_save wsX1_copyFrom := goodIn_r _ [31, 32, 33, 34, 35, 36, 37, 38, 19, 39, 40, 41, 42, 20, 21, 22, 23, 24, 25, 26, 27, 65, 66, 67, 68, 69, 70, 71, 72, 73, 74, 75, 76, 77, 78, 79, 80] (by decide +kernel) (by decide +kernel)
set_option maxRecDepth 20000 in
theorem gX7_save_X1_copyFrom : GoodIn wsX7_save (wsV RX7 205 RX1 yX1_copyFrom wsX1_copyFrom) := goodIn_app (goodIn_of _ (by decide +kernel)) ggX7_save_X1_copyFrom
set_option maxRecDepth 20000 in
theorem ggX7_save_X1_number : GoodIn wsX7_save wsX1_number := goodIn_r _ [46, 32, 33, 34, 35, 36, 37, 38, 47, 48, 49, 4, 50, 24, 23, 51, 52, 53, 54, 55, 56, 57, 58, 25, 65, 66, 67, 68, 69, 70, 71, 72, 73, 74, 75, 76, 77, 78, 79, 80] (by decide +kernel) (by decide +kernel)
set_option maxRecDepth 20000 in
theorem gX7_save_X1_number : GoodIn wsX7_save (wsV RX7 116 RX1 yX1_number wsX1_number) := goodIn_app (goodIn_of _ (by decide +kernel)) ggX7_save_X1_number
set_option maxRecDepth 20000 in
theorem ggX7_restore_X7_requireSlot : GoodIn wsX7_restore wsX7_requireSlot := goodIn_ca (goodIn_r _ [10, 11, 12, 3, 60, 61, 62, 63, 64, 65] (by decide +kernel) (by decide +kernel)) (goodIn_sub (fun _ h => List.mem_cons_of_mem _ (List.mem_append_right _ h)) (by decide +kernel))
set_option maxRecDepth 20000 in
theorem gX7_restore_X7_requireSlot : GoodIn wsX7_restore (wsV RX7 240 RX7 yX7_requireSlot wsX7_requireSlot) := goodIn_app (goodIn_of _ (by decide +kernel)) ggX7_restore_X7_requireSlot
set_option maxRecDepth 20000 in
theorem ggX7_restore_X1_copyFrom : GoodIn wsX7_restore wsX1_copyFrom := goodIn_r _ [17, 18, 19, 20, 21, 22, 23, 24, 25, 26, 27, 28, 29, 30, 31, 32, 33, 34, 35, 36, 37, 66, 67, 68, 69, 70, 71, 72, 73, 74, 75, 76, 77, 78, 79, 80, 81] (by decide +kernel) (by decide +kernel)
set_option maxRecDepth 20000 in
theorem gX7_restore_X1_copyFrom : GoodIn wsX7_restore (wsV RX7 205 RX1 yX1_copyFrom wsX1_copyFrom) := goodIn_app (goodIn_of _ (by decide +kernel)) ggX7_restore_X1_copyFrom
set_option maxRecDepth 20000 in
theorem ggX7_restore_X3_forgetAll : GoodIn wsX7_restore wsX3_forgetAll := goodIn_r _ [42, 43, 82, 83] (by decide +kernel) (by decide +kernel)
set_option maxRecDepth 20000 in
theorem gX7_restore_X3_forgetAll : GoodIn wsX7_restore (wsV RX7 73 RX3 yX3_forgetAll wsX3_forgetAll) := goodIn_app (goodIn_of _ (by decide +kernel)) ggX7_restore_X3_forgetAll
set_option maxRecDepth 20000 in
theorem ggX7_restore_X1_number : GoodIn wsX7_restore wsX1_number := goodIn_r _ [47, 18, 19, 20, 21, 22, 23, 24, 48, 49, 50, 16, 51, 34, 33, 52, 53, 54, 55, 56, 57, 58, 59, 35, 66, 67, 68, 69, 70, 71, 72, 73, 74, 75, 76, 77, 78, 79, 80, 81] (by decide +kernel) (by decide +kernel)
set_option maxRecDepth 20000 in
theorem gX7_restore_X1_number : GoodIn wsX7_restore (wsV RX7 116 RX1 yX1_number wsX1_number) := goodIn_app (goodIn_of _ (by decide +kernel)) ggX7_restore_X1_number
set_option maxRecDepth 20000 in
theorem ggX7_requireGuest_X1_isGuest : GoodIn wsX7_requireGuest wsX1_isGuest := goodIn_r _ [8, 9, 16, 17, 18, 19, 20, 21, 22, 23, 24, 25, 26, 27, 28, 29, 30, 31] (by decide +kernel) (by decide +kernel)
set_option maxRecDepth 20000 in
theorem gX7_requireGuest_X1_isGuest : GoodIn wsX7_requireGuest (wsV RX7 245 RX1 yX1_isGuest wsX1_isGuest) := goodIn_app (goodIn_of _ (by decide +kernel)) ggX7_requireGuest_X1_isGuest
