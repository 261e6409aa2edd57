set_option maxRecDepth 20000 in
theorem ggX7_save_X1_copyFrom : GoodIn wsX7_save wsX1_copyFrom := goodIn_r _ [31, 32, 33, 34, 35, 36, 37, 38, 19, 39, 40, 41, 42, 20, 21, 22, 23, 24, 25, 26, 27, 65, 66, 67, 68, 69, 70, 71, 72, 73, 74, 75, 76, 77, 78, 79, 80] (by decide +kernel) (by decide +kernel)
set_option maxRecDepth 20000 in
theorem gX7_save_X1_copyFrom : GoodIn wsX7_save (wsV RX7 205 RX1 yX1_copyFrom wsX1_copyFrom) := goodIn_app (goodIn_of _ (by decide +kernel)) ggX7_save_X1_copyFrom
set_option maxRecDepth 20000 in
theorem ggX7_save_X1_number : GoodIn wsX7_save wsX1_number := goodIn_r _ [46, 32, 33, 34, 35, 36, 37, 38, 47, 48, 49, 4, 50, 24, 23, 51, 52, 53, 54, 55, 56, 57, 58, 25, 65, 66, 67, 68, 69, 70, 71, 72, 73, 74, 75, 76, 77, 78, 79, 80] (by decide +kernel) (by decide +kernel)
set_option maxRecDepth 20000 in
theorem gX7_save_X1_number : GoodIn wsX7_save (wsV RX7 116 RX1 yX1_number wsX1_number) := goodIn_app (goodIn_of _ (by decide +kernel)) ggX7_save_X1_number
set_option maxRecDepth 20000 in
theorem ggX7_restore_X7_requireSlot : GoodIn wsX7_restore wsX7_requireSlot := goodIn_ca (goodIn_r _ [10, 11, 12, 3, 60, 61, 62, 63, 64, 65] (by decide +kernel) (by decide +kernel)) (goodIn_sub (fun _ h => List.mem_cons_of_mem _ (List.mem_append_right _ h)) (by decide +kernel))
set_option maxRecDepth 20000 in
theorem gX7_restore_X7_requireSlot : GoodIn wsX7_restore (wsV RX7 240 RX7 yX7_requireSlot wsX7_requireSlot) := goodIn_app (goodIn_of _ (by decide +kernel)) ggX7_restore_X7_requireSlot
set_option maxRecDepth 20000 in
theorem ggX7_restore_X1_copyFrom : GoodIn wsX7_restore wsX1_copyFrom := goodIn_r _ [17, 18, 19, 20, 21, 22, 23, 24, 25, 26, 27, 28, 29, 30, 31, 32, 33, 34, 35, 36, 37, 66, 67, 68, 69, 70, 71, 72, 73, 74, 75, 76, 77, 78, 79, 80, 81] (by decide +kernel) (by decide +kernel)
set_option maxRecDepth 20000 in
theorem gX7_restore_X1_copyFrom : GoodIn wsX7_restore (wsV RX7 205 RX1 yX1_copyFrom wsX1_copyFrom) := goodIn_app (goodIn_of _ (by decide +kernel)) ggX7_restore_X1_copyFrom
set_option maxRecDepth 20000 in
theorem ggX7_restore_X3_forgetAll : GoodIn wsX7_restore wsX3_forgetAll := goodIn_r _ [42, 43, 82, 83] (by decide +kernel) (by decide +kernel)
set_option maxRecDepth 20000 in
theorem gX7_restore_X3_forgetAll : GoodIn wsX7_restore (wsV RX7 73 RX3 yX3_forgetAll wsX3_forgetAll) := goodIn_app (goodIn_of _ (by decide +kernel)) ggX7_restore_X3_forgetAll
set_option maxRecDepth 20000 in
theorem ggX7_restore_X1_number : GoodIn wsX7_restore wsX1_number := goodIn_r _ [47, 18, 19, 20, 21, 22, 23, 24, 48, 49, 50, 16, 51, 34, 33, 52, 53, 54, 55, 56, 57, 58, 59, 35, 66, 67, 68, 69, 70, 71, 72, 73, 74, 75, 76, 77, 78, 79, 80, 81] (by decide +kernel) (by decide +kernel)
set_option maxRecDepth 20000 in
theorem gX7_restore_X1_number : GoodIn wsX7_restore (wsV RX7 116 RX1 yX1_number wsX1_number) := goodIn_app (goodIn_of _ (by decide +kernel)) ggX7_restore_X1_number
set_option maxRecDepth 20000 in
theorem ggX7_requireGuest_X1_isGuest : GoodIn wsX7_requireGuest wsX1_isGuest := goodIn_r _ [8, 9, 16, 17, 18, 19, 20, 21, 22, 23, 24, 25, 26, 27, 28, 29, 30, 31] (by decide +kernel) (by decide +kernel)
set_option maxRecDepth 20000 in
theorem gX7_requireGuest_X1_isGuest : GoodIn wsX7_requireGuest (wsV RX7 245 RX1 yX1_isGuest wsX1_isGuest) := goodIn_app (goodIn_of _ (by decide +kernel)) ggX7_requireGuest_X1_isGuest
set_option maxRecDepth 20000 in
theorem ggX8_init_X8_clear : GoodIn wsX8_init wsX8_clear := goodIn_r _ [16] (by decide +kernel) (by decide +kernel)
set_option maxRecDepth 20000 in
theorem gX8_init_X8_clear : GoodIn wsX8_init (va_wsS RX8 32 yX8_clear wsX8_clear) := goodIn_app (goodIn_of _ (by decide +kernel)) ggX8_init_X8_clear
set_option maxRecDepth 20000 in
theorem ggX8_isGuest_X8_in : GoodIn wsX8_isGuest wsX8_in := goodIn_r _ [4] (by decide +kernel) (by decide +kernel)
set_option maxRecDepth 20000 in
theorem gX8_isGuest_X8_in : GoodIn wsX8_isGuest (va_wsS RX8 40 yX8_in wsX8_in) := goodIn_app (goodIn_of _ (by decide +kernel)) ggX8_isGuest_X8_in
set_option maxRecDepth 20000 in
theorem ggX8_isFloor_X8_in : GoodIn wsX8_isFloor wsX8_in := goodIn_r _ [5] (by decide +kernel) (by decide +kernel)
set_option maxRecDepth 20000 in
theorem gX8_isFloor_X8_in : GoodIn wsX8_isFloor (va_wsS RX8 40 yX8_in wsX8_in) := goodIn_app (goodIn_of _ (by decide +kernel)) ggX8_isFloor_X8_in
set_option maxRecDepth 20000 in
theorem ggX8_isSetting_X8_in : GoodIn wsX8_isSetting wsX8_in := goodIn_r _ [7] (by decide +kernel) (by decide +kernel)
set_option maxRecDepth 20000 in
theorem gX8_isSetting_X8_in : GoodIn wsX8_isSetting (va_wsS RX8 40 yX8_in wsX8_in) := goodIn_app (goodIn_of _ (by decide +kernel)) ggX8_isSetting_X8_in
set_option maxRecDepth 20000 in
theorem ggX8_inState_X8_of : GoodIn wsX8_inState wsX8_of := goodIn_r _ [4] (by decide +kernel) (by decide +kernel)
set_option maxRecDepth 20000 in
theorem gX8_inState_X8_of : GoodIn wsX8_inState (va_wsS RX8 52 yX8_of wsX8_of) := goodIn_app (goodIn_of _ (by decide +kernel)) ggX8_inState_X8_of
set_option maxRecDepth 20000 in
theorem ggX8_allGrudges_X8_of : GoodIn wsX8_allGrudges wsX8_of := goodIn_r _ [4] (by decide +kernel) (by decide +kernel)
set_option maxRecDepth 20000 in
theorem gX8_allGrudges_X8_of : GoodIn wsX8_allGrudges (va_wsS RX8 52 yX8_of wsX8_of) := goodIn_app (goodIn_of _ (by decide +kernel)) ggX8_allGrudges_X8_of
set_option maxRecDepth 20000 in
theorem ggX8_load1_X8_of : GoodIn wsX8_load1 wsX8_of := goodIn_r _ [4] (by decide +kernel) (by decide +kernel)
set_option maxRecDepth 20000 in
theorem gX8_load1_X8_of : GoodIn wsX8_load1 (va_wsS RX8 52 yX8_of wsX8_of) := goodIn_app (goodIn_of _ (by decide +kernel)) ggX8_load1_X8_of
set_option maxRecDepth 20000 in
theorem ggX8_reason_X8_of : GoodIn wsX8_reason wsX8_of := goodIn_r _ [4] (by decide +kernel) (by decide +kernel)
set_option maxRecDepth 20000 in
theorem gX8_reason_X8_of : GoodIn wsX8_reason (va_wsS RX8 52 yX8_of wsX8_of) := goodIn_app (goodIn_of _ (by decide +kernel)) ggX8_reason_X8_of
set_option maxRecDepth 20000 in
theorem ggX8_grudge_X8_of : GoodIn wsX8_grudge wsX8_of := goodIn_r _ [4] (by decide +kernel) (by decide +kernel)
set_option maxRecDepth 20000 in
theorem gX8_grudge_X8_of : GoodIn wsX8_grudge (va_wsS RX8 52 yX8_of wsX8_of) := goodIn_app (goodIn_of _ (by decide +kernel)) ggX8_grudge_X8_of
set_option maxRecDepth 20000 in
theorem ggX8_grudge_X8_lay : GoodIn wsX8_grudge wsX8_lay := goodIn_r _ [7] (by decide +kernel) (by decide +kernel)
set_option maxRecDepth 20000 in
theorem gX8_grudge_X8_lay : GoodIn wsX8_grudge (va_wsS RX8 56 yX8_lay wsX8_lay) := goodIn_app (goodIn_of _ (by decide +kernel)) ggX8_grudge_X8_lay
set_option maxRecDepth 20000 in
theorem ggX8_passes_X8_of : GoodIn wsX8_passes wsX8_of := goodIn_r _ [4] (by decide +kernel) (by decide +kernel)
set_option maxRecDepth 20000 in
theorem gX8_passes_X8_of : GoodIn wsX8_passes (va_wsS RX8 52 yX8_of wsX8_of) := goodIn_app (goodIn_of _ (by decide +kernel)) ggX8_passes_X8_of
set_option maxRecDepth 20000 in
theorem ggX8_passes_X8_grudge : GoodIn wsX8_passes wsX8_grudge := goodIn_r _ [7, 1, 2, 3, 4, 8, 9, 10] (by decide +kernel) (by decide +kernel)
set_option maxRecDepth 20000 in
theorem gX8_passes_X8_grudge : GoodIn wsX8_passes (va_wsS RX8 60 yX8_grudge wsX8_grudge) := goodIn_app (goodIn_of _ (by decide +kernel)) ggX8_passes_X8_grudge
set_option maxRecDepth 20000 in
theorem ggX8_stops_X8_of : GoodIn wsX8_stops wsX8_of := goodIn_r _ [4] (by decide +kernel) (by decide +kernel)
set_option maxRecDepth 20000 in
theorem gX8_stops_X8_of : GoodIn wsX8_stops (va_wsS RX8 52 yX8_of wsX8_of) := goodIn_app (goodIn_of _ (by decide +kernel)) ggX8_stops_X8_of
set_option maxRecDepth 20000 in
theorem ggX8_stops_X8_lay : GoodIn wsX8_stops wsX8_lay := goodIn_r _ [7] (by decide +kernel) (by decide +kernel)
set_option maxRecDepth 20000 in
theorem gX8_stops_X8_lay : GoodIn wsX8_stops (va_wsS RX8 56 yX8_lay wsX8_lay) := goodIn_app (goodIn_of _ (by decide +kernel)) ggX8_stops_X8_lay
set_option maxRecDepth 20000 in
theorem ggX8_stops_X8_load1 : GoodIn wsX8_stops wsX8_load1 := goodIn_r _ [10, 1, 2, 3, 4] (by decide +kernel) (by decide +kernel)
set_option maxRecDepth 20000 in
theorem gX8_stops_X8_load1 : GoodIn wsX8_stops (va_wsS RX8 64 yX8_load1 wsX8_load1) := goodIn_app (goodIn_of _ (by decide +kernel)) ggX8_stops_X8_load1
set_option maxRecDepth 20000 in
theorem ggX8_stops_X8_grudge : GoodIn wsX8_stops wsX8_grudge := goodIn_r _ [13, 1, 2, 3, 4, 5, 6, 7] (by decide +kernel) (by decide +kernel)
set_option maxRecDepth 20000 in
theorem gX8_stops_X8_grudge : GoodIn wsX8_stops (va_wsS RX8 60 yX8_grudge wsX8_grudge) := goodIn_app (goodIn_of _ (by decide +kernel)) ggX8_stops_X8_grudge
set_option maxRecDepth 20000 in
theorem ggX8_goes_X8_of : GoodIn wsX8_goes wsX8_of := goodIn_r _ [4] (by decide +kernel) (by decide +kernel)
set_option maxRecDepth 20000 in
theorem gX8_goes_X8_of : GoodIn wsX8_goes (va_wsS RX8 52 yX8_of wsX8_of) := goodIn_app (goodIn_of _ (by decide +kernel)) ggX8_goes_X8_of
set_option maxRecDepth 20000 in
theorem ggX8_goes_X8_passes : GoodIn wsX8_goes wsX8_passes := goodIn_r _ [7, 1, 2, 3, 4, 8, 9, 10, 11, 12, 13] (by decide +kernel) (by decide +kernel)
set_option maxRecDepth 20000 in
theorem gX8_goes_X8_passes : GoodIn wsX8_goes (va_wsS RX8 68 yX8_passes wsX8_passes) := goodIn_app (goodIn_of _ (by decide +kernel)) ggX8_goes_X8_passes
set_option maxRecDepth 20000 in
theorem ggX8_goes_X8_lay : GoodIn wsX8_goes wsX8_lay := goodIn_r _ [13] (by decide +kernel) (by decide +kernel)
set_option maxRecDepth 20000 in
theorem gX8_goes_X8_lay : GoodIn wsX8_goes (va_wsS RX8 56 yX8_lay wsX8_lay) := goodIn_app (goodIn_of _ (by decide +kernel)) ggX8_goes_X8_lay
set_option maxRecDepth 20000 in
theorem ggX8_goes_X8_stops : GoodIn wsX8_goes wsX8_stops := goodIn_r _ [16, 1, 2, 3, 4, 11, 12, 13, 17, 18, 19, 8, 9, 10] (by decide +kernel) (by decide +kernel)
set_option maxRecDepth 20000 in
theorem gX8_goes_X8_stops : GoodIn wsX8_goes (va_wsS RX8 71 yX8_stops wsX8_stops) := goodIn_app (goodIn_of _ (by decide +kernel)) ggX8_goes_X8_stops
set_option maxRecDepth 20000 in
theorem ggX8_pressOn_X8_reason : GoodIn wsX8_pressOn wsX8_reason := goodIn_r _ [4, 5, 6, 3, 7] (by decide +kernel) (by decide +kernel)
set_option maxRecDepth 20000 in
theorem gX8_pressOn_X8_reason : GoodIn wsX8_pressOn (va_wsS RX8 74 yX8_reason wsX8_reason) := goodIn_app (goodIn_of _ (by decide +kernel)) ggX8_pressOn_X8_reason
set_option maxRecDepth 20000 in
theorem ggX8_pressOn_X8_goes : GoodIn wsX8_pressOn wsX8_goes := goodIn_r _ [10, 5, 6, 3, 7, 11, 12, 13, 14, 15, 16, 17, 18, 19, 20, 21, 22, 23, 24, 25] (by decide +kernel) (by decide +kernel)
set_option maxRecDepth 20000 in
theorem gX8_pressOn_X8_goes : GoodIn wsX8_pressOn (va_wsS RX8 78 yX8_goes wsX8_goes) := goodIn_app (goodIn_of _ (by decide +kernel)) ggX8_pressOn_X8_goes
set_option maxRecDepth 20000 in
theorem ggX8_comeOn_X8_lay : GoodIn wsX8_comeOn wsX8_lay := goodIn_r _ [4] (by decide +kernel) (by decide +kernel)
set_option maxRecDepth 20000 in
theorem gX8_comeOn_X8_lay : GoodIn wsX8_comeOn (va_wsS RX8 56 yX8_lay wsX8_lay) := goodIn_app (goodIn_of _ (by decide +kernel)) ggX8_comeOn_X8_lay
set_option maxRecDepth 20000 in
theorem ggX8_leaveOn_X8_of : GoodIn wsX8_leaveOn wsX8_of := goodIn_r _ [4] (by decide +kernel) (by decide +kernel)
set_option maxRecDepth 20000 in
theorem gX8_leaveOn_X8_of : GoodIn wsX8_leaveOn (va_wsS RX8 52 yX8_of wsX8_of) := goodIn_app (goodIn_of _ (by decide +kernel)) ggX8_leaveOn_X8_of
set_option maxRecDepth 20000 in
theorem ggX8_restOn_X8_of : GoodIn wsX8_restOn wsX8_of := goodIn_r _ [4] (by decide +kernel) (by decide +kernel)
set_option maxRecDepth 20000 in
theorem gX8_restOn_X8_of : GoodIn wsX8_restOn (va_wsS RX8 52 yX8_of wsX8_of) := goodIn_app (goodIn_of _ (by decide +kernel)) ggX8_restOn_X8_of
set_option maxRecDepth 20000 in
theorem ggX8_restOn_X8_lay : GoodIn wsX8_restOn wsX8_lay := goodIn_r _ [7] (by decide +kernel) (by decide +kernel)
set_option maxRecDepth 20000 in
theorem gX8_restOn_X8_lay : GoodIn wsX8_restOn (va_wsS RX8 56 yX8_lay wsX8_lay) := goodIn_app (goodIn_of _ (by decide +kernel)) ggX8_restOn_X8_lay
set_option maxRecDepth 20000 in
theorem ggX8_restOn_X8_allGrudges : GoodIn wsX8_restOn wsX8_allGrudges := goodIn_r _ [10, 1, 2, 3, 4] (by decide +kernel) (by decide +kernel)
set_option maxRecDepth 20000 in
theorem gX8_restOn_X8_allGrudges : GoodIn wsX8_restOn (va_wsS RX8 81 yX8_allGrudges wsX8_allGrudges) := goodIn_app (goodIn_of _ (by decide +kernel)) ggX8_restOn_X8_allGrudges
set_option maxRecDepth 20000 in
theorem ggX8_areHome_X8_inState : GoodIn wsX8_areHome wsX8_inState := goodIn_r _ [4, 5, 6, 3, 7] (by decide +kernel) (by decide +kernel)
set_option maxRecDepth 20000 in
theorem gX8_areHome_X8_inState : GoodIn wsX8_areHome (va_wsS RX8 84 yX8_inState wsX8_inState) := goodIn_app (goodIn_of _ (by decide +kernel)) ggX8_areHome_X8_inState
set_option maxRecDepth 20000 in
theorem ggX8_bringsHome_X8_copyState : GoodIn wsX8_bringsHome wsX8_copyState := goodIn_r _ [5] (by decide +kernel) (by decide +kernel)
set_option maxRecDepth 20000 in
theorem gX8_bringsHome_X8_copyState : GoodIn wsX8_bringsHome (va_wsS RX8 87 yX8_copyState wsX8_copyState) := goodIn_app (goodIn_of _ (by decide +kernel)) ggX8_bringsHome_X8_copyState
set_option maxRecDepth 20000 in
theorem ggX8_bringsHome_X8_isGuest : GoodIn wsX8_bringsHome wsX8_isGuest := goodIn_r _ [8, 9, 10, 4, 11] (by decide +kernel) (by decide +kernel)
set_option maxRecDepth 20000 in
theorem gX8_bringsHome_X8_isGuest : GoodIn wsX8_bringsHome (va_wsS RX8 91 yX8_isGuest wsX8_isGuest) := goodIn_app (goodIn_of _ (by decide +kernel)) ggX8_bringsHome_X8_isGuest
set_option maxRecDepth 20000 in
theorem ggX8_bringsHome_X8_reason : GoodIn wsX8_bringsHome wsX8_reason := goodIn_r _ [14, 15, 16, 4, 17] (by decide +kernel) (by decide +kernel)
set_option maxRecDepth 20000 in
theorem gX8_bringsHome_X8_reason : GoodIn wsX8_bringsHome (va_wsS RX8 74 yX8_reason wsX8_reason) := goodIn_app (goodIn_of _ (by decide +kernel)) ggX8_bringsHome_X8_reason
set_option maxRecDepth 20000 in
theorem ggX8_bringsHome_X8_goes : GoodIn wsX8_bringsHome wsX8_goes := goodIn_r _ [20, 15, 16, 4, 17, 21, 22, 23, 24, 25, 26, 27, 28, 29, 30, 31, 32, 33, 34, 35] (by decide +kernel) (by decide +kernel)
set_option maxRecDepth 20000 in
theorem gX8_bringsHome_X8_goes : GoodIn wsX8_bringsHome (va_wsS RX8 78 yX8_goes wsX8_goes) := goodIn_app (goodIn_of _ (by decide +kernel)) ggX8_bringsHome_X8_goes
set_option maxRecDepth 20000 in
theorem ggX8_bringsHome_X8_areHome : GoodIn wsX8_bringsHome wsX8_areHome := goodIn_r _ [38, 39, 40, 4, 41, 15, 16, 17] (by decide +kernel) (by decide +kernel)
set_option maxRecDepth 20000 in
theorem gX8_bringsHome_X8_areHome : GoodIn wsX8_bringsHome (va_wsS RX8 95 yX8_areHome wsX8_areHome) := goodIn_app (goodIn_of _ (by decide +kernel)) ggX8_bringsHome_X8_areHome
set_option maxRecDepth 20000 in
theorem ggX8_fewestRow_X8_bringsHome : GoodIn wsX8_fewestRow wsX8_bringsHome := goodIn_r _ [5, 6, 7, 8, 4, 9, 10, 11, 12, 13, 14, 15, 16, 17, 18, 19, 20, 21, 22, 23, 24, 25, 26, 27, 28, 29, 30, 31, 32, 33, 34, 35, 36, 37, 38, 39, 40, 41, 42, 43, 44, 45, 46, 47, 48, 49, 50, 51, 52, 53, 54, 55, 56, 57] (by decide +kernel) (by decide +kernel)
set_option maxRecDepth 20000 in
theorem gX8_fewestRow_X8_bringsHome : GoodIn wsX8_fewestRow (wsV RX8 99 RX8 yX8_bringsHome wsX8_bringsHome) := goodIn_app (goodIn_of _ (by decide +kernel)) ggX8_fewestRow_X8_bringsHome
set_option maxRecDepth 20000 in
theorem ggX8_append_X8_in : GoodIn wsX8_append wsX8_in := goodIn_r _ [7] (by decide +kernel) (by decide +kernel)
set_option maxRecDepth 20000 in
theorem gX8_append_X8_in : GoodIn wsX8_append (va_wsS RX8 40 yX8_in wsX8_in) := goodIn_app (goodIn_of _ (by decide +kernel)) ggX8_append_X8_in
set_option maxRecDepth 20000 in
theorem ggX8_append_X8_refused : GoodIn wsX8_append wsX8_refused := goodIn_r _ [11, 12, 13, 14, 15, 16, 17, 18, 19, 20, 21, 22, 23, 24] (by decide +kernel) (by decide +kernel)
set_option maxRecDepth 20000 in
theorem gX8_append_X8_refused : GoodIn wsX8_append (wsV RX8 108 RX8 yX8_refused wsX8_refused) := goodIn_app (goodIn_of _ (by decide +kernel)) ggX8_append_X8_refused
set_option maxRecDepth 20000 in
theorem ggX8_figures_X8_in : GoodIn wsX8_figures wsX8_in := goodIn_r _ [8] (by decide +kernel) (by decide +kernel)
set_option maxRecDepth 20000 in
theorem gX8_figures_X8_in : GoodIn wsX8_figures (va_wsS RX8 40 yX8_in wsX8_in) := goodIn_app (goodIn_of _ (by decide +kernel)) ggX8_figures_X8_in
set_option maxRecDepth 20000 in
theorem ggX8_readGuest_X8_figures : GoodIn wsX8_readGuest wsX8_figures := goodIn_r _ [5, 6, 7, 8, 9, 10, 11, 4, 12, 24, 25, 26, 27, 28, 29, 30, 31, 32, 33, 34, 35] (by decide +kernel) (by decide +kernel)
set_option maxRecDepth 20000 in
theorem gX8_readGuest_X8_figures : GoodIn wsX8_readGuest (wsV RX8 118 RX8 yX8_figures wsX8_figures) := goodIn_app (goodIn_of _ (by decide +kernel)) ggX8_readGuest_X8_figures
set_option maxRecDepth 20000 in
theorem ggX8_readGuest_X8_comeOn : GoodIn wsX8_readGuest wsX8_comeOn := goodIn_r _ [15, 16, 17, 4, 18] (by decide +kernel) (by decide +kernel)
set_option maxRecDepth 20000 in
theorem gX8_readGuest_X8_comeOn : GoodIn wsX8_readGuest (va_wsS RX8 122 yX8_comeOn wsX8_comeOn) := goodIn_app (goodIn_of _ (by decide +kernel)) ggX8_readGuest_X8_comeOn
set_option maxRecDepth 20000 in
theorem ggX8_readGuest_X8_done : GoodIn wsX8_readGuest wsX8_done := goodIn_r _ [22, 23, 24, 25, 26, 27, 28, 29, 30, 31, 32, 33, 34, 35] (by decide +kernel) (by decide +kernel)
set_option maxRecDepth 20000 in
theorem gX8_readGuest_X8_done : GoodIn wsX8_readGuest (wsV RX8 126 RX8 yX8_done wsX8_done) := goodIn_app (goodIn_of _ (by decide +kernel)) ggX8_readGuest_X8_done
set_option maxRecDepth 20000 in
theorem ggX8_readCommand_X8_readGuest : GoodIn wsX8_readCommand wsX8_readGuest := goodIn_r _ [7, 8, 9, 10, 6, 11, 2, 12, 1, 13, 14, 15, 16, 17, 18, 19, 20, 21, 22, 23, 24, 25, 26, 27, 93, 94, 95, 96, 97, 98, 99, 100, 101, 102, 103, 104] (by decide +kernel) (by decide +kernel)
set_option maxRecDepth 20000 in
theorem gX8_readCommand_X8_readGuest : GoodIn wsX8_readCommand (wsV RX8 130 RX8 yX8_readGuest wsX8_readGuest) := goodIn_app (goodIn_of _ (by decide +kernel)) ggX8_readCommand_X8_readGuest
set_option maxRecDepth 20000 in
theorem ggX8_readCommand_X8_figures : GoodIn wsX8_readCommand wsX8_figures := goodIn_r _ [11, 2, 12, 1, 13, 14, 15, 6, 16, 93, 94, 95, 96, 97, 98, 99, 100, 101, 102, 103, 104] (by decide +kernel) (by decide +kernel)
set_option maxRecDepth 20000 in
theorem gX8_readCommand_X8_figures : GoodIn wsX8_readCommand (wsV RX8 118 RX8 yX8_figures wsX8_figures) := goodIn_app (goodIn_of _ (by decide +kernel)) ggX8_readCommand_X8_figures
set_option maxRecDepth 20000 in
theorem ggX8_readCommand_X8_isGuest : GoodIn wsX8_readCommand wsX8_isGuest := goodIn_r _ [30, 14, 15, 6, 16] (by decide +kernel) (by decide +kernel)
set_option maxRecDepth 20000 in
theorem gX8_readCommand_X8_isGuest : GoodIn wsX8_readCommand (va_wsS RX8 91 yX8_isGuest wsX8_isGuest) := goodIn_app (goodIn_of _ (by decide +kernel)) ggX8_readCommand_X8_isGuest
set_option maxRecDepth 20000 in
theorem ggX8_readCommand_X8_reason : GoodIn wsX8_readCommand wsX8_reason := goodIn_r _ [33, 34, 35, 6, 36] (by decide +kernel) (by decide +kernel)
set_option maxRecDepth 20000 in
theorem gX8_readCommand_X8_reason : GoodIn wsX8_readCommand (va_wsS RX8 74 yX8_reason wsX8_reason) := goodIn_app (goodIn_of _ (by decide +kernel)) ggX8_readCommand_X8_reason
set_option maxRecDepth 20000 in
theorem ggX8_readCommand_X8_pressOn : GoodIn wsX8_readCommand wsX8_pressOn := goodIn_r _ [39, 31, 32, 6, 33, 34, 35, 36, 40, 41, 42, 43, 44, 45, 46, 47, 48, 20, 21, 22, 49, 50, 51, 52, 53, 54] (by decide +kernel) (by decide +kernel)
set_option maxRecDepth 20000 in
theorem gX8_readCommand_X8_pressOn : GoodIn wsX8_readCommand (va_wsS RX8 133 yX8_pressOn wsX8_pressOn) := goodIn_app (goodIn_of _ (by decide +kernel)) ggX8_readCommand_X8_pressOn
set_option maxRecDepth 20000 in
theorem ggX8_readCommand_X8_done : GoodIn wsX8_readCommand wsX8_done := goodIn_r _ [26, 27, 93, 94, 95, 96, 97, 98, 99, 100, 101, 102, 103, 104] (by decide +kernel) (by decide +kernel)
set_option maxRecDepth 20000 in
theorem gX8_readCommand_X8_done : GoodIn wsX8_readCommand (wsV RX8 126 RX8 yX8_done wsX8_done) := goodIn_app (goodIn_of _ (by decide +kernel)) ggX8_readCommand_X8_done
