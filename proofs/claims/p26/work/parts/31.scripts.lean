/-! turns of a simulation, commands of a script -/
def hTurnQ (n : Nat) (how q : Int32) (x : HS) : HS :=
  if how = 0 then hAdm n (q - q / 7 * 7) (q / 8 - q / 8 / 7 * 7) (q / 64 - q / 64 / 7 * 7) (1 + (q / 512 - q / 512 / 4 * 4)) x
  else if how = 1 then hAdm n (q - q / 7 * 7) (q / 8 - q / 8 / 7 * 7) (q / 64 - q / 64 / 7 * 7) (1 + (q / 512 - q / 512 / 4 * 4)) x
  else if how = 2 then hAdm n (q - q / 7 * 7) (q / 8 - q / 8 / 7 * 7) (q / 64 - q / 64 / 7 * 7) (1 + (q / 512 - q / 512 / 4 * 4)) x
  else if how = 3 then (if q / 4 - q / 4 / 3 * 3 = 0 then hLeave n x (q - q / 4 * 4) else x)
  else if how = 4 then hRest n x
  else if how = 5 then (if q / 16 - q / 16 / 2 * 2 = 0 then hSet 0 (4 + (q - q / 13 * 13)) x else hSet 1 (1 + (q - q / 9 * 9)) x)
  else hPress n x (q - q / 4 * 4)
def hTurn (n : Nat) (r : Int32) (x : HS) : HS := hTurnQ n (r - r / 16 * 16) (r / 16) x
def sRst (n : Nat) : Nat → HS → HS := fun _ y => hRest n y
/-- whether a command of a script succeeds, and what it brings -/
def hScrR (n w : Nat) (x : HS) : Int32 :=
  if nI (w / 10000) = 1 then (if (if okC n (nI (w / 1000 % 10)) (nI (w / 100 % 10)) (nI (w / 10 % 10)) (nI (w % 10)) then nI n else -1) = -1 then 0 else 1)
  else if nI (w / 10000) = 2 then (if w % 1000 = 0 then (if hReas x (nI (w / 1000 % 10)) = 0 then 1 else 0) else 0)
  else if nI (w / 10000) = 3 then (if 10 ≤ w % 10000 then 0 else 1)
  else if nI (w / 10000) = 4 then (if w % 1000 = 0 then (if hGr x (nI (w / 1000 % 10)) = -1 then 0 else 1) else 0)
  else if nI (w / 10000) = 5 then (if w / 100 % 10 = 0 then (if hSetR x (nI (w / 1000 % 10)) (nI (w % 100)) = -1 then 0 else 1) else 0)
  else if nI (w / 10000) = 6 then (if 10 ≤ w % 1000 then 0 else (if hSt x (nI (w / 1000 % 10)) = nI (w % 10) then 1 else 0))
  else if nI (w / 10000) = 7 then (if 10 ≤ w % 1000 then 0 else (if isG x.1.1 (nI (w / 1000 % 10)) then (if nI (w % 10) < hGr x (nI (w / 1000 % 10)) then 0 else 1) else 0))
  else if nI (w / 10000) = 8 then (if 10 ≤ w % 10000 then 0 else (if hNum n x 5 < nI (w % 10) then 0 else 1))
  else if nI (w / 10000) = 9 then (if w / 1000 % 10 = 0 then (if nI (w % 1000) < hNum n x 6 then 0 else 1) else 0)
  else 0
def hScrU (n w : Nat) (x : HS) : HS :=
  if nI (w / 10000) = 1 then hAdm n (nI (w / 1000 % 10)) (nI (w / 100 % 10)) (nI (w / 10 % 10)) (nI (w % 10)) x
  else if nI (w / 10000) = 2 then (if w % 1000 = 0 then hPress n x (nI (w / 1000 % 10)) else x)
  else if nI (w / 10000) = 3 then (if 10 ≤ w % 10000 then x else lpN (sRst n) (w % 10) 0 x)
  else if nI (w / 10000) = 4 then (if w % 1000 = 0 then hLeave n x (nI (w / 1000 % 10)) else x)
  else if nI (w / 10000) = 5 then (if w / 100 % 10 = 0 then hSet (nI (w / 1000 % 10)) (nI (w % 100)) x else x)
  else x
abbrev rm_X6_take : Room := { frames := 4, cells := 0, slots := 0, locals := 90 }
set_option maxHeartbeats 4000000 in
set_option maxRecDepth 100000 in
theorem c_X6_take (l : Launch) (D : va_G) (cy : Nat → ClassId) (h : Nat → Nat) (n : Nat) (hn : n ≤ 4) (x : HS) (hg : x.1.1 = nI n) (r : Int32) (sz : Nat) : Met l yX6_take wsX6_take rm_X6_take (wrX D cy [.ref (h 0), .int r] (hotelW cy h x) sz (Gs (va_A (hotelW cy h x) sz))) (va_Qv (fun u : HS => u = hTurn n r x) (wrB D (va_A (hotelW cy h x) sz) (fun u => hotelW cy h u)) (va_A (hotelW cy h x) sz)) 0 0 (va_A (hotelW cy h x) sz) := by
  refine MwvX (cc := cX6_take) (maxL := 3) (by decide) rfl (Nat.le_of_ble_eq_true rfl) ?_
  intro p e s m args below meth c Q ls A hAe hsz hinit hX0 hF hK hP hD hA hl hret
  rw [← hsz, ← hAe] at hX0
  obtain ⟨hx, hb, hml, hown, hts⟩ := id hF
  have hown : s.vm.findClass RX6 = some m.cls := hown
  have hl : lv_has ls 3 [(0, .ref (h 0)), (1, .int r)] := hl
  suffices key : ∀ (H : Heap) (locs : List Loc), va_P D vwCl (hotelW cy h x) H → va_D A (hotelW cy h x) → va_S A s.heap H locs → W p l e rm_X6_take s m args below meth c H locs 0 0 Q (F0 m 0 ls []) from key s.heap [] hP hD va_S.rf
  intro H locs hP hD hS
  refine lv_iload_n hx hb dX6_take_0 rfl (lv_at hl 1 rfl) ?_
  refine lv_bipush (v := 16) hx hb dX6_take_1 (by decide) ?_
  refine lv_idiv hx hb dX6_take_3 (by decide) ?_
  refine lv_istore_n (lv' := [(2, .int (r / 16)), (0, .ref (h 0)), (1, .int r)]) hx hb dX6_take_4 rfl hl (by decide) rfl (fun ls hl => ?_)
  refine lv_iload_n hx hb dX6_take_5 rfl (lv_at hl 2 rfl) ?_
  refine lv_bipush (v := 16) hx hb dX6_take_6 (by decide) ?_
  refine lv_irem hx hb dX6_take_8 (by decide) ?_
  by_cases c_1 : r - r / 16 * 16 = 0
  · refine lv_tableIn (off := 39) (tgt := 48) hx hb dX6_take_9 (by rw [c_1]; decide) (by rw [c_1]; decide) (by rw [c_1]; rfl) (by decide) ?_
    refine lv_aload_n hx hb dX6_take_48 rfl (lv_at hl 1 rfl) ?_
    refine lv_iload_n hx hb dX6_take_49 rfl (lv_at hl 0 rfl) ?_
    refine lv_bipush (v := 7) hx hb dX6_take_50 (by decide) ?_
    refine lv_irem hx hb dX6_take_52 (by decide) ?_
    refine lv_iload_n hx hb dX6_take_53 rfl (lv_at hl 0 rfl) ?_
    refine lv_bipush (v := 8) hx hb dX6_take_54 (by decide) ?_
    refine lv_idiv hx hb dX6_take_56 (by decide) ?_
    refine lv_bipush (v := 7) hx hb dX6_take_57 (by decide) ?_
    refine lv_irem hx hb dX6_take_59 (by decide) ?_
    refine lv_iload_n hx hb dX6_take_60 rfl (lv_at hl 0 rfl) ?_
    refine lv_bipush (v := 64) hx hb dX6_take_61 (by decide) ?_
    refine lv_idiv hx hb dX6_take_63 (by decide) ?_
    refine lv_bipush (v := 7) hx hb dX6_take_64 (by decide) ?_
    refine lv_irem hx hb dX6_take_66 (by decide) ?_
    refine lv_iconst (v := 1) hx hb dX6_take_67 (by decide) ?_
    refine lv_iload_n hx hb dX6_take_68 rfl (lv_at hl 0 rfl) ?_
    refine lv_sipush (v := 512) hx hb dX6_take_69 (by decide) ?_
    refine lv_idiv hx hb dX6_take_72 (by decide) ?_
    refine lv_iconst (v := 4) hx hb dX6_take_73 (by decide) ?_
    refine lv_irem hx hb dX6_take_74 (by decide) ?_
    refine lv_iadd hx hb dX6_take_75 ?_
    refine wr_i (fun u => hotelW cy h u) (va_runV (As := [.int ((r / 16) - (r / 16) / 7 * 7), .int (((r / 16) / 8) - ((r / 16) / 8) / 7 * 7), .int (((r / 16) / 64) - ((r / 16) / 64) / 7 * 7), .int (1 + (((r / 16) / 512) - ((r / 16) / 512) / 4 * 4))]) (rest := []) hF (c_X1_admit l D cy h n hn x hg H.size ((r / 16) - (r / 16) / 7 * 7) (((r / 16) / 8) - ((r / 16) / 8) / 7 * 7) (((r / 16) / 64) - ((r / 16) / 64) / 7 * 7) (1 + (((r / 16) / 512) - ((r / 16) / 512) / 4 * 4))) (cwV 4 hts gX6_take_X1_admit rfl rfl rfl (by decide +kernel) ⟨Nat.le_of_ble_eq_true rfl, Nat.le_of_ble_eq_true rfl⟩) (wr_preV hK hP hD (zz_all _) 0 0 rfl rfl rfl) rfl rfl hl.1 rfl (lv_room (Nat.le_of_ble_eq_true rfl)) dX6_take_76 ⟨Nat.le_of_ble_eq_true rfl, Nat.le_of_ble_eq_true rfl⟩) hP hD hS hA (zz_all _) (fun _ => zz_all _) (fun r_2 u_3 H locs e_4 hP hD hS => ?_)
    obtain ⟨rfl, e_4⟩ := e_4
    have hP : va_P D vwCl (hotelW cy h u_3) H := hP
    have hD : va_D A (hotelW cy h u_3) := hD
    refine lv_pop hx hb dX6_take_79 rfl ?_
    refine lv_goto (tgt := 156) hx hb dX6_take_80 (by decide) ?_
    exact hret _ _ H locs u_3 dX6_take_156 hP hD hS (by simp only [hTurn, hTurnQ, if_pos c_1]; exact e_4)
  by_cases c_5 : r - r / 16 * 16 = 1
  · refine lv_tableIn (off := 39) (tgt := 48) hx hb dX6_take_9 (by rw [c_5]; decide) (by rw [c_5]; decide) (by rw [c_5]; rfl) (by decide) ?_
    refine lv_aload_n hx hb dX6_take_48 rfl (lv_at hl 1 rfl) ?_
    refine lv_iload_n hx hb dX6_take_49 rfl (lv_at hl 0 rfl) ?_
    refine lv_bipush (v := 7) hx hb dX6_take_50 (by decide) ?_
    refine lv_irem hx hb dX6_take_52 (by decide) ?_
    refine lv_iload_n hx hb dX6_take_53 rfl (lv_at hl 0 rfl) ?_
    refine lv_bipush (v := 8) hx hb dX6_take_54 (by decide) ?_
    refine lv_idiv hx hb dX6_take_56 (by decide) ?_
    refine lv_bipush (v := 7) hx hb dX6_take_57 (by decide) ?_
    refine lv_irem hx hb dX6_take_59 (by decide) ?_
    refine lv_iload_n hx hb dX6_take_60 rfl (lv_at hl 0 rfl) ?_
    refine lv_bipush (v := 64) hx hb dX6_take_61 (by decide) ?_
    refine lv_idiv hx hb dX6_take_63 (by decide) ?_
    refine lv_bipush (v := 7) hx hb dX6_take_64 (by decide) ?_
    refine lv_irem hx hb dX6_take_66 (by decide) ?_
    refine lv_iconst (v := 1) hx hb dX6_take_67 (by decide) ?_
    refine lv_iload_n hx hb dX6_take_68 rfl (lv_at hl 0 rfl) ?_
    refine lv_sipush (v := 512) hx hb dX6_take_69 (by decide) ?_
    refine lv_idiv hx hb dX6_take_72 (by decide) ?_
    refine lv_iconst (v := 4) hx hb dX6_take_73 (by decide) ?_
    refine lv_irem hx hb dX6_take_74 (by decide) ?_
    refine lv_iadd hx hb dX6_take_75 ?_
    refine wr_i (fun u => hotelW cy h u) (va_runV (As := [.int ((r / 16) - (r / 16) / 7 * 7), .int (((r / 16) / 8) - ((r / 16) / 8) / 7 * 7), .int (((r / 16) / 64) - ((r / 16) / 64) / 7 * 7), .int (1 + (((r / 16) / 512) - ((r / 16) / 512) / 4 * 4))]) (rest := []) hF (c_X1_admit l D cy h n hn x hg H.size ((r / 16) - (r / 16) / 7 * 7) (((r / 16) / 8) - ((r / 16) / 8) / 7 * 7) (((r / 16) / 64) - ((r / 16) / 64) / 7 * 7) (1 + (((r / 16) / 512) - ((r / 16) / 512) / 4 * 4))) (cwV 4 hts gX6_take_X1_admit rfl rfl rfl (by decide +kernel) ⟨Nat.le_of_ble_eq_true rfl, Nat.le_of_ble_eq_true rfl⟩) (wr_preV hK hP hD (zz_all _) 0 0 rfl rfl rfl) rfl rfl hl.1 rfl (lv_room (Nat.le_of_ble_eq_true rfl)) dX6_take_76 ⟨Nat.le_of_ble_eq_true rfl, Nat.le_of_ble_eq_true rfl⟩) hP hD hS hA (zz_all _) (fun _ => zz_all _) (fun r_6 u_7 H locs e_8 hP hD hS => ?_)
    obtain ⟨rfl, e_8⟩ := e_8
    have hP : va_P D vwCl (hotelW cy h u_7) H := hP
    have hD : va_D A (hotelW cy h u_7) := hD
    refine lv_pop hx hb dX6_take_79 rfl ?_
    refine lv_goto (tgt := 156) hx hb dX6_take_80 (by decide) ?_
    exact hret _ _ H locs u_7 dX6_take_156 hP hD hS (by simp only [hTurn, hTurnQ, if_neg c_1, if_pos c_5]; exact e_8)
  by_cases c_9 : r - r / 16 * 16 = 2
  · refine lv_tableIn (off := 39) (tgt := 48) hx hb dX6_take_9 (by rw [c_9]; decide) (by rw [c_9]; decide) (by rw [c_9]; rfl) (by decide) ?_
    refine lv_aload_n hx hb dX6_take_48 rfl (lv_at hl 1 rfl) ?_
    refine lv_iload_n hx hb dX6_take_49 rfl (lv_at hl 0 rfl) ?_
    refine lv_bipush (v := 7) hx hb dX6_take_50 (by decide) ?_
    refine lv_irem hx hb dX6_take_52 (by decide) ?_
    refine lv_iload_n hx hb dX6_take_53 rfl (lv_at hl 0 rfl) ?_
    refine lv_bipush (v := 8) hx hb dX6_take_54 (by decide) ?_
    refine lv_idiv hx hb dX6_take_56 (by decide) ?_
    refine lv_bipush (v := 7) hx hb dX6_take_57 (by decide) ?_
    refine lv_irem hx hb dX6_take_59 (by decide) ?_
    refine lv_iload_n hx hb dX6_take_60 rfl (lv_at hl 0 rfl) ?_
    refine lv_bipush (v := 64) hx hb dX6_take_61 (by decide) ?_
    refine lv_idiv hx hb dX6_take_63 (by decide) ?_
    refine lv_bipush (v := 7) hx hb dX6_take_64 (by decide) ?_
    refine lv_irem hx hb dX6_take_66 (by decide) ?_
    refine lv_iconst (v := 1) hx hb dX6_take_67 (by decide) ?_
    refine lv_iload_n hx hb dX6_take_68 rfl (lv_at hl 0 rfl) ?_
    refine lv_sipush (v := 512) hx hb dX6_take_69 (by decide) ?_
    refine lv_idiv hx hb dX6_take_72 (by decide) ?_
    refine lv_iconst (v := 4) hx hb dX6_take_73 (by decide) ?_
    refine lv_irem hx hb dX6_take_74 (by decide) ?_
    refine lv_iadd hx hb dX6_take_75 ?_
    refine wr_i (fun u => hotelW cy h u) (va_runV (As := [.int ((r / 16) - (r / 16) / 7 * 7), .int (((r / 16) / 8) - ((r / 16) / 8) / 7 * 7), .int (((r / 16) / 64) - ((r / 16) / 64) / 7 * 7), .int (1 + (((r / 16) / 512) - ((r / 16) / 512) / 4 * 4))]) (rest := []) hF (c_X1_admit l D cy h n hn x hg H.size ((r / 16) - (r / 16) / 7 * 7) (((r / 16) / 8) - ((r / 16) / 8) / 7 * 7) (((r / 16) / 64) - ((r / 16) / 64) / 7 * 7) (1 + (((r / 16) / 512) - ((r / 16) / 512) / 4 * 4))) (cwV 4 hts gX6_take_X1_admit rfl rfl rfl (by decide +kernel) ⟨Nat.le_of_ble_eq_true rfl, Nat.le_of_ble_eq_true rfl⟩) (wr_preV hK hP hD (zz_all _) 0 0 rfl rfl rfl) rfl rfl hl.1 rfl (lv_room (Nat.le_of_ble_eq_true rfl)) dX6_take_76 ⟨Nat.le_of_ble_eq_true rfl, Nat.le_of_ble_eq_true rfl⟩) hP hD hS hA (zz_all _) (fun _ => zz_all _) (fun r_10 u_11 H locs e_12 hP hD hS => ?_)
    obtain ⟨rfl, e_12⟩ := e_12
    have hP : va_P D vwCl (hotelW cy h u_11) H := hP
    have hD : va_D A (hotelW cy h u_11) := hD
    refine lv_pop hx hb dX6_take_79 rfl ?_
    refine lv_goto (tgt := 156) hx hb dX6_take_80 (by decide) ?_
    exact hret _ _ H locs u_11 dX6_take_156 hP hD hS (by simp only [hTurn, hTurnQ, if_neg c_1, if_neg c_5, if_pos c_9]; exact e_12)
  by_cases c_13 : r - r / 16 * 16 = 3
  · refine lv_tableIn (off := 74) (tgt := 83) hx hb dX6_take_9 (by rw [c_13]; decide) (by rw [c_13]; decide) (by rw [c_13]; rfl) (by decide) ?_
    refine lv_iload_n hx hb dX6_take_83 rfl (lv_at hl 0 rfl) ?_
    refine lv_iconst (v := 4) hx hb dX6_take_84 (by decide) ?_
    refine lv_idiv hx hb dX6_take_85 (by decide) ?_
    refine lv_iconst (v := 3) hx hb dX6_take_86 (by decide) ?_
    refine lv_irem hx hb dX6_take_87 (by decide) ?_
    refine lv_if_ne (tgt := 156) hx hb dX6_take_88 (by decide) (fun c_14 => ?_) (fun c_14 => ?_)
    · have c_14 : ¬ (((r / 16) / 4) - ((r / 16) / 4) / 3 * 3) = 0 := c_14
      exact hret _ _ H locs x dX6_take_156 hP hD hS (by simp only [hTurn, hTurnQ, if_neg c_1, if_neg c_5, if_neg c_9, if_pos c_13, if_neg c_14])
    · have c_14 : (((r / 16) / 4) - ((r / 16) / 4) / 3 * 3) = 0 := c_14
      refine lv_aload_n hx hb dX6_take_91 rfl (lv_at hl 1 rfl) ?_
      refine lv_iload_n hx hb dX6_take_92 rfl (lv_at hl 0 rfl) ?_
      refine lv_iconst (v := 4) hx hb dX6_take_93 (by decide) ?_
      refine lv_irem hx hb dX6_take_94 (by decide) ?_
      refine wr_i (fun u => hotelW cy h u) (va_runV (As := [.int ((r / 16) - (r / 16) / 4 * 4)]) (rest := []) hF (c_X1_dismiss l D cy h n hn x hg H.size ((r / 16) - (r / 16) / 4 * 4)) (cwV 1 hts gX6_take_X1_dismiss rfl rfl rfl (by decide +kernel) ⟨Nat.le_of_ble_eq_true rfl, Nat.le_of_ble_eq_true rfl⟩) (wr_preV hK hP hD (zz_all _) 0 0 rfl rfl rfl) rfl rfl hl.1 rfl (lv_room (Nat.le_of_ble_eq_true rfl)) dX6_take_95 ⟨Nat.le_of_ble_eq_true rfl, Nat.le_of_ble_eq_true rfl⟩) hP hD hS hA (zz_all _) (fun _ => zz_all _) (fun r_15 u_16 H locs e_17 hP hD hS => ?_)
      obtain ⟨rfl, e_17⟩ := e_17
      have hP : va_P D vwCl (hotelW cy h u_16) H := hP
      have hD : va_D A (hotelW cy h u_16) := hD
      refine lv_pop hx hb dX6_take_98 rfl ?_
      refine lv_goto (tgt := 156) hx hb dX6_take_99 (by decide) ?_
      exact hret _ _ H locs u_16 dX6_take_156 hP hD hS (by simp only [hTurn, hTurnQ, if_neg c_1, if_neg c_5, if_neg c_9, if_pos c_13, if_pos c_14]; exact e_17)
  by_cases c_18 : r - r / 16 * 16 = 4
  · refine lv_tableIn (off := 93) (tgt := 102) hx hb dX6_take_9 (by rw [c_18]; decide) (by rw [c_18]; decide) (by rw [c_18]; rfl) (by decide) ?_
    refine lv_aload_n hx hb dX6_take_102 rfl (lv_at hl 1 rfl) ?_
    refine wr_v (fun u => hotelW cy h u) (va_runV (As := []) (rest := []) hF (c_X1_letAllRest l D cy h n hn x hg H.size ) (cwV 0 hts gX6_take_X1_letAllRest rfl rfl rfl (by decide +kernel) ⟨Nat.le_of_ble_eq_true rfl, Nat.le_of_ble_eq_true rfl⟩) (wr_preV hK hP hD (zz_all _) 0 0 rfl rfl rfl) rfl rfl hl.1 rfl (lv_room (Nat.le_of_ble_eq_true rfl)) dX6_take_103 ⟨Nat.le_of_ble_eq_true rfl, Nat.le_of_ble_eq_true rfl⟩) hP hD hS hA (zz_all _) (fun _ => zz_all _) (fun u_19 H locs e_20 hP hD hS => ?_)
    have hg_21 : u_19.1.1 = nI n := by rw [e_20]; exact hg
    have hP : va_P D vwCl (hotelW cy h u_19) H := hP
    have hD : va_D A (hotelW cy h u_19) := hD
    refine lv_goto (tgt := 156) hx hb dX6_take_106 (by decide) ?_
    exact hret _ _ H locs u_19 dX6_take_156 hP hD hS (by simp only [hTurn, hTurnQ, if_neg c_1, if_neg c_5, if_neg c_9, if_neg c_13, if_pos c_18]; exact e_20)
  by_cases c_22 : r - r / 16 * 16 = 5
  · refine lv_tableIn (off := 100) (tgt := 109) hx hb dX6_take_9 (by rw [c_22]; decide) (by rw [c_22]; decide) (by rw [c_22]; rfl) (by decide) ?_
    refine lv_iload_n hx hb dX6_take_109 rfl (lv_at hl 0 rfl) ?_
    refine lv_bipush (v := 16) hx hb dX6_take_110 (by decide) ?_
    refine lv_idiv hx hb dX6_take_112 (by decide) ?_
    refine lv_iconst (v := 2) hx hb dX6_take_113 (by decide) ?_
    refine lv_irem hx hb dX6_take_114 (by decide) ?_
    refine lv_if_ne (tgt := 133) hx hb dX6_take_115 (by decide) (fun c_23 => ?_) (fun c_23 => ?_)
    · have c_23 : ¬ (((r / 16) / 16) - ((r / 16) / 16) / 2 * 2) = 0 := c_23
      refine lv_aload_n hx hb dX6_take_133 rfl (lv_at hl 1 rfl) ?_
      refine lv_iconst (v := 1) hx hb dX6_take_134 (by decide) ?_
      refine lv_iconst (v := 1) hx hb dX6_take_135 (by decide) ?_
      refine lv_iload_n hx hb dX6_take_136 rfl (lv_at hl 0 rfl) ?_
      refine lv_bipush (v := 9) hx hb dX6_take_137 (by decide) ?_
      refine lv_irem hx hb dX6_take_139 (by decide) ?_
      refine lv_iadd hx hb dX6_take_140 ?_
      refine wr_i (fun u => hotelW cy h u) (va_runV (As := [.int 1, .int (1 + ((r / 16) - (r / 16) / 9 * 9))]) (rest := []) hF (c_X1_change l D cy h x 1 (1 + ((r / 16) - (r / 16) / 9 * 9)) H.size) (cwV 2 hts gX6_take_X1_change rfl rfl rfl (by decide +kernel) ⟨Nat.le_of_ble_eq_true rfl, Nat.le_of_ble_eq_true rfl⟩) (wrX_preV hK hP hD (zz_all _) 0 0 rfl rfl rfl Xok_s (fun U hU hW => Gs.at hX0 hS (zz_free hD (zz_all _) hS hA) hU hW)) rfl rfl hl.1 rfl (lv_room (Nat.le_of_ble_eq_true rfl)) dX6_take_141 ⟨Nat.le_of_ble_eq_true rfl, Nat.le_of_ble_eq_true rfl⟩) hP hD hS hA (zz_all _) (fun _ => zz_all _) (fun r_24 u_25 H locs e_26 hP hD hS => ?_)
      obtain ⟨rfl, e_26⟩ := e_26
      have hP : va_P D vwCl (hotelW cy h u_25) H := hP
      have hD : va_D A (hotelW cy h u_25) := hD
      refine lv_pop hx hb dX6_take_144 rfl ?_
      refine lv_goto (tgt := 156) hx hb dX6_take_145 (by decide) ?_
      exact hret _ _ H locs u_25 dX6_take_156 hP hD hS (by simp only [hTurn, hTurnQ, if_neg c_1, if_neg c_5, if_neg c_9, if_neg c_13, if_neg c_18, if_pos c_22, if_neg c_23]; exact e_26)
    · have c_23 : (((r / 16) / 16) - ((r / 16) / 16) / 2 * 2) = 0 := c_23
      refine lv_aload_n hx hb dX6_take_118 rfl (lv_at hl 1 rfl) ?_
      refine lv_iconst (v := 0) hx hb dX6_take_119 (by decide) ?_
      refine lv_iconst (v := 4) hx hb dX6_take_120 (by decide) ?_
      refine lv_iload_n hx hb dX6_take_121 rfl (lv_at hl 0 rfl) ?_
      refine lv_bipush (v := 13) hx hb dX6_take_122 (by decide) ?_
      refine lv_irem hx hb dX6_take_124 (by decide) ?_
      refine lv_iadd hx hb dX6_take_125 ?_
      refine wr_i (fun u => hotelW cy h u) (va_runV (As := [.int 0, .int (4 + ((r / 16) - (r / 16) / 13 * 13))]) (rest := []) hF (c_X1_change l D cy h x 0 (4 + ((r / 16) - (r / 16) / 13 * 13)) H.size) (cwV 2 hts gX6_take_X1_change rfl rfl rfl (by decide +kernel) ⟨Nat.le_of_ble_eq_true rfl, Nat.le_of_ble_eq_true rfl⟩) (wrX_preV hK hP hD (zz_all _) 0 0 rfl rfl rfl Xok_s (fun U hU hW => Gs.at hX0 hS (zz_free hD (zz_all _) hS hA) hU hW)) rfl rfl hl.1 rfl (lv_room (Nat.le_of_ble_eq_true rfl)) dX6_take_126 ⟨Nat.le_of_ble_eq_true rfl, Nat.le_of_ble_eq_true rfl⟩) hP hD hS hA (zz_all _) (fun _ => zz_all _) (fun r_27 u_28 H locs e_29 hP hD hS => ?_)
      obtain ⟨rfl, e_29⟩ := e_29
      have hP : va_P D vwCl (hotelW cy h u_28) H := hP
      have hD : va_D A (hotelW cy h u_28) := hD
      refine lv_pop hx hb dX6_take_129 rfl ?_
      refine lv_goto (tgt := 156) hx hb dX6_take_130 (by decide) ?_
      exact hret _ _ H locs u_28 dX6_take_156 hP hD hS (by simp only [hTurn, hTurnQ, if_neg c_1, if_neg c_5, if_neg c_9, if_neg c_13, if_neg c_18, if_pos c_22, if_pos c_23]; exact e_29)
  have hsw : (r - r / 16 * 16).toInt < 0 ∨ 5 < (r - r / 16 * 16).toInt := by
    have q0 := fun (v9 : Int32) (h : ¬ r - r / 16 * 16 = v9) => fun (q : (r - r / 16 * 16).toInt = v9.toInt) => h (Int32.toInt_inj.mp q)
    have q_c_1 : ¬ (r - r / 16 * 16).toInt = 0 := q0 0 c_1
    have q_c_5 : ¬ (r - r / 16 * 16).toInt = 1 := q0 1 c_5
    have q_c_9 : ¬ (r - r / 16 * 16).toInt = 2 := q0 2 c_9
    have q_c_13 : ¬ (r - r / 16 * 16).toInt = 3 := q0 3 c_13
    have q_c_18 : ¬ (r - r / 16 * 16).toInt = 4 := q0 4 c_18
    have q_c_22 : ¬ (r - r / 16 * 16).toInt = 5 := q0 5 c_22
    omega
  refine lv_tableOut (tgt := 148) hx hb dX6_take_9 hsw (by decide) ?_
  refine lv_aload_n hx hb dX6_take_148 rfl (lv_at hl 1 rfl) ?_
  refine lv_iload_n hx hb dX6_take_149 rfl (lv_at hl 0 rfl) ?_
  refine lv_iconst (v := 4) hx hb dX6_take_150 (by decide) ?_
  refine lv_irem hx hb dX6_take_151 (by decide) ?_
  refine wr_i (fun u => hotelW cy h u) (va_runV (As := [.int ((r / 16) - (r / 16) / 4 * 4)]) (rest := []) hF (c_X1_pressBy l D cy h n hn x hg H.size ((r / 16) - (r / 16) / 4 * 4)) (cwV 1 hts gX6_take_X1_pressBy rfl rfl rfl (by decide +kernel) ⟨Nat.le_of_ble_eq_true rfl, Nat.le_of_ble_eq_true rfl⟩) (wr_preV hK hP hD (zz_all _) 0 0 rfl rfl rfl) rfl rfl hl.1 rfl (lv_room (Nat.le_of_ble_eq_true rfl)) dX6_take_152 ⟨Nat.le_of_ble_eq_true rfl, Nat.le_of_ble_eq_true rfl⟩) hP hD hS hA (zz_all _) (fun _ => zz_all _) (fun r_30 u_31 H locs e_32 hP hD hS => ?_)
  obtain ⟨rfl, e_32⟩ := e_32
  have hP : va_P D vwCl (hotelW cy h u_31) H := hP
  have hD : va_D A (hotelW cy h u_31) := hD
  refine lv_pop hx hb dX6_take_155 rfl ?_
  exact hret _ _ H locs u_31 dX6_take_156 hP hD hS (by simp only [hTurn, hTurnQ, if_neg c_1, if_neg c_5, if_neg c_9, if_neg c_13, if_neg c_18, if_neg c_22]; exact e_32)
abbrev rm_X4_restTimes : Room := { frames := 1, cells := 0, slots := 0, locals := 21 }
set_option maxHeartbeats 4000000 in
set_option maxRecDepth 100000 in
theorem c_X4_restTimes (l : Launch) (D : va_G) (cy : Nat → ClassId) (h : Nat → Nat) (n : Nat) (hn : n ≤ 4) (x : HS) (hg : x.1.1 = nI n) (t : Nat) (ht : t < 10) (sz : Nat) : Met l yX4_restTimes wsX4_restTimes rm_X4_restTimes (wrP D cy [.ref (h 0), .int (nI t)] (hotelW cy h x) sz) (va_Qi (fun (r : Int32) (u : HS) => r = 1 ∧ u = lpN (sRst n) t 0 x) (wrB D (va_A (hotelW cy h x) sz) (fun u => hotelW cy h u)) (va_A (hotelW cy h x) sz)) 0 0 (va_A (hotelW cy h x) sz) := by
  refine Mwi (cc := cX4_restTimes) (maxL := 3) (ty := .boolean) (by decide) rfl (Nat.le_of_ble_eq_true rfl) (fun _ _ q => by rw [q.1]; rfl) ?_
  intro p e s m args below meth c Q ls A hsz hF hK hP hD hA hl hret
  obtain ⟨hx, hb, hml, hown, hts⟩ := id hF
  have hown : s.vm.findClass RX4 = some m.cls := hown
  have hl : lv_has ls 3 [(0, .ref (h 0)), (1, .int (nI t))] := hl
  suffices key : ∀ (H : Heap) (locs : List Loc), va_P D vwCl (hotelW cy h x) H → va_D A (hotelW cy h x) → va_S A s.heap H locs → W p l e rm_X4_restTimes s m args below meth c H locs 0 0 Q (F0 m 0 ls []) from key s.heap [] hP hD va_S.rf
  intro H locs hP hD hS
  refine lv_iconst (v := 0) hx hb dX4_restTimes_0 (by decide) ?_
  refine lv_istore_n (lv' := [(2, .int 0), (0, .ref (h 0)), (1, .int (nI t))]) hx hb dX4_restTimes_1 rfl hl (by decide) rfl (fun ls hl => ?_)
  have loop : ∀ (k i : Nat) (y : HS), i ≤ t → t + 1 ≤ i + k → y.1.1 = nI n → lpN (sRst n) (t - i) i y = lpN (sRst n) t 0 x → ∀ (H : Heap) (locs : List Loc) (ls : Array Slot), va_P D vwCl (hotelW cy h y) H → va_D A (hotelW cy h y) → va_S A s.heap H locs → lv_has ls 3 [(2, .int (nI i)), (0, .ref (h 0)), (1, .int (nI t))] → W p l e rm_X4_restTimes s m args below meth c H locs 0 0 Q (F0 m 2 ls []) := by
    intro k
    induction k with
    | zero =>
      intro i y hi hk hgy hv
      exact absurd hk (by omega)
    | succ k ih =>
      intro i y hi hk hgy hv H locs ls hP hD hS hl
      refine lv_iload_n hx hb dX4_restTimes_2 rfl (lv_at hl 0 rfl) ?_
      refine lv_iload_n hx hb dX4_restTimes_3 rfl (lv_at hl 2 rfl) ?_
      refine lv_icmp_ge (tgt := 17) hx hb dX4_restTimes_4 (by decide) (fun c_1 => ?_) (fun c_1 => ?_)
      · have c_1 : t ≤ i := (nI_leI (a := t) (b := i) (by omega) (by omega)).mp c_1
        refine lv_iconst (v := 1) hx hb dX4_restTimes_17 (by decide) ?_
        exact hret _ _ H locs _ y dX4_restTimes_18 hP hD hS ⟨rfl, lpN_end c_1 hv⟩
      · have c_1 : ¬ t ≤ i := fun q => c_1 ((nI_leI (a := t) (b := i) (by omega) (by omega)).mpr q)
        refine lv_aload_n hx hb dX4_restTimes_7 rfl (lv_at hl 1 rfl) ?_
        refine wr_v (fun u => hotelW cy h u) (va_runV (As := []) (rest := []) hF (c_X1_letAllRest l D cy h n hn y hgy H.size ) (cwV 0 hts gX4_restTimes_X1_letAllRest rfl rfl rfl (by decide +kernel) ⟨Nat.le_of_ble_eq_true rfl, Nat.le_of_ble_eq_true rfl⟩) (wr_preV hK hP hD (zz_all _) 0 0 rfl rfl rfl) rfl rfl hl.1 rfl (lv_room (Nat.le_of_ble_eq_true rfl)) dX4_restTimes_8 ⟨Nat.le_of_ble_eq_true rfl, Nat.le_of_ble_eq_true rfl⟩) hP hD hS hA (zz_all _) (fun _ => zz_all _) (fun u_2 H locs e_3 hP hD hS => ?_)
        have hg_4 : u_2.1.1 = nI n := by rw [e_3]; exact hgy
        have hP : va_P D vwCl (hotelW cy h u_2) H := hP
        have hD : va_D A (hotelW cy h u_2) := hD
        refine lv_iinc (v := nI (i + 1)) (lv' := [(2, .int (nI (i + 1))), (0, .ref (h 0)), (1, .int (nI t))]) hx hb dX4_restTimes_11 hl (k := 0) rfl (nI_add (i) 1) (by decide) rfl (fun ls hl => ?_)
        refine lv_goto (tgt := 2) hx hb dX4_restTimes_14 (by decide) ?_
        exact ih (i + 1) u_2 (by omega) (by omega) hg_4 (lpN_next (by omega) hv e_3.symm) _ _ _ hP hD hS (lv_sub hl [0, 1, 2] rfl)
  exact loop (t + 1) 0 x (Nat.zero_le _) (by omega) hg rfl _ _ _ hP hD hS (lv_sub hl [0, 1, 2] rfl)
theorem ite01 {P : Prop} [Decidable P] {a b : Int32} (ha : a = 0 ∨ a = 1) (hb : b = 0 ∨ b = 1) : (if P then a else b) = 0 ∨ (if P then a else b) = 1 := by split <;> assumption
theorem hScr_01 {n w : Nat} {x : HS} : hScrR n w x = 0 ∨ hScrR n w x = 1 := by
  unfold hScrR
  repeat' first | refine ite01 ?_ ?_ | exact Or.inl rfl | exact Or.inr rfl
theorem hScr_nar {n w : Nat} {x : HS} : narrow .boolean (.int (hScrR n w x)) = .int (hScrR n w x) := by
  rcases hScr_01 (n := n) (w := w) (x := x) with h | h <;> rw [h] <;> rfl
abbrev rm_X4_succeeds : Room := { frames := 4, cells := 0, slots := 0, locals := 90 }
set_option maxHeartbeats 4000000 in
set_option maxRecDepth 100000 in
theorem c_X4_succeeds (l : Launch) (D : va_G) (cy : Nat → ClassId) (h : Nat → Nat) (n : Nat) (hn : n ≤ 4) (x : HS) (hg : x.1.1 = nI n) (w : Nat) (hw : w < 100000) (sz : Nat) : Met l yX4_succeeds wsX4_succeeds rm_X4_succeeds (wrX D cy [.ref (h 0), .int (nI w)] (hotelW cy h x) sz (Gs (va_A (hotelW cy h x) sz))) (va_Qi (fun (r : Int32) (u : HS) => r = hScrR n w x ∧ u = hScrU n w x) (wrB D (va_A (hotelW cy h x) sz) (fun u => hotelW cy h u)) (va_A (hotelW cy h x) sz)) 0 0 (va_A (hotelW cy h x) sz) := by
  refine MwiX (cc := cX4_succeeds) (maxL := 6) (ty := .boolean) (by decide) rfl (Nat.le_of_ble_eq_true rfl) (fun _ _ q => by rw [q.1]; exact hScr_nar) ?_
  intro p e s m args below meth c Q ls A hAe hsz hX0 hF hK hP hD hA hl hret
  rw [← hsz, ← hAe] at hX0
  obtain ⟨hx, hb, hml, hown, hts⟩ := id hF
  have hown : s.vm.findClass RX4 = some m.cls := hown
  have hl : lv_has ls 6 [(0, .ref (h 0)), (1, .int (nI w))] := hl
  suffices key : ∀ (H : Heap) (locs : List Loc), va_P D vwCl (hotelW cy h x) H → va_D A (hotelW cy h x) → va_S A s.heap H locs → W p l e rm_X4_succeeds s m args below meth c H locs 0 0 Q (F0 m 0 ls []) from key s.heap [] hP hD va_S.rf
  intro H locs hP hD hS
  refine lv_iload_n hx hb dX4_succeeds_0 rfl (lv_at hl 1 rfl) ?_
  refine lv_sipush (v := 1000) hx hb dX4_succeeds_1 (by decide) ?_
  refine lv_idiv hx hb dX4_succeeds_4 (by decide) ?_
  refine zz_top (y := nI (w / 1000)) (pk_div (by omega) (by decide) (by decide)) ?_
  refine lv_bipush (v := 10) hx hb dX4_succeeds_5 (by decide) ?_
  refine lv_irem hx hb dX4_succeeds_7 (by decide) ?_
  refine zz_top (y := nI ((w / 1000) % 10)) (pk_rem (by omega) (by decide) (by decide)) ?_
  refine lv_istore_n (lv' := [(2, .int (nI ((w / 1000) % 10))), (0, .ref (h 0)), (1, .int (nI w))]) hx hb dX4_succeeds_8 rfl hl (by decide) rfl (fun ls hl => ?_)
  refine lv_iload_n hx hb dX4_succeeds_9 rfl (lv_at hl 2 rfl) ?_
  refine lv_bipush (v := 100) hx hb dX4_succeeds_10 (by decide) ?_
  refine lv_idiv hx hb dX4_succeeds_12 (by decide) ?_
  refine zz_top (y := nI (w / 100)) (pk_div (by omega) (by decide) (by decide)) ?_
  refine lv_bipush (v := 10) hx hb dX4_succeeds_13 (by decide) ?_
  refine lv_irem hx hb dX4_succeeds_15 (by decide) ?_
  refine zz_top (y := nI ((w / 100) % 10)) (pk_rem (by omega) (by decide) (by decide)) ?_
  refine lv_istore_n (lv' := [(3, .int (nI ((w / 100) % 10))), (2, .int (nI ((w / 1000) % 10))), (0, .ref (h 0)), (1, .int (nI w))]) hx hb dX4_succeeds_16 rfl hl (by decide) rfl (fun ls hl => ?_)
  refine lv_iload_n hx hb dX4_succeeds_17 rfl (lv_at hl 3 rfl) ?_
  refine lv_bipush (v := 10) hx hb dX4_succeeds_18 (by decide) ?_
  refine lv_idiv hx hb dX4_succeeds_20 (by decide) ?_
  refine zz_top (y := nI (w / 10)) (pk_div (by omega) (by decide) (by decide)) ?_
  refine lv_bipush (v := 10) hx hb dX4_succeeds_21 (by decide) ?_
  refine lv_irem hx hb dX4_succeeds_23 (by decide) ?_
  refine zz_top (y := nI ((w / 10) % 10)) (pk_rem (by omega) (by decide) (by decide)) ?_
  refine lv_istore (lv' := [(4, .int (nI ((w / 10) % 10))), (3, .int (nI ((w / 100) % 10))), (2, .int (nI ((w / 1000) % 10))), (0, .ref (h 0)), (1, .int (nI w))]) hx hb dX4_succeeds_24 hl (by decide) rfl (fun ls hl => ?_)
  refine lv_iload_n hx hb dX4_succeeds_26 rfl (lv_at hl 4 rfl) ?_
  refine lv_bipush (v := 10) hx hb dX4_succeeds_27 (by decide) ?_
  refine lv_irem hx hb dX4_succeeds_29 (by decide) ?_
  refine zz_top (y := nI (w % 10)) (pk_rem (by omega) (by decide) (by decide)) ?_
  refine lv_istore (lv' := [(5, .int (nI (w % 10))), (4, .int (nI ((w / 10) % 10))), (3, .int (nI ((w / 100) % 10))), (2, .int (nI ((w / 1000) % 10))), (0, .ref (h 0)), (1, .int (nI w))]) hx hb dX4_succeeds_30 hl (by decide) rfl (fun ls hl => ?_)
  refine lv_iload_n hx hb dX4_succeeds_32 rfl (lv_at hl 5 rfl) ?_
  refine lv_sipush (v := 10000) hx hb dX4_succeeds_33 (by decide) ?_
  refine lv_idiv hx hb dX4_succeeds_36 (by decide) ?_
  refine zz_top (y := nI (w / 10000)) (pk_div (by omega) (by decide) (by decide)) ?_
  by_cases c_1 : nI (w / 10000) = 1
  · refine lv_tableIn (off := 51) (tgt := 88) hx hb dX4_succeeds_37 (by rw [c_1]; decide) (by rw [c_1]; decide) (by rw [c_1]; rfl) (by decide) ?_
    refine lv_aload_n hx hb dX4_succeeds_88 rfl (lv_at hl 4 rfl) ?_
    refine lv_iload_n hx hb dX4_succeeds_89 rfl (lv_at hl 3 rfl) ?_
    refine lv_iload_n hx hb dX4_succeeds_90 rfl (lv_at hl 2 rfl) ?_
    refine lv_iload hx hb dX4_succeeds_91 (lv_at hl 1 rfl) ?_
    refine lv_iload hx hb dX4_succeeds_93 (lv_at hl 0 rfl) ?_
    refine wr_i (fun u => hotelW cy h u) (va_runV (As := [.int (nI ((w / 1000) % 10)), .int (nI ((w / 100) % 10)), .int (nI ((w / 10) % 10)), .int (nI (w % 10))]) (rest := []) hF (c_X1_admit l D cy h n hn x hg H.size (nI ((w / 1000) % 10)) (nI ((w / 100) % 10)) (nI ((w / 10) % 10)) (nI (w % 10))) (cwV 4 hts gX4_succeeds_X1_admit rfl rfl rfl (by decide +kernel) ⟨Nat.le_of_ble_eq_true rfl, Nat.le_of_ble_eq_true rfl⟩) (wr_preV hK hP hD (zz_all _) 0 0 rfl rfl rfl) rfl rfl hl.1 rfl (lv_room (Nat.le_of_ble_eq_true rfl)) dX4_succeeds_95 ⟨Nat.le_of_ble_eq_true rfl, Nat.le_of_ble_eq_true rfl⟩) hP hD hS hA (zz_all _) (fun _ => zz_all _) (fun r_2 u_3 H locs e_4 hP hD hS => ?_)
    obtain ⟨rfl, e_4⟩ := e_4
    have hP : va_P D vwCl (hotelW cy h u_3) H := hP
    have hD : va_D A (hotelW cy h u_3) := hD
    refine lv_iconst (v := (-1)) hx hb dX4_succeeds_98 (by decide) ?_
    refine lv_icmp_eq (tgt := 106) hx hb dX4_succeeds_99 (by decide) (fun c_5 => ?_) (fun c_5 => ?_)
    · have c_5 : (if okC n (nI ((w / 1000) % 10)) (nI ((w / 100) % 10)) (nI ((w / 10) % 10)) (nI (w % 10)) then nI n else -1) = ((-1)) := c_5
      refine lv_iconst (v := 0) hx hb dX4_succeeds_106 (by decide) ?_
      exact hret _ _ H locs _ u_3 dX4_succeeds_107 hP hD hS ⟨by simp only [hScrR, if_pos c_1, if_pos c_5], by simp only [hScrU, if_pos c_1, if_pos c_5]; exact e_4⟩
    · have c_5 : ¬ (if okC n (nI ((w / 1000) % 10)) (nI ((w / 100) % 10)) (nI ((w / 10) % 10)) (nI (w % 10)) then nI n else -1) = ((-1)) := c_5
      refine lv_iconst (v := 1) hx hb dX4_succeeds_102 (by decide) ?_
      refine lv_goto (tgt := 107) hx hb dX4_succeeds_103 (by decide) ?_
      exact hret _ _ H locs _ u_3 dX4_succeeds_107 hP hD hS ⟨by simp only [hScrR, if_pos c_1, if_neg c_5], by simp only [hScrU, if_pos c_1, if_neg c_5]; exact e_4⟩
  by_cases c_6 : nI (w / 10000) = 2
  · refine lv_tableIn (off := 71) (tgt := 108) hx hb dX4_succeeds_37 (by rw [c_6]; decide) (by rw [c_6]; decide) (by rw [c_6]; rfl) (by decide) ?_
    refine lv_iload_n hx hb dX4_succeeds_108 rfl (lv_at hl 5 rfl) ?_
    refine lv_sipush (v := 1000) hx hb dX4_succeeds_109 (by decide) ?_
    refine lv_irem hx hb dX4_succeeds_112 (by decide) ?_
    refine zz_top (y := nI (w % 1000)) (pk_rem (by omega) (by decide) (by decide)) ?_
    refine lv_if_ne (tgt := 128) hx hb dX4_succeeds_113 (by decide) (fun c_7 => ?_) (fun c_7 => ?_)
    · have c_7 : ¬ w % 1000 = 0 := fun q => c_7 ((nI_eq (a := w % 1000) (b := 0) (by omega) (by omega)).mpr q)
      refine lv_iconst (v := 0) hx hb dX4_succeeds_128 (by decide) ?_
      exact hret _ _ H locs _ x dX4_succeeds_129 hP hD hS ⟨by simp only [hScrR, if_neg c_1, if_pos c_6, if_neg c_7], by simp only [hScrU, if_neg c_1, if_pos c_6, if_neg c_7]⟩
    · have c_7 : w % 1000 = 0 := (nI_eq (a := w % 1000) (b := 0) (by omega) (by omega)).mp c_7
      refine lv_aload_n hx hb dX4_succeeds_116 rfl (lv_at hl 4 rfl) ?_
      refine lv_iload_n hx hb dX4_succeeds_117 rfl (lv_at hl 3 rfl) ?_
      refine wr_i (fun u => hotelW cy h u) (va_runV (As := [.int (nI ((w / 1000) % 10))]) (rest := []) hF (c_X1_pressBy l D cy h n hn x hg H.size (nI ((w / 1000) % 10))) (cwV 1 hts gX4_succeeds_X1_pressBy rfl rfl rfl (by decide +kernel) ⟨Nat.le_of_ble_eq_true rfl, Nat.le_of_ble_eq_true rfl⟩) (wr_preV hK hP hD (zz_all _) 0 0 rfl rfl rfl) rfl rfl hl.1 rfl (lv_room (Nat.le_of_ble_eq_true rfl)) dX4_succeeds_118 ⟨Nat.le_of_ble_eq_true rfl, Nat.le_of_ble_eq_true rfl⟩) hP hD hS hA (zz_all _) (fun _ => zz_all _) (fun r_8 u_9 H locs e_10 hP hD hS => ?_)
      obtain ⟨rfl, e_10⟩ := e_10
      have hP : va_P D vwCl (hotelW cy h u_9) H := hP
      have hD : va_D A (hotelW cy h u_9) := hD
      refine lv_if_ne (tgt := 128) hx hb dX4_succeeds_121 (by decide) (fun c_11 => ?_) (fun c_11 => ?_)
      · have c_11 : ¬ (hReas x (nI ((w / 1000) % 10))) = 0 := c_11
        refine lv_iconst (v := 0) hx hb dX4_succeeds_128 (by decide) ?_
        exact hret _ _ H locs _ u_9 dX4_succeeds_129 hP hD hS ⟨by simp only [hScrR, if_neg c_1, if_pos c_6, if_pos c_7, if_neg c_11], by simp only [hScrU, if_neg c_1, if_pos c_6, if_pos c_7, if_neg c_11]; exact e_10⟩
      · have c_11 : (hReas x (nI ((w / 1000) % 10))) = 0 := c_11
        refine lv_iconst (v := 1) hx hb dX4_succeeds_124 (by decide) ?_
        refine lv_goto (tgt := 129) hx hb dX4_succeeds_125 (by decide) ?_
        exact hret _ _ H locs _ u_9 dX4_succeeds_129 hP hD hS ⟨by simp only [hScrR, if_neg c_1, if_pos c_6, if_pos c_7, if_pos c_11], by simp only [hScrU, if_neg c_1, if_pos c_6, if_pos c_7, if_pos c_11]; exact e_10⟩
  by_cases c_12 : nI (w / 10000) = 3
  · refine lv_tableIn (off := 93) (tgt := 130) hx hb dX4_succeeds_37 (by rw [c_12]; decide) (by rw [c_12]; decide) (by rw [c_12]; rfl) (by decide) ?_
    refine lv_iload_n hx hb dX4_succeeds_130 rfl (lv_at hl 5 rfl) ?_
    refine lv_sipush (v := 10000) hx hb dX4_succeeds_131 (by decide) ?_
    refine lv_irem hx hb dX4_succeeds_134 (by decide) ?_
    refine zz_top (y := nI (w % 10000)) (pk_rem (by omega) (by decide) (by decide)) ?_
    refine lv_bipush (v := 10) hx hb dX4_succeeds_135 (by decide) ?_
    refine lv_icmp_ge (tgt := 153) hx hb dX4_succeeds_137 (by decide) (fun c_13 => ?_) (fun c_13 => ?_)
    · have c_13 : 10 ≤ w % 10000 := (nI_leI (a := 10) (b := w % 10000) (by omega) (by omega)).mp c_13
      refine lv_iconst (v := 0) hx hb dX4_succeeds_153 (by decide) ?_
      exact hret _ _ H locs _ x dX4_succeeds_154 hP hD hS ⟨by simp only [hScrR, if_neg c_1, if_neg c_6, if_pos c_12, if_pos c_13], by simp only [hScrU, if_neg c_1, if_neg c_6, if_pos c_12, if_pos c_13]⟩
    · have c_13 : ¬ 10 ≤ w % 10000 := fun q => c_13 ((nI_leI (a := 10) (b := w % 10000) (by omega) (by omega)).mpr q)
      refine lv_aload_n hx hb dX4_succeeds_140 rfl (lv_at hl 4 rfl) ?_
      refine lv_iload hx hb dX4_succeeds_141 (lv_at hl 0 rfl) ?_
      refine wr_i (fun u => hotelW cy h u) (va_runS (As := [.ref (h 0), .int (nI (w % 10))]) (rest := []) hF (c_X4_restTimes l D cy h n hn x hg (w % 10) (by omega) H.size) (va_cwS 2 hts gX4_succeeds_X4_restTimes rfl rfl rfl (by decide +kernel) ⟨Nat.le_of_ble_eq_true rfl, Nat.le_of_ble_eq_true rfl⟩) (wr_preS hK hP hD (zz_all _)) rfl rfl hl.1 rfl (lv_room (Nat.le_of_ble_eq_true rfl)) dX4_succeeds_143 ⟨Nat.le_of_ble_eq_true rfl, Nat.le_of_ble_eq_true rfl⟩) hP hD hS hA (zz_all _) (fun _ => zz_all _) (fun r_14 u_15 H locs e_16 hP hD hS => ?_)
      obtain ⟨rfl, e_16⟩ := e_16
      have hP : va_P D vwCl (hotelW cy h u_15) H := hP
      have hD : va_D A (hotelW cy h u_15) := hD
      refine lv_if_eq (tgt := 153) hx hb dX4_succeeds_146 (by decide) (fun c_17 => ?_) (fun c_17 => ?_)
      · exact absurd c_17 (by decide)
      · refine lv_iconst (v := 1) hx hb dX4_succeeds_149 (by decide) ?_
        refine lv_goto (tgt := 154) hx hb dX4_succeeds_150 (by decide) ?_
        exact hret _ _ H locs _ u_15 dX4_succeeds_154 hP hD hS ⟨by simp only [hScrR, if_neg c_1, if_neg c_6, if_pos c_12, if_neg c_13, if_neg c_17], by simp only [hScrU, if_neg c_1, if_neg c_6, if_pos c_12, if_neg c_13, if_neg c_17]; exact e_16⟩
  by_cases c_18 : nI (w / 10000) = 4
  · refine lv_tableIn (off := 118) (tgt := 155) hx hb dX4_succeeds_37 (by rw [c_18]; decide) (by rw [c_18]; decide) (by rw [c_18]; rfl) (by decide) ?_
    refine lv_iload_n hx hb dX4_succeeds_155 rfl (lv_at hl 5 rfl) ?_
    refine lv_sipush (v := 1000) hx hb dX4_succeeds_156 (by decide) ?_
    refine lv_irem hx hb dX4_succeeds_159 (by decide) ?_
    refine zz_top (y := nI (w % 1000)) (pk_rem (by omega) (by decide) (by decide)) ?_
    refine lv_if_ne (tgt := 176) hx hb dX4_succeeds_160 (by decide) (fun c_19 => ?_) (fun c_19 => ?_)
    · have c_19 : ¬ w % 1000 = 0 := fun q => c_19 ((nI_eq (a := w % 1000) (b := 0) (by omega) (by omega)).mpr q)
      refine lv_iconst (v := 0) hx hb dX4_succeeds_176 (by decide) ?_
      exact hret _ _ H locs _ x dX4_succeeds_177 hP hD hS ⟨by simp only [hScrR, if_neg c_1, if_neg c_6, if_neg c_12, if_pos c_18, if_neg c_19], by simp only [hScrU, if_neg c_1, if_neg c_6, if_neg c_12, if_pos c_18, if_neg c_19]⟩
    · have c_19 : w % 1000 = 0 := (nI_eq (a := w % 1000) (b := 0) (by omega) (by omega)).mp c_19
      refine lv_aload_n hx hb dX4_succeeds_163 rfl (lv_at hl 4 rfl) ?_
      refine lv_iload_n hx hb dX4_succeeds_164 rfl (lv_at hl 3 rfl) ?_
      refine wr_i (fun u => hotelW cy h u) (va_runV (As := [.int (nI ((w / 1000) % 10))]) (rest := []) hF (c_X1_dismiss l D cy h n hn x hg H.size (nI ((w / 1000) % 10))) (cwV 1 hts gX4_succeeds_X1_dismiss rfl rfl rfl (by decide +kernel) ⟨Nat.le_of_ble_eq_true rfl, Nat.le_of_ble_eq_true rfl⟩) (wr_preV hK hP hD (zz_all _) 0 0 rfl rfl rfl) rfl rfl hl.1 rfl (lv_room (Nat.le_of_ble_eq_true rfl)) dX4_succeeds_165 ⟨Nat.le_of_ble_eq_true rfl, Nat.le_of_ble_eq_true rfl⟩) hP hD hS hA (zz_all _) (fun _ => zz_all _) (fun r_20 u_21 H locs e_22 hP hD hS => ?_)
      obtain ⟨rfl, e_22⟩ := e_22
      have hP : va_P D vwCl (hotelW cy h u_21) H := hP
      have hD : va_D A (hotelW cy h u_21) := hD
      refine lv_iconst (v := (-1)) hx hb dX4_succeeds_168 (by decide) ?_
      refine lv_icmp_eq (tgt := 176) hx hb dX4_succeeds_169 (by decide) (fun c_23 => ?_) (fun c_23 => ?_)
      · have c_23 : (hGr x (nI ((w / 1000) % 10))) = ((-1)) := c_23
        refine lv_iconst (v := 0) hx hb dX4_succeeds_176 (by decide) ?_
        exact hret _ _ H locs _ u_21 dX4_succeeds_177 hP hD hS ⟨by simp only [hScrR, if_neg c_1, if_neg c_6, if_neg c_12, if_pos c_18, if_pos c_19, if_pos c_23], by simp only [hScrU, if_neg c_1, if_neg c_6, if_neg c_12, if_pos c_18, if_pos c_19, if_pos c_23]; exact e_22⟩
      · have c_23 : ¬ (hGr x (nI ((w / 1000) % 10))) = ((-1)) := c_23
        refine lv_iconst (v := 1) hx hb dX4_succeeds_172 (by decide) ?_
        refine lv_goto (tgt := 177) hx hb dX4_succeeds_173 (by decide) ?_
        exact hret _ _ H locs _ u_21 dX4_succeeds_177 hP hD hS ⟨by simp only [hScrR, if_neg c_1, if_neg c_6, if_neg c_12, if_pos c_18, if_pos c_19, if_neg c_23], by simp only [hScrU, if_neg c_1, if_neg c_6, if_neg c_12, if_pos c_18, if_pos c_19, if_neg c_23]; exact e_22⟩
  by_cases c_24 : nI (w / 10000) = 5
  · refine lv_tableIn (off := 141) (tgt := 178) hx hb dX4_succeeds_37 (by rw [c_24]; decide) (by rw [c_24]; decide) (by rw [c_24]; rfl) (by decide) ?_
    refine lv_iload_n hx hb dX4_succeeds_178 rfl (lv_at hl 2 rfl) ?_
    refine lv_if_ne (tgt := 199) hx hb dX4_succeeds_179 (by decide) (fun c_25 => ?_) (fun c_25 => ?_)
    · have c_25 : ¬ (w / 100) % 10 = 0 := fun q => c_25 ((nI_eq (a := (w / 100) % 10) (b := 0) (by omega) (by omega)).mpr q)
      refine lv_iconst (v := 0) hx hb dX4_succeeds_199 (by decide) ?_
      exact hret _ _ H locs _ x dX4_succeeds_200 hP hD hS ⟨by simp only [hScrR, if_neg c_1, if_neg c_6, if_neg c_12, if_neg c_18, if_pos c_24, if_neg c_25], by simp only [hScrU, if_neg c_1, if_neg c_6, if_neg c_12, if_neg c_18, if_pos c_24, if_neg c_25]⟩
    · have c_25 : (w / 100) % 10 = 0 := (nI_eq (a := (w / 100) % 10) (b := 0) (by omega) (by omega)).mp c_25
      refine lv_aload_n hx hb dX4_succeeds_182 rfl (lv_at hl 4 rfl) ?_
      refine lv_iload_n hx hb dX4_succeeds_183 rfl (lv_at hl 3 rfl) ?_
      refine lv_iload_n hx hb dX4_succeeds_184 rfl (lv_at hl 5 rfl) ?_
      refine lv_bipush (v := 100) hx hb dX4_succeeds_185 (by decide) ?_
      refine lv_irem hx hb dX4_succeeds_187 (by decide) ?_
      refine zz_top (y := nI (w % 100)) (pk_rem (by omega) (by decide) (by decide)) ?_
      refine wr_i (fun u => hotelW cy h u) (va_runV (As := [.int (nI ((w / 1000) % 10)), .int (nI (w % 100))]) (rest := []) hF (c_X1_change l D cy h x (nI ((w / 1000) % 10)) (nI (w % 100)) H.size) (cwV 2 hts gX4_succeeds_X1_change rfl rfl rfl (by decide +kernel) ⟨Nat.le_of_ble_eq_true rfl, Nat.le_of_ble_eq_true rfl⟩) (wrX_preV hK hP hD (zz_all _) 0 0 rfl rfl rfl Xok_s (fun U hU hW => Gs.at hX0 hS (zz_free hD (zz_all _) hS hA) hU hW)) rfl rfl hl.1 rfl (lv_room (Nat.le_of_ble_eq_true rfl)) dX4_succeeds_188 ⟨Nat.le_of_ble_eq_true rfl, Nat.le_of_ble_eq_true rfl⟩) hP hD hS hA (zz_all _) (fun _ => zz_all _) (fun r_26 u_27 H locs e_28 hP hD hS => ?_)
      obtain ⟨rfl, e_28⟩ := e_28
      have hP : va_P D vwCl (hotelW cy h u_27) H := hP
      have hD : va_D A (hotelW cy h u_27) := hD
      refine lv_iconst (v := (-1)) hx hb dX4_succeeds_191 (by decide) ?_
      refine lv_icmp_eq (tgt := 199) hx hb dX4_succeeds_192 (by decide) (fun c_29 => ?_) (fun c_29 => ?_)
      · have c_29 : (hSetR x (nI ((w / 1000) % 10)) (nI (w % 100))) = ((-1)) := c_29
        refine lv_iconst (v := 0) hx hb dX4_succeeds_199 (by decide) ?_
        exact hret _ _ H locs _ u_27 dX4_succeeds_200 hP hD hS ⟨by simp only [hScrR, if_neg c_1, if_neg c_6, if_neg c_12, if_neg c_18, if_pos c_24, if_pos c_25, if_pos c_29], by simp only [hScrU, if_neg c_1, if_neg c_6, if_neg c_12, if_neg c_18, if_pos c_24, if_pos c_25, if_pos c_29]; exact e_28⟩
      · have c_29 : ¬ (hSetR x (nI ((w / 1000) % 10)) (nI (w % 100))) = ((-1)) := c_29
        refine lv_iconst (v := 1) hx hb dX4_succeeds_195 (by decide) ?_
        refine lv_goto (tgt := 200) hx hb dX4_succeeds_196 (by decide) ?_
        exact hret _ _ H locs _ u_27 dX4_succeeds_200 hP hD hS ⟨by simp only [hScrR, if_neg c_1, if_neg c_6, if_neg c_12, if_neg c_18, if_pos c_24, if_pos c_25, if_neg c_29], by simp only [hScrU, if_neg c_1, if_neg c_6, if_neg c_12, if_neg c_18, if_pos c_24, if_pos c_25, if_neg c_29]; exact e_28⟩
  by_cases c_30 : nI (w / 10000) = 6
  · refine lv_tableIn (off := 164) (tgt := 201) hx hb dX4_succeeds_37 (by rw [c_30]; decide) (by rw [c_30]; decide) (by rw [c_30]; rfl) (by decide) ?_
    refine lv_iload_n hx hb dX4_succeeds_201 rfl (lv_at hl 5 rfl) ?_
    refine lv_sipush (v := 1000) hx hb dX4_succeeds_202 (by decide) ?_
    refine lv_irem hx hb dX4_succeeds_205 (by decide) ?_
    refine zz_top (y := nI (w % 1000)) (pk_rem (by omega) (by decide) (by decide)) ?_
    refine lv_bipush (v := 10) hx hb dX4_succeeds_206 (by decide) ?_
    refine lv_icmp_ge (tgt := 225) hx hb dX4_succeeds_208 (by decide) (fun c_31 => ?_) (fun c_31 => ?_)
    · have c_31 : 10 ≤ w % 1000 := (nI_leI (a := 10) (b := w % 1000) (by omega) (by omega)).mp c_31
      refine lv_iconst (v := 0) hx hb dX4_succeeds_225 (by decide) ?_
      exact hret _ _ H locs _ x dX4_succeeds_226 hP hD hS ⟨by simp only [hScrR, if_neg c_1, if_neg c_6, if_neg c_12, if_neg c_18, if_neg c_24, if_pos c_30, if_pos c_31], by simp only [hScrU, if_neg c_1, if_neg c_6, if_neg c_12, if_neg c_18, if_neg c_24, if_pos c_30, if_pos c_31]⟩
    · have c_31 : ¬ 10 ≤ w % 1000 := fun q => c_31 ((nI_leI (a := 10) (b := w % 1000) (by omega) (by omega)).mpr q)
      refine lv_aload_n hx hb dX4_succeeds_211 rfl (lv_at hl 4 rfl) ?_
      refine lv_iload_n hx hb dX4_succeeds_212 rfl (lv_at hl 3 rfl) ?_
      refine rd_V (As := [.int (nI ((w / 1000) % 10))]) (rest := []) hF (c_X1_stateOf l D cy h n hn x hg (nI ((w / 1000) % 10))) (cwV 1 hts gX4_succeeds_X1_stateOf rfl rfl rfl (by decide +kernel) ⟨Nat.le_of_ble_eq_true rfl, Nat.le_of_ble_eq_true rfl⟩) hK hP 0 0 rfl rfl rfl rfl hl.1 rfl (Nat.le_of_ble_eq_true rfl) dX4_succeeds_213 ⟨Nat.le_of_ble_eq_true rfl, Nat.le_of_ble_eq_true rfl⟩ ?_
      refine lv_iload hx hb dX4_succeeds_216 (lv_at hl 0 rfl) ?_
      refine lv_icmp_ne (tgt := 225) hx hb dX4_succeeds_218 (by decide) (fun c_32 => ?_) (fun c_32 => ?_)
      · have c_32 : ¬ (hSt x (nI ((w / 1000) % 10))) = (nI (w % 10)) := c_32
        refine lv_iconst (v := 0) hx hb dX4_succeeds_225 (by decide) ?_
        exact hret _ _ H locs _ x dX4_succeeds_226 hP hD hS ⟨by simp only [hScrR, if_neg c_1, if_neg c_6, if_neg c_12, if_neg c_18, if_neg c_24, if_pos c_30, if_neg c_31, if_neg c_32], by simp only [hScrU, if_neg c_1, if_neg c_6, if_neg c_12, if_neg c_18, if_neg c_24, if_pos c_30, if_neg c_31, if_neg c_32]⟩
      · have c_32 : (hSt x (nI ((w / 1000) % 10))) = (nI (w % 10)) := c_32
        refine lv_iconst (v := 1) hx hb dX4_succeeds_221 (by decide) ?_
        refine lv_goto (tgt := 226) hx hb dX4_succeeds_222 (by decide) ?_
        exact hret _ _ H locs _ x dX4_succeeds_226 hP hD hS ⟨by simp only [hScrR, if_neg c_1, if_neg c_6, if_neg c_12, if_neg c_18, if_neg c_24, if_pos c_30, if_neg c_31, if_pos c_32], by simp only [hScrU, if_neg c_1, if_neg c_6, if_neg c_12, if_neg c_18, if_neg c_24, if_pos c_30, if_neg c_31, if_pos c_32]⟩
  by_cases c_33 : nI (w / 10000) = 7
  · refine lv_tableIn (off := 190) (tgt := 227) hx hb dX4_succeeds_37 (by rw [c_33]; decide) (by rw [c_33]; decide) (by rw [c_33]; rfl) (by decide) ?_
    refine lv_iload_n hx hb dX4_succeeds_227 rfl (lv_at hl 5 rfl) ?_
    refine lv_sipush (v := 1000) hx hb dX4_succeeds_228 (by decide) ?_
    refine lv_irem hx hb dX4_succeeds_231 (by decide) ?_
    refine zz_top (y := nI (w % 1000)) (pk_rem (by omega) (by decide) (by decide)) ?_
    refine lv_bipush (v := 10) hx hb dX4_succeeds_232 (by decide) ?_
    refine lv_icmp_ge (tgt := 259) hx hb dX4_succeeds_234 (by decide) (fun c_34 => ?_) (fun c_34 => ?_)
    · have c_34 : 10 ≤ w % 1000 := (nI_leI (a := 10) (b := w % 1000) (by omega) (by omega)).mp c_34
      refine lv_iconst (v := 0) hx hb dX4_succeeds_259 (by decide) ?_
      exact hret _ _ H locs _ x dX4_succeeds_260 hP hD hS ⟨by simp only [hScrR, if_neg c_1, if_neg c_6, if_neg c_12, if_neg c_18, if_neg c_24, if_neg c_30, if_pos c_33, if_pos c_34], by simp only [hScrU, if_neg c_1, if_neg c_6, if_neg c_12, if_neg c_18, if_neg c_24, if_neg c_30, if_pos c_33, if_pos c_34]⟩
    · have c_34 : ¬ 10 ≤ w % 1000 := fun q => c_34 ((nI_leI (a := 10) (b := w % 1000) (by omega) (by omega)).mpr q)
      refine lv_aload_n hx hb dX4_succeeds_237 rfl (lv_at hl 4 rfl) ?_
      refine lv_iload_n hx hb dX4_succeeds_238 rfl (lv_at hl 3 rfl) ?_
      refine rd_V (As := [.int (nI ((w / 1000) % 10))]) (rest := []) hF (c_X1_isGuest l D cy h n hn x hg (nI ((w / 1000) % 10))) (cwV 1 hts gX4_succeeds_X1_isGuest rfl rfl rfl (by decide +kernel) ⟨Nat.le_of_ble_eq_true rfl, Nat.le_of_ble_eq_true rfl⟩) hK hP 0 0 rfl rfl rfl rfl hl.1 rfl (Nat.le_of_ble_eq_true rfl) dX4_succeeds_239 ⟨Nat.le_of_ble_eq_true rfl, Nat.le_of_ble_eq_true rfl⟩ ?_
      refine lv_if_eq (tgt := 259) hx hb dX4_succeeds_242 (by decide) (fun c_35 => ?_) (fun c_35 => ?_)
      · have c_35 := zb_eq.mp c_35
        refine lv_iconst (v := 0) hx hb dX4_succeeds_259 (by decide) ?_
        exact hret _ _ H locs _ x dX4_succeeds_260 hP hD hS ⟨by simp only [hScrR, if_neg c_1, if_neg c_6, if_neg c_12, if_neg c_18, if_neg c_24, if_neg c_30, if_pos c_33, if_neg c_34, if_neg c_35], by simp only [hScrU, if_neg c_1, if_neg c_6, if_neg c_12, if_neg c_18, if_neg c_24, if_neg c_30, if_pos c_33, if_neg c_34, if_neg c_35]⟩
      · have c_35 := zb_ne.mp c_35
        refine lv_aload_n hx hb dX4_succeeds_245 rfl (lv_at hl 4 rfl) ?_
        refine lv_iload_n hx hb dX4_succeeds_246 rfl (lv_at hl 3 rfl) ?_
        refine rd_V (As := [.int (nI ((w / 1000) % 10))]) (rest := []) hF (c_X1_grudgesOf l D cy h n hn x hg (nI ((w / 1000) % 10))) (cwV 1 hts gX4_succeeds_X1_grudgesOf rfl rfl rfl (by decide +kernel) ⟨Nat.le_of_ble_eq_true rfl, Nat.le_of_ble_eq_true rfl⟩) hK hP 0 0 rfl rfl rfl rfl hl.1 rfl (Nat.le_of_ble_eq_true rfl) dX4_succeeds_247 ⟨Nat.le_of_ble_eq_true rfl, Nat.le_of_ble_eq_true rfl⟩ ?_
        refine lv_iload hx hb dX4_succeeds_250 (lv_at hl 0 rfl) ?_
        refine lv_icmp_gt (tgt := 259) hx hb dX4_succeeds_252 (by decide) (fun c_36 => ?_) (fun c_36 => ?_)
        · have c_36 : (nI (w % 10)) < (hGr x (nI ((w / 1000) % 10))) := c_36
          refine lv_iconst (v := 0) hx hb dX4_succeeds_259 (by decide) ?_
          exact hret _ _ H locs _ x dX4_succeeds_260 hP hD hS ⟨by simp only [hScrR, if_neg c_1, if_neg c_6, if_neg c_12, if_neg c_18, if_neg c_24, if_neg c_30, if_pos c_33, if_neg c_34, if_pos c_35, if_pos c_36], by simp only [hScrU, if_neg c_1, if_neg c_6, if_neg c_12, if_neg c_18, if_neg c_24, if_neg c_30, if_pos c_33, if_neg c_34, if_pos c_35, if_pos c_36]⟩
        · have c_36 : ¬ (nI (w % 10)) < (hGr x (nI ((w / 1000) % 10))) := c_36
          refine lv_iconst (v := 1) hx hb dX4_succeeds_255 (by decide) ?_
          refine lv_goto (tgt := 260) hx hb dX4_succeeds_256 (by decide) ?_
          exact hret _ _ H locs _ x dX4_succeeds_260 hP hD hS ⟨by simp only [hScrR, if_neg c_1, if_neg c_6, if_neg c_12, if_neg c_18, if_neg c_24, if_neg c_30, if_pos c_33, if_neg c_34, if_pos c_35, if_neg c_36], by simp only [hScrU, if_neg c_1, if_neg c_6, if_neg c_12, if_neg c_18, if_neg c_24, if_neg c_30, if_pos c_33, if_neg c_34, if_pos c_35, if_neg c_36]⟩
  by_cases c_37 : nI (w / 10000) = 8
  · refine lv_tableIn (off := 224) (tgt := 261) hx hb dX4_succeeds_37 (by rw [c_37]; decide) (by rw [c_37]; decide) (by rw [c_37]; rfl) (by decide) ?_
    refine lv_iload_n hx hb dX4_succeeds_261 rfl (lv_at hl 5 rfl) ?_
    refine lv_sipush (v := 10000) hx hb dX4_succeeds_262 (by decide) ?_
    refine lv_irem hx hb dX4_succeeds_265 (by decide) ?_
    refine zz_top (y := nI (w % 10000)) (pk_rem (by omega) (by decide) (by decide)) ?_
    refine lv_bipush (v := 10) hx hb dX4_succeeds_266 (by decide) ?_
    refine lv_icmp_ge (tgt := 285) hx hb dX4_succeeds_268 (by decide) (fun c_38 => ?_) (fun c_38 => ?_)
    · have c_38 : 10 ≤ w % 10000 := (nI_leI (a := 10) (b := w % 10000) (by omega) (by omega)).mp c_38
      refine lv_iconst (v := 0) hx hb dX4_succeeds_285 (by decide) ?_
      exact hret _ _ H locs _ x dX4_succeeds_286 hP hD hS ⟨by simp only [hScrR, if_neg c_1, if_neg c_6, if_neg c_12, if_neg c_18, if_neg c_24, if_neg c_30, if_neg c_33, if_pos c_37, if_pos c_38], by simp only [hScrU, if_neg c_1, if_neg c_6, if_neg c_12, if_neg c_18, if_neg c_24, if_neg c_30, if_neg c_33, if_pos c_37, if_pos c_38]⟩
    · have c_38 : ¬ 10 ≤ w % 10000 := fun q => c_38 ((nI_leI (a := 10) (b := w % 10000) (by omega) (by omega)).mpr q)
      refine lv_aload_n hx hb dX4_succeeds_271 rfl (lv_at hl 4 rfl) ?_
      refine lv_iconst (v := 5) hx hb dX4_succeeds_272 (by decide) ?_
      refine rd_V (As := [.int 5]) (rest := []) hF (c_X1_number l D cy h n hn x hg 5) (cwV 1 hts gX4_succeeds_X1_number rfl rfl rfl (by decide +kernel) ⟨Nat.le_of_ble_eq_true rfl, Nat.le_of_ble_eq_true rfl⟩) hK hP 0 0 rfl rfl rfl rfl hl.1 rfl (Nat.le_of_ble_eq_true rfl) dX4_succeeds_273 ⟨Nat.le_of_ble_eq_true rfl, Nat.le_of_ble_eq_true rfl⟩ ?_
      refine lv_iload hx hb dX4_succeeds_276 (lv_at hl 0 rfl) ?_
      refine lv_icmp_lt (tgt := 285) hx hb dX4_succeeds_278 (by decide) (fun c_39 => ?_) (fun c_39 => ?_)
      · have c_39 : (hNum n x 5) < (nI (w % 10)) := c_39
        refine lv_iconst (v := 0) hx hb dX4_succeeds_285 (by decide) ?_
        exact hret _ _ H locs _ x dX4_succeeds_286 hP hD hS ⟨by simp only [hScrR, if_neg c_1, if_neg c_6, if_neg c_12, if_neg c_18, if_neg c_24, if_neg c_30, if_neg c_33, if_pos c_37, if_neg c_38, if_pos c_39], by simp only [hScrU, if_neg c_1, if_neg c_6, if_neg c_12, if_neg c_18, if_neg c_24, if_neg c_30, if_neg c_33, if_pos c_37, if_neg c_38, if_pos c_39]⟩
      · have c_39 : ¬ (hNum n x 5) < (nI (w % 10)) := c_39
        refine lv_iconst (v := 1) hx hb dX4_succeeds_281 (by decide) ?_
        refine lv_goto (tgt := 286) hx hb dX4_succeeds_282 (by decide) ?_
        exact hret _ _ H locs _ x dX4_succeeds_286 hP hD hS ⟨by simp only [hScrR, if_neg c_1, if_neg c_6, if_neg c_12, if_neg c_18, if_neg c_24, if_neg c_30, if_neg c_33, if_pos c_37, if_neg c_38, if_neg c_39], by simp only [hScrU, if_neg c_1, if_neg c_6, if_neg c_12, if_neg c_18, if_neg c_24, if_neg c_30, if_neg c_33, if_pos c_37, if_neg c_38, if_neg c_39]⟩
  by_cases c_40 : nI (w / 10000) = 9
  · refine lv_tableIn (off := 250) (tgt := 287) hx hb dX4_succeeds_37 (by rw [c_40]; decide) (by rw [c_40]; decide) (by rw [c_40]; rfl) (by decide) ?_
    refine lv_iload_n hx hb dX4_succeeds_287 rfl (lv_at hl 3 rfl) ?_
    refine lv_if_ne (tgt := 309) hx hb dX4_succeeds_288 (by decide) (fun c_41 => ?_) (fun c_41 => ?_)
    · have c_41 : ¬ (w / 1000) % 10 = 0 := fun q => c_41 ((nI_eq (a := (w / 1000) % 10) (b := 0) (by omega) (by omega)).mpr q)
      refine lv_iconst (v := 0) hx hb dX4_succeeds_309 (by decide) ?_
      exact hret _ _ H locs _ x dX4_succeeds_310 hP hD hS ⟨by simp only [hScrR, if_neg c_1, if_neg c_6, if_neg c_12, if_neg c_18, if_neg c_24, if_neg c_30, if_neg c_33, if_neg c_37, if_pos c_40, if_neg c_41], by simp only [hScrU, if_neg c_1, if_neg c_6, if_neg c_12, if_neg c_18, if_neg c_24, if_neg c_30, if_neg c_33, if_neg c_37, if_pos c_40, if_neg c_41]⟩
    · have c_41 : (w / 1000) % 10 = 0 := (nI_eq (a := (w / 1000) % 10) (b := 0) (by omega) (by omega)).mp c_41
      refine lv_aload_n hx hb dX4_succeeds_291 rfl (lv_at hl 4 rfl) ?_
      refine lv_bipush (v := 6) hx hb dX4_succeeds_292 (by decide) ?_
      refine rd_V (As := [.int 6]) (rest := []) hF (c_X1_number l D cy h n hn x hg 6) (cwV 1 hts gX4_succeeds_X1_number rfl rfl rfl (by decide +kernel) ⟨Nat.le_of_ble_eq_true rfl, Nat.le_of_ble_eq_true rfl⟩) hK hP 0 0 rfl rfl rfl rfl hl.1 rfl (Nat.le_of_ble_eq_true rfl) dX4_succeeds_294 ⟨Nat.le_of_ble_eq_true rfl, Nat.le_of_ble_eq_true rfl⟩ ?_
      refine lv_iload_n hx hb dX4_succeeds_297 rfl (lv_at hl 5 rfl) ?_
      refine lv_sipush (v := 1000) hx hb dX4_succeeds_298 (by decide) ?_
      refine lv_irem hx hb dX4_succeeds_301 (by decide) ?_
      refine zz_top (y := nI (w % 1000)) (pk_rem (by omega) (by decide) (by decide)) ?_
      refine lv_icmp_gt (tgt := 309) hx hb dX4_succeeds_302 (by decide) (fun c_42 => ?_) (fun c_42 => ?_)
      · have c_42 : (nI (w % 1000)) < (hNum n x 6) := c_42
        refine lv_iconst (v := 0) hx hb dX4_succeeds_309 (by decide) ?_
        exact hret _ _ H locs _ x dX4_succeeds_310 hP hD hS ⟨by simp only [hScrR, if_neg c_1, if_neg c_6, if_neg c_12, if_neg c_18, if_neg c_24, if_neg c_30, if_neg c_33, if_neg c_37, if_pos c_40, if_pos c_41, if_pos c_42], by simp only [hScrU, if_neg c_1, if_neg c_6, if_neg c_12, if_neg c_18, if_neg c_24, if_neg c_30, if_neg c_33, if_neg c_37, if_pos c_40, if_pos c_41, if_pos c_42]⟩
      · have c_42 : ¬ (nI (w % 1000)) < (hNum n x 6) := c_42
        refine lv_iconst (v := 1) hx hb dX4_succeeds_305 (by decide) ?_
        refine lv_goto (tgt := 310) hx hb dX4_succeeds_306 (by decide) ?_
        exact hret _ _ H locs _ x dX4_succeeds_310 hP hD hS ⟨by simp only [hScrR, if_neg c_1, if_neg c_6, if_neg c_12, if_neg c_18, if_neg c_24, if_neg c_30, if_neg c_33, if_neg c_37, if_pos c_40, if_pos c_41, if_neg c_42], by simp only [hScrU, if_neg c_1, if_neg c_6, if_neg c_12, if_neg c_18, if_neg c_24, if_neg c_30, if_neg c_33, if_neg c_37, if_pos c_40, if_pos c_41, if_neg c_42]⟩
  have hsw : (nI (w / 10000)).toInt < 1 ∨ 9 < (nI (w / 10000)).toInt := by
    have q0 := fun (v9 : Int32) (h : ¬ nI (w / 10000) = v9) => fun (q : (nI (w / 10000)).toInt = v9.toInt) => h (Int32.toInt_inj.mp q)
    have q_c_1 : ¬ (nI (w / 10000)).toInt = 1 := q0 1 c_1
    have q_c_6 : ¬ (nI (w / 10000)).toInt = 2 := q0 2 c_6
    have q_c_12 : ¬ (nI (w / 10000)).toInt = 3 := q0 3 c_12
    have q_c_18 : ¬ (nI (w / 10000)).toInt = 4 := q0 4 c_18
    have q_c_24 : ¬ (nI (w / 10000)).toInt = 5 := q0 5 c_24
    have q_c_30 : ¬ (nI (w / 10000)).toInt = 6 := q0 6 c_30
    have q_c_33 : ¬ (nI (w / 10000)).toInt = 7 := q0 7 c_33
    have q_c_37 : ¬ (nI (w / 10000)).toInt = 8 := q0 8 c_37
    have q_c_40 : ¬ (nI (w / 10000)).toInt = 9 := q0 9 c_40
    omega
  refine lv_tableOut (tgt := 311) hx hb dX4_succeeds_37 hsw (by decide) ?_
  refine lv_iconst (v := 0) hx hb dX4_succeeds_311 (by decide) ?_
  exact hret _ _ H locs _ x dX4_succeeds_312 hP hD hS ⟨by simp only [hScrR, if_neg c_1, if_neg c_6, if_neg c_12, if_neg c_18, if_neg c_24, if_neg c_30, if_neg c_33, if_neg c_37, if_neg c_40], by simp only [hScrU, if_neg c_1, if_neg c_6, if_neg c_12, if_neg c_18, if_neg c_24, if_neg c_30, if_neg c_33, if_neg c_37, if_neg c_40]⟩
