abbrev rm_X1_isFloor : Room := { frames := 0, cells := 0, slots := 0, locals := 0 }
set_option maxHeartbeats 4000000 in
set_option maxRecDepth 100000 in
theorem c_X1_isFloor (l : Launch) (D : va_G) (cy : Nat → ClassId) (f : Int32) : Met l yX1_isFloor wsX1_isFloor rm_X1_isFloor (rdP D cy [.int f] ([])) (QcRead (zb (okF f))) 0 0 (fun _ => False) := by
  refine Mrd (cc := cX1_isFloor) (maxL := 1) (ty := .boolean) (by decide) rfl (Nat.le_of_ble_eq_true rfl) zb_nar ?_
  intro p e s m args below meth c Q ls hF hK hP hl hret
  obtain ⟨hx, hb, hml, hown, hts⟩ := id hF
  have hown : s.vm.findClass RX1 = some m.cls := hown
  have hl : lv_has ls 1 [(0, .int f)] := hl
  refine lv_iload_n hx hb dX1_isFloor_0 rfl (lv_at hl 0 rfl) ?_
  refine lv_if_lt (tgt := 14) hx hb dX1_isFloor_1 (by decide) (fun c_1 => ?_) (fun c_1 => ?_)
  · refine lv_iconst (v := 0) hx hb dX1_isFloor_14 (by decide) ?_
    exact zz_top (zb_f (by simp only [okF, okW, isG, c_1, not_true_eq_false, not_false_eq_true, and_self, and_true, true_and, and_false, false_and])) (hret _ _ dX1_isFloor_15)
  · refine lv_iload_n hx hb dX1_isFloor_4 rfl (lv_at hl 0 rfl) ?_
    refine lv_bipush (v := 7) hx hb dX1_isFloor_5 (by decide) ?_
    refine lv_icmp_ge (tgt := 14) hx hb dX1_isFloor_7 (by decide) (fun c_2 => ?_) (fun c_2 => ?_)
    · refine lv_iconst (v := 0) hx hb dX1_isFloor_14 (by decide) ?_
      exact zz_top (zb_f (by simp only [okF, okW, isG, c_1, c_2, not_true_eq_false, not_false_eq_true, and_self, and_true, true_and, and_false, false_and])) (hret _ _ dX1_isFloor_15)
    · refine lv_iconst (v := 1) hx hb dX1_isFloor_10 (by decide) ?_
      refine lv_goto (tgt := 15) hx hb dX1_isFloor_11 (by decide) ?_
      exact zz_top (zb_t (by simp only [okF, okW, isG, c_1, c_2, not_true_eq_false, not_false_eq_true, and_self, and_true, true_and])) (hret _ _ dX1_isFloor_15)
abbrev rm_X1_isWeight : Room := { frames := 0, cells := 0, slots := 0, locals := 0 }
set_option maxHeartbeats 4000000 in
set_option maxRecDepth 100000 in
theorem c_X1_isWeight (l : Launch) (D : va_G) (cy : Nat → ClassId) (v : Int32) : Met l yX1_isWeight wsX1_isWeight rm_X1_isWeight (rdP D cy [.int v] ([])) (QcRead (zb (okW v))) 0 0 (fun _ => False) := by
  refine Mrd (cc := cX1_isWeight) (maxL := 1) (ty := .boolean) (by decide) rfl (Nat.le_of_ble_eq_true rfl) zb_nar ?_
  intro p e s m args below meth c Q ls hF hK hP hl hret
  obtain ⟨hx, hb, hml, hown, hts⟩ := id hF
  have hown : s.vm.findClass RX1 = some m.cls := hown
  have hl : lv_has ls 1 [(0, .int v)] := hl
  refine lv_iload_n hx hb dX1_isWeight_0 rfl (lv_at hl 0 rfl) ?_
  refine lv_iconst (v := 1) hx hb dX1_isWeight_1 (by decide) ?_
  refine lv_icmp_lt (tgt := 14) hx hb dX1_isWeight_2 (by decide) (fun c_1 => ?_) (fun c_1 => ?_)
  · refine lv_iconst (v := 0) hx hb dX1_isWeight_14 (by decide) ?_
    exact zz_top (zb_f (by simp only [okF, okW, isG, c_1, not_true_eq_false, not_false_eq_true, and_self, and_true, true_and, and_false, false_and])) (hret _ _ dX1_isWeight_15)
  · refine lv_iload_n hx hb dX1_isWeight_5 rfl (lv_at hl 0 rfl) ?_
    refine lv_iconst (v := 4) hx hb dX1_isWeight_6 (by decide) ?_
    refine lv_icmp_gt (tgt := 14) hx hb dX1_isWeight_7 (by decide) (fun c_2 => ?_) (fun c_2 => ?_)
    · refine lv_iconst (v := 0) hx hb dX1_isWeight_14 (by decide) ?_
      exact zz_top (zb_f (by simp only [okF, okW, isG, c_1, c_2, not_true_eq_false, not_false_eq_true, and_self, and_true, true_and, and_false, false_and])) (hret _ _ dX1_isWeight_15)
    · refine lv_iconst (v := 1) hx hb dX1_isWeight_10 (by decide) ?_
      refine lv_goto (tgt := 15) hx hb dX1_isWeight_11 (by decide) ?_
      exact zz_top (zb_t (by simp only [okF, okW, isG, c_1, c_2, not_true_eq_false, not_false_eq_true, and_self, and_true, true_and])) (hret _ _ dX1_isWeight_15)
abbrev rm_X1_isGuest : Room := { frames := 0, cells := 0, slots := 0, locals := 0 }
set_option maxHeartbeats 4000000 in
set_option maxRecDepth 100000 in
theorem c_X1_isGuest (l : Launch) (D : va_G) (cy : Nat → ClassId) (h : Nat → Nat) (n : Nat) (hn : n ≤ 4) (x : HS) (hg : x.1.1 = nI n) (g : Int32) : Met l yX1_isGuest wsX1_isGuest rm_X1_isGuest (rdP D cy [.ref (h 0), .int g] (hotelW cy h x)) (QcRead (zb (isG x.1.1 g))) 0 0 (fun _ => False) := by
  obtain ⟨⟨gu, fl, se, pr, re, go, ch⟩, ⟨sg, bu, wa, ho, we, st, gr, po, ri⟩⟩ := x
  obtain rfl : gu = nI n := hg
  refine Mrd (cc := cX1_isGuest) (maxL := 2) (ty := .boolean) (by decide) rfl (Nat.le_of_ble_eq_true rfl) zb_nar ?_
  intro p e s m args below meth c Q ls hF hK hP hl hret
  obtain ⟨hx, hb, hml, hown, hts⟩ := id hF
  have hown : s.vm.findClass RX1 = some m.cls := hown
  have hin_X1 : ∀ w ∈ u_ws RX1 TX1 16, w ∈ wsX1_isGuest := by decide +kernel
  have hl : lv_has ls 2 [(0, .ref (h 0)), (1, .int g)] := hl
  refine lv_iload_n hx hb dX1_isGuest_0 rfl (lv_at hl 1 rfl) ?_
  refine lv_if_lt (tgt := 16) hx hb dX1_isGuest_1 (by decide) (fun c_1 => ?_) (fun c_1 => ?_)
  · refine lv_iconst (v := 0) hx hb dX1_isGuest_16 (by decide) ?_
    exact zz_top (zb_f (by simp only [okF, okW, isG, c_1, not_true_eq_false, not_false_eq_true, and_self, and_true, true_and, and_false, false_and])) (hret _ _ dX1_isGuest_17)
  · refine lv_iload_n hx hb dX1_isGuest_4 rfl (lv_at hl 1 rfl) ?_
    refine lv_aload_n hx hb dX1_isGuest_5 rfl (lv_at hl 0 rfl) ?_
    refine va_get (ci := 0) (v := .int (nI n)) (C := RX1) (T := TX1) (N := 16) hx hb hts hin_X1 hown hK hP 0 rfl rfl 1 (by decide) (hts (.fieldLink RX1 49 "ButtonGuests$Hotel" "guests" "I") (by decide +kernel)) (fun _ h9 => h9) rfl dX1_isGuest_6 ?_
    refine lv_icmp_ge (tgt := 16) hx hb dX1_isGuest_9 (by decide) (fun c_2 => ?_) (fun c_2 => ?_)
    · refine lv_iconst (v := 0) hx hb dX1_isGuest_16 (by decide) ?_
      exact zz_top (zb_f (by simp only [okF, okW, isG, c_1, c_2, not_true_eq_false, not_false_eq_true, and_self, and_true, true_and, and_false, false_and])) (hret _ _ dX1_isGuest_17)
    · refine lv_iconst (v := 1) hx hb dX1_isGuest_12 (by decide) ?_
      refine lv_goto (tgt := 17) hx hb dX1_isGuest_13 (by decide) ?_
      exact zz_top (zb_t (by simp only [okF, okW, isG, c_1, c_2, not_true_eq_false, not_false_eq_true, and_self, and_true, true_and])) (hret _ _ dX1_isGuest_17)
abbrev rm_X1_isFull : Room := { frames := 0, cells := 0, slots := 0, locals := 0 }
set_option maxHeartbeats 4000000 in
set_option maxRecDepth 100000 in
theorem c_X1_isFull (l : Launch) (D : va_G) (cy : Nat → ClassId) (h : Nat → Nat) (n : Nat) (hn : n ≤ 4) (x : HS) (hg : x.1.1 = nI n) : Met l yX1_isFull wsX1_isFull rm_X1_isFull (rdP D cy [.ref (h 0)] (hotelW cy h x)) (QcRead (zb (¬ x.1.1 < 4))) 0 0 (fun _ => False) := by
  obtain ⟨⟨gu, fl, se, pr, re, go, ch⟩, ⟨sg, bu, wa, ho, we, st, gr, po, ri⟩⟩ := x
  obtain rfl : gu = nI n := hg
  refine Mrd (cc := cX1_isFull) (maxL := 1) (ty := .boolean) (by decide) rfl (Nat.le_of_ble_eq_true rfl) zb_nar ?_
  intro p e s m args below meth c Q ls hF hK hP hl hret
  obtain ⟨hx, hb, hml, hown, hts⟩ := id hF
  have hown : s.vm.findClass RX1 = some m.cls := hown
  have hin_X1 : ∀ w ∈ u_ws RX1 TX1 16, w ∈ wsX1_isFull := by decide +kernel
  have hl : lv_has ls 1 [(0, .ref (h 0))] := hl
  refine lv_aload_n hx hb dX1_isFull_0 rfl (lv_at hl 0 rfl) ?_
  refine va_get (ci := 0) (v := .int (nI n)) (C := RX1) (T := TX1) (N := 16) hx hb hts hin_X1 hown hK hP 0 rfl rfl 1 (by decide) (hts (.fieldLink RX1 49 "ButtonGuests$Hotel" "guests" "I") (by decide +kernel)) (fun _ h9 => h9) rfl dX1_isFull_1 ?_
  refine lv_iconst (v := 4) hx hb dX1_isFull_4 (by decide) ?_
  refine lv_icmp_lt (tgt := 12) hx hb dX1_isFull_5 (by decide) (fun c_1 => ?_) (fun c_1 => ?_)
  · have c_1 : n < 4 := (nI_ltI (a := n) (b := 4) (by omega) (by omega)).mp c_1
    refine lv_iconst (v := 0) hx hb dX1_isFull_12 (by decide) ?_
    exact zz_top (by simp only [zb, c_1]; decide) (hret _ _ dX1_isFull_13)
  · have c_1 : ¬ n < 4 := fun q => c_1 ((nI_ltI (a := n) (b := 4) (by omega) (by omega)).mpr q)
    refine lv_iconst (v := 1) hx hb dX1_isFull_8 (by decide) ?_
    refine lv_goto (tgt := 13) hx hb dX1_isFull_9 (by decide) ?_
    exact zz_top (by simp only [zb, c_1]; decide) (hret _ _ dX1_isFull_13)
abbrev rm_X1_guestCount : Room := { frames := 0, cells := 0, slots := 0, locals := 0 }
set_option maxHeartbeats 4000000 in
set_option maxRecDepth 100000 in
theorem c_X1_guestCount (l : Launch) (D : va_G) (cy : Nat → ClassId) (h : Nat → Nat) (n : Nat) (hn : n ≤ 4) (x : HS) (hg : x.1.1 = nI n) : Met l yX1_guestCount wsX1_guestCount rm_X1_guestCount (rdP D cy [.ref (h 0)] (hotelW cy h x)) (QcRead (x.1.1)) 0 0 (fun _ => False) := by
  obtain ⟨⟨gu, fl, se, pr, re, go, ch⟩, ⟨sg, bu, wa, ho, we, st, gr, po, ri⟩⟩ := x
  obtain rfl : gu = nI n := hg
  refine Mrd (cc := cX1_guestCount) (maxL := 1) (ty := .int) (by decide) rfl (Nat.le_of_ble_eq_true rfl) rfl ?_
  intro p e s m args below meth c Q ls hF hK hP hl hret
  obtain ⟨hx, hb, hml, hown, hts⟩ := id hF
  have hown : s.vm.findClass RX1 = some m.cls := hown
  have hin_X1 : ∀ w ∈ u_ws RX1 TX1 16, w ∈ wsX1_guestCount := by decide +kernel
  have hl : lv_has ls 1 [(0, .ref (h 0))] := hl
  refine lv_aload_n hx hb dX1_guestCount_0 rfl (lv_at hl 0 rfl) ?_
  refine va_get (ci := 0) (v := .int (nI n)) (C := RX1) (T := TX1) (N := 16) hx hb hts hin_X1 hown hK hP 0 rfl rfl 1 (by decide) (hts (.fieldLink RX1 49 "ButtonGuests$Hotel" "guests" "I") (by decide +kernel)) (fun _ h9 => h9) rfl dX1_guestCount_1 ?_
  exact hret _ _ dX1_guestCount_4
abbrev rm_X1_guestsIn : Room := { frames := 0, cells := 0, slots := 0, locals := 0 }
set_option maxHeartbeats 4000000 in
set_option maxRecDepth 100000 in
theorem c_X1_guestsIn (l : Launch) (D : va_G) (cy : Nat → ClassId) (h : Nat → Nat) (n : Nat) (hn : n ≤ 4) (x : HS) (hg : x.1.1 = nI n) (v : Int32) : Met l yX1_guestsIn wsX1_guestsIn rm_X1_guestsIn (rdP D cy [.ref (h 0), .int v] (hotelW cy h x)) (QcRead (hGI n x v)) 0 0 (fun _ => False) := by
  obtain ⟨⟨gu, fl, se, pr, re, go, ch⟩, ⟨sg, bu, wa, ho, we, st, gr, po, ri⟩⟩ := x
  obtain rfl : gu = nI n := hg
  refine Mrd (cc := cX1_guestsIn) (maxL := 4) (ty := .int) (by decide) rfl (Nat.le_of_ble_eq_true rfl) rfl ?_
  intro p e s m args below meth c Q ls hF hK hP hl hret
  obtain ⟨hx, hb, hml, hown, hts⟩ := id hF
  have hown : s.vm.findClass RX1 = some m.cls := hown
  have hin_X1 : ∀ w ∈ u_ws RX1 TX1 16, w ∈ wsX1_guestsIn := by decide +kernel
  have hl : lv_has ls 4 [(0, .ref (h 0)), (1, .int v)] := hl
  refine lv_iconst (v := 0) hx hb dX1_guestsIn_0 (by decide) ?_
  refine lv_istore_n (lv' := [(2, .int 0), (0, .ref (h 0)), (1, .int v)]) hx hb dX1_guestsIn_1 rfl hl (by decide) rfl (fun ls hl => ?_)
  refine lv_iconst (v := 0) hx hb dX1_guestsIn_2 (by decide) ?_
  refine lv_istore_n (lv' := [(3, .int 0), (2, .int 0), (0, .ref (h 0)), (1, .int v)]) hx hb dX1_guestsIn_3 rfl hl (by decide) rfl (fun ls hl => ?_)
  have loop : ∀ (k i : Nat) (a : Int32), i ≤ n → n + 1 ≤ i + k → lpN (sGI st v) (n - i) i a = lpN (sGI st v) n 0 0 → ∀ (ls : Array Slot), lv_has ls 4 [(3, .int (nI i)), (2, .int a), (0, .ref (h 0)), (1, .int v)] → W p l e rm_X1_guestsIn s m args below meth c s.heap [] 0 0 Q (F0 m 4 ls []) := by
    intro k
    induction k with
    | zero =>
      intro i a hi hk hv
      exact absurd hk (by omega)
    | succ k ih =>
      intro i a hi hk hv ls hl
      refine lv_iload_n hx hb dX1_guestsIn_4 rfl (lv_at hl 0 rfl) ?_
      refine lv_aload_n hx hb dX1_guestsIn_5 rfl (lv_at hl 2 rfl) ?_
      refine va_get (ci := 0) (v := .int (nI n)) (C := RX1) (T := TX1) (N := 16) hx hb hts hin_X1 hown hK hP 0 rfl rfl 1 (by decide) (hts (.fieldLink RX1 49 "ButtonGuests$Hotel" "guests" "I") (by decide +kernel)) (fun _ h9 => h9) rfl dX1_guestsIn_6 ?_
      refine lv_icmp_ge (tgt := 31) hx hb dX1_guestsIn_9 (by decide) (fun c_1 => ?_) (fun c_1 => ?_)
      · have c_1 : n ≤ i := (nI_leI (a := n) (b := i) (by omega) (by omega)).mp c_1
        refine lv_iload_n hx hb dX1_guestsIn_31 rfl (lv_at hl 1 rfl) ?_
        exact zz_top (lpN_end c_1 hv) (hret _ _ dX1_guestsIn_32)
      · have c_1 : ¬ n ≤ i := fun q => c_1 ((nI_leI (a := n) (b := i) (by omega) (by omega)).mpr q)
        refine lv_aload_n hx hb dX1_guestsIn_12 rfl (lv_at hl 2 rfl) ?_
        refine va_get (ci := 0) (v := .ref (h 6)) (C := RX1) (T := TX1) (N := 16) hx hb hts hin_X1 hown hK hP 0 rfl rfl 12 (by decide) (hts (.fieldLink RX1 27 "ButtonGuests$Hotel" "state" "[I") (by decide +kernel)) (fun _ h9 => h9) rfl dX1_guestsIn_13 ?_
        refine lv_iload_n hx hb dX1_guestsIn_16 rfl (lv_at hl 0 rfl) ?_
        refine zz_iald hx hb hK hP 6 0 i rfl rfl rfl ⟨by omega, Nat.le_of_ble_eq_true rfl⟩ dX1_guestsIn_17 ?_
        refine lv_iload_n hx hb dX1_guestsIn_18 rfl (lv_at hl 3 rfl) ?_
        refine lv_icmp_ne (tgt := 25) hx hb dX1_guestsIn_19 (by decide) (fun c_2 => ?_) (fun c_2 => ?_)
        · refine lv_iinc (v := nI (i + 1)) (lv' := [(3, .int (nI (i + 1))), (2, .int a), (0, .ref (h 0)), (1, .int v)]) hx hb dX1_guestsIn_25 hl (k := 0) rfl (nI_add (i) 1) (by decide) rfl (fun ls hl => ?_)
          refine lv_goto (tgt := 4) hx hb dX1_guestsIn_28 (by decide) ?_
          exact ih (i + 1) _ (by omega) (by omega) (lpN_next (by omega) hv (by simp only [sGI, if_neg c_1, if_neg c_2])) _ (lv_sub hl [0, 1, 2, 3] rfl)
        · refine lv_iinc (v := a + 1) (lv' := [(2, .int (a + 1)), (3, .int (nI i)), (0, .ref (h 0)), (1, .int v)]) hx hb dX1_guestsIn_22 hl (k := 1) rfl rfl (by decide) rfl (fun ls hl => ?_)
          refine lv_iinc (v := nI (i + 1)) (lv' := [(3, .int (nI (i + 1))), (2, .int (a + 1)), (0, .ref (h 0)), (1, .int v)]) hx hb dX1_guestsIn_25 hl (k := 1) rfl (nI_add (i) 1) (by decide) rfl (fun ls hl => ?_)
          refine lv_goto (tgt := 4) hx hb dX1_guestsIn_28 (by decide) ?_
          exact ih (i + 1) _ (by omega) (by omega) (lpN_next (by omega) hv (by simp only [sGI, if_neg c_1, if_pos c_2])) _ (lv_sub hl [0, 1, 2, 3] rfl)
  exact loop (n + 1) 0 _ (Nat.zero_le _) (by omega) rfl _ (lv_sub hl [0, 1, 2, 3] rfl)
abbrev rm_X1_weightOfRiders : Room := { frames := 0, cells := 0, slots := 0, locals := 0 }
set_option maxHeartbeats 4000000 in
set_option maxRecDepth 100000 in
theorem c_X1_weightOfRiders (l : Launch) (D : va_G) (cy : Nat → ClassId) (h : Nat → Nat) (n : Nat) (hn : n ≤ 4) (x : HS) (hg : x.1.1 = nI n) : Met l yX1_weightOfRiders wsX1_weightOfRiders rm_X1_weightOfRiders (rdP D cy [.ref (h 0)] (hotelW cy h x)) (QcRead (hWR n x)) 0 0 (fun _ => False) := by
  obtain ⟨⟨gu, fl, se, pr, re, go, ch⟩, ⟨sg, bu, wa, ho, we, st, gr, po, ri⟩⟩ := x
  obtain rfl : gu = nI n := hg
  refine Mrd (cc := cX1_weightOfRiders) (maxL := 3) (ty := .int) (by decide) rfl (Nat.le_of_ble_eq_true rfl) rfl ?_
  intro p e s m args below meth c Q ls hF hK hP hl hret
  obtain ⟨hx, hb, hml, hown, hts⟩ := id hF
  have hown : s.vm.findClass RX1 = some m.cls := hown
  have hin_X1 : ∀ w ∈ u_ws RX1 TX1 16, w ∈ wsX1_weightOfRiders := by decide +kernel
  have hl : lv_has ls 3 [(0, .ref (h 0))] := hl
  refine lv_iconst (v := 0) hx hb dX1_weightOfRiders_0 (by decide) ?_
  refine lv_istore_n (lv' := [(1, .int 0), (0, .ref (h 0))]) hx hb dX1_weightOfRiders_1 rfl hl (by decide) rfl (fun ls hl => ?_)
  refine lv_iconst (v := 0) hx hb dX1_weightOfRiders_2 (by decide) ?_
  refine lv_istore_n (lv' := [(2, .int 0), (1, .int 0), (0, .ref (h 0))]) hx hb dX1_weightOfRiders_3 rfl hl (by decide) rfl (fun ls hl => ?_)
  have loop : ∀ (k i : Nat) (a : Int32), i ≤ n → n + 1 ≤ i + k → lpN (sWR st we) (n - i) i a = lpN (sWR st we) n 0 0 → ∀ (ls : Array Slot), lv_has ls 3 [(2, .int (nI i)), (1, .int a), (0, .ref (h 0))] → W p l e rm_X1_weightOfRiders s m args below meth c s.heap [] 0 0 Q (F0 m 4 ls []) := by
    intro k
    induction k with
    | zero =>
      intro i a hi hk hv
      exact absurd hk (by omega)
    | succ k ih =>
      intro i a hi hk hv ls hl
      refine lv_iload_n hx hb dX1_weightOfRiders_4 rfl (lv_at hl 0 rfl) ?_
      refine lv_aload_n hx hb dX1_weightOfRiders_5 rfl (lv_at hl 2 rfl) ?_
      refine va_get (ci := 0) (v := .int (nI n)) (C := RX1) (T := TX1) (N := 16) hx hb hts hin_X1 hown hK hP 0 rfl rfl 1 (by decide) (hts (.fieldLink RX1 49 "ButtonGuests$Hotel" "guests" "I") (by decide +kernel)) (fun _ h9 => h9) rfl dX1_weightOfRiders_6 ?_
      refine lv_icmp_ge (tgt := 37) hx hb dX1_weightOfRiders_9 (by decide) (fun c_1 => ?_) (fun c_1 => ?_)
      · have c_1 : n ≤ i := (nI_leI (a := n) (b := i) (by omega) (by omega)).mp c_1
        refine lv_iload_n hx hb dX1_weightOfRiders_37 rfl (lv_at hl 1 rfl) ?_
        exact zz_top (lpN_end c_1 hv) (hret _ _ dX1_weightOfRiders_38)
      · have c_1 : ¬ n ≤ i := fun q => c_1 ((nI_leI (a := n) (b := i) (by omega) (by omega)).mpr q)
        refine lv_aload_n hx hb dX1_weightOfRiders_12 rfl (lv_at hl 2 rfl) ?_
        refine va_get (ci := 0) (v := .ref (h 6)) (C := RX1) (T := TX1) (N := 16) hx hb hts hin_X1 hown hK hP 0 rfl rfl 12 (by decide) (hts (.fieldLink RX1 27 "ButtonGuests$Hotel" "state" "[I") (by decide +kernel)) (fun _ h9 => h9) rfl dX1_weightOfRiders_13 ?_
        refine lv_iload_n hx hb dX1_weightOfRiders_16 rfl (lv_at hl 0 rfl) ?_
        refine zz_iald hx hb hK hP 6 0 i rfl rfl rfl ⟨by omega, Nat.le_of_ble_eq_true rfl⟩ dX1_weightOfRiders_17 ?_
        refine lv_iconst (v := 1) hx hb dX1_weightOfRiders_18 (by decide) ?_
        refine lv_icmp_ne (tgt := 31) hx hb dX1_weightOfRiders_19 (by decide) (fun c_2 => ?_) (fun c_2 => ?_)
        · refine lv_iinc (v := nI (i + 1)) (lv' := [(2, .int (nI (i + 1))), (1, .int a), (0, .ref (h 0))]) hx hb dX1_weightOfRiders_31 hl (k := 0) rfl (nI_add (i) 1) (by decide) rfl (fun ls hl => ?_)
          refine lv_goto (tgt := 4) hx hb dX1_weightOfRiders_34 (by decide) ?_
          exact ih (i + 1) _ (by omega) (by omega) (lpN_next (by omega) hv (by simp only [sWR, if_neg c_1, if_neg c_2])) _ (lv_sub hl [0, 1, 2] rfl)
        · refine lv_iload_n hx hb dX1_weightOfRiders_22 rfl (lv_at hl 1 rfl) ?_
          refine lv_aload_n hx hb dX1_weightOfRiders_23 rfl (lv_at hl 2 rfl) ?_
          refine va_get (ci := 0) (v := .ref (h 5)) (C := RX1) (T := TX1) (N := 16) hx hb hts hin_X1 hown hK hP 0 rfl rfl 11 (by decide) (hts (.fieldLink RX1 24 "ButtonGuests$Hotel" "weight" "[I") (by decide +kernel)) (fun _ h9 => h9) rfl dX1_weightOfRiders_24 ?_
          refine lv_iload_n hx hb dX1_weightOfRiders_27 rfl (lv_at hl 0 rfl) ?_
          refine zz_iald hx hb hK hP 5 0 i rfl rfl rfl ⟨by omega, Nat.le_of_ble_eq_true rfl⟩ dX1_weightOfRiders_28 ?_
          refine lv_iadd hx hb dX1_weightOfRiders_29 ?_
          refine lv_istore_n (lv' := [(1, .int (a + (we i))), (2, .int (nI i)), (0, .ref (h 0))]) hx hb dX1_weightOfRiders_30 rfl hl (by decide) rfl (fun ls hl => ?_)
          refine lv_iinc (v := nI (i + 1)) (lv' := [(2, .int (nI (i + 1))), (1, .int (a + (we i))), (0, .ref (h 0))]) hx hb dX1_weightOfRiders_31 hl (k := 1) rfl (nI_add (i) 1) (by decide) rfl (fun ls hl => ?_)
          refine lv_goto (tgt := 4) hx hb dX1_weightOfRiders_34 (by decide) ?_
          exact ih (i + 1) _ (by omega) (by omega) (lpN_next (by omega) hv (by simp only [sWR, if_neg c_1, if_pos c_2])) _ (lv_sub hl [0, 1, 2] rfl)
  exact loop (n + 1) 0 _ (Nat.zero_le _) (by omega) rfl _ (lv_sub hl [0, 1, 2] rfl)
abbrev rm_X1_allGrudges : Room := { frames := 0, cells := 0, slots := 0, locals := 0 }
set_option maxHeartbeats 4000000 in
set_option maxRecDepth 100000 in
theorem c_X1_allGrudges (l : Launch) (D : va_G) (cy : Nat → ClassId) (h : Nat → Nat) (n : Nat) (hn : n ≤ 4) (x : HS) (hg : x.1.1 = nI n) : Met l yX1_allGrudges wsX1_allGrudges rm_X1_allGrudges (rdP D cy [.ref (h 0)] (hotelW cy h x)) (QcRead (hAG n x)) 0 0 (fun _ => False) := by
  obtain ⟨⟨gu, fl, se, pr, re, go, ch⟩, ⟨sg, bu, wa, ho, we, st, gr, po, ri⟩⟩ := x
  obtain rfl : gu = nI n := hg
  refine Mrd (cc := cX1_allGrudges) (maxL := 3) (ty := .int) (by decide) rfl (Nat.le_of_ble_eq_true rfl) rfl ?_
  intro p e s m args below meth c Q ls hF hK hP hl hret
  obtain ⟨hx, hb, hml, hown, hts⟩ := id hF
  have hown : s.vm.findClass RX1 = some m.cls := hown
  have hin_X1 : ∀ w ∈ u_ws RX1 TX1 16, w ∈ wsX1_allGrudges := by decide +kernel
  have hl : lv_has ls 3 [(0, .ref (h 0))] := hl
  refine lv_iconst (v := 0) hx hb dX1_allGrudges_0 (by decide) ?_
  refine lv_istore_n (lv' := [(1, .int 0), (0, .ref (h 0))]) hx hb dX1_allGrudges_1 rfl hl (by decide) rfl (fun ls hl => ?_)
  refine lv_iconst (v := 0) hx hb dX1_allGrudges_2 (by decide) ?_
  refine lv_istore_n (lv' := [(2, .int 0), (1, .int 0), (0, .ref (h 0))]) hx hb dX1_allGrudges_3 rfl hl (by decide) rfl (fun ls hl => ?_)
  have loop : ∀ (k i : Nat) (a : Int32), i ≤ n → n + 1 ≤ i + k → lpN (sAG gr) (n - i) i a = lpN (sAG gr) n 0 0 → ∀ (ls : Array Slot), lv_has ls 3 [(2, .int (nI i)), (1, .int a), (0, .ref (h 0))] → W p l e rm_X1_allGrudges s m args below meth c s.heap [] 0 0 Q (F0 m 4 ls []) := by
    intro k
    induction k with
    | zero =>
      intro i a hi hk hv
      exact absurd hk (by omega)
    | succ k ih =>
      intro i a hi hk hv ls hl
      refine lv_iload_n hx hb dX1_allGrudges_4 rfl (lv_at hl 0 rfl) ?_
      refine lv_aload_n hx hb dX1_allGrudges_5 rfl (lv_at hl 2 rfl) ?_
      refine va_get (ci := 0) (v := .int (nI n)) (C := RX1) (T := TX1) (N := 16) hx hb hts hin_X1 hown hK hP 0 rfl rfl 1 (by decide) (hts (.fieldLink RX1 49 "ButtonGuests$Hotel" "guests" "I") (by decide +kernel)) (fun _ h9 => h9) rfl dX1_allGrudges_6 ?_
      refine lv_icmp_ge (tgt := 27) hx hb dX1_allGrudges_9 (by decide) (fun c_1 => ?_) (fun c_1 => ?_)
      · have c_1 : n ≤ i := (nI_leI (a := n) (b := i) (by omega) (by omega)).mp c_1
        refine lv_iload_n hx hb dX1_allGrudges_27 rfl (lv_at hl 1 rfl) ?_
        exact zz_top (lpN_end c_1 hv) (hret _ _ dX1_allGrudges_28)
      · have c_1 : ¬ n ≤ i := fun q => c_1 ((nI_leI (a := n) (b := i) (by omega) (by omega)).mpr q)
        refine lv_iload_n hx hb dX1_allGrudges_12 rfl (lv_at hl 1 rfl) ?_
        refine lv_aload_n hx hb dX1_allGrudges_13 rfl (lv_at hl 2 rfl) ?_
        refine va_get (ci := 0) (v := .ref (h 7)) (C := RX1) (T := TX1) (N := 16) hx hb hts hin_X1 hown hK hP 0 rfl rfl 13 (by decide) (hts (.fieldLink RX1 30 "ButtonGuests$Hotel" "grudges" "[I") (by decide +kernel)) (fun _ h9 => h9) rfl dX1_allGrudges_14 ?_
        refine lv_iload_n hx hb dX1_allGrudges_17 rfl (lv_at hl 0 rfl) ?_
        refine zz_iald hx hb hK hP 7 0 i rfl rfl rfl ⟨by omega, Nat.le_of_ble_eq_true rfl⟩ dX1_allGrudges_18 ?_
        refine lv_iadd hx hb dX1_allGrudges_19 ?_
        refine lv_istore_n (lv' := [(1, .int (a + (gr i))), (2, .int (nI i)), (0, .ref (h 0))]) hx hb dX1_allGrudges_20 rfl hl (by decide) rfl (fun ls hl => ?_)
        refine lv_iinc (v := nI (i + 1)) (lv' := [(2, .int (nI (i + 1))), (1, .int (a + (gr i))), (0, .ref (h 0))]) hx hb dX1_allGrudges_21 hl (k := 1) rfl (nI_add (i) 1) (by decide) rfl (fun ls hl => ?_)
        refine lv_goto (tgt := 4) hx hb dX1_allGrudges_24 (by decide) ?_
        exact ih (i + 1) _ (by omega) (by omega) (lpN_next (by omega) hv (by simp only [sAG, if_neg c_1])) _ (lv_sub hl [0, 1, 2] rfl)
  exact loop (n + 1) 0 _ (Nat.zero_le _) (by omega) rfl _ (lv_sub hl [0, 1, 2] rfl)
abbrev rm_X1_belongsTo : Room := { frames := 0, cells := 0, slots := 0, locals := 0 }
set_option maxHeartbeats 4000000 in
set_option maxRecDepth 100000 in
theorem c_X1_belongsTo (l : Launch) (D : va_G) (cy : Nat → ClassId) (h : Nat → Nat) (n : Nat) (hn : n ≤ 4) (x : HS) (hg : x.1.1 = nI n) (j : Nat) (hj : j < n) (f v : Int32) : Met l yX1_belongsTo wsX1_belongsTo rm_X1_belongsTo (rdP D cy [.ref (h 0), .int (nI j), .int f, .int v] (hotelW cy h x)) (QcRead (vBel x.2.2.2.2.2.2.1 x.2.2.2.1 x.2.2.2.2.1 x.2.2.1 j f v)) 0 0 (fun _ => False) := by
  obtain ⟨⟨gu, fl, se, pr, re, go, ch⟩, ⟨sg, bu, wa, ho, we, st, gr, po, ri⟩⟩ := x
  obtain rfl : gu = nI n := hg
  refine Mrd (cc := cX1_belongsTo) (maxL := 4) (ty := .boolean) (by decide) rfl (Nat.le_of_ble_eq_true rfl) vBel_nar ?_
  intro p e s m args below meth c Q ls hF hK hP hl hret
  obtain ⟨hx, hb, hml, hown, hts⟩ := id hF
  have hown : s.vm.findClass RX1 = some m.cls := hown
  have hin_X1 : ∀ w ∈ u_ws RX1 TX1 16, w ∈ wsX1_belongsTo := by decide +kernel
  have hl : lv_has ls 4 [(0, .ref (h 0)), (1, .int (nI j)), (2, .int f), (3, .int v)] := hl
  refine lv_iload_n hx hb dX1_belongsTo_0 rfl (lv_at hl 1 rfl) ?_
  refine lv_if_lt (tgt := 12) hx hb dX1_belongsTo_1 (by decide) (fun c_1 => ?_) (fun c_1 => ?_)
  · exact absurd c_1 (nI_pos (by omega))
  · have c_1 : ¬ j < 0 := fun q => c_1 ((nI_ltI (a := j) (b := 0) (by omega) (by omega)).mpr q)
    refine lv_iload_n hx hb dX1_belongsTo_4 rfl (lv_at hl 1 rfl) ?_
    refine lv_aload_n hx hb dX1_belongsTo_5 rfl (lv_at hl 0 rfl) ?_
    refine va_get (ci := 0) (v := .int (nI n)) (C := RX1) (T := TX1) (N := 16) hx hb hts hin_X1 hown hK hP 0 rfl rfl 1 (by decide) (hts (.fieldLink RX1 49 "ButtonGuests$Hotel" "guests" "I") (by decide +kernel)) (fun _ h9 => h9) rfl dX1_belongsTo_6 ?_
    refine lv_icmp_lt (tgt := 14) hx hb dX1_belongsTo_9 (by decide) (fun c_2 => ?_) (fun c_2 => ?_)
    · have c_2 : j < n := (nI_ltI (a := j) (b := n) (by omega) (by omega)).mp c_2
      refine lv_iload_n hx hb dX1_belongsTo_14 rfl (lv_at hl 3 rfl) ?_
      by_cases c_3 : v = 0
      · refine lv_lookup (off := 25) (tgt := 40) hx hb dX1_belongsTo_15 (by decide) (by rw [c_3]; rfl) (by decide) ?_
        refine lv_aload_n hx hb dX1_belongsTo_40 rfl (lv_at hl 0 rfl) ?_
        refine va_get (ci := 0) (v := .ref (h 6)) (C := RX1) (T := TX1) (N := 16) hx hb hts hin_X1 hown hK hP 0 rfl rfl 12 (by decide) (hts (.fieldLink RX1 27 "ButtonGuests$Hotel" "state" "[I") (by decide +kernel)) (fun _ h9 => h9) rfl dX1_belongsTo_41 ?_
        refine lv_iload_n hx hb dX1_belongsTo_44 rfl (lv_at hl 1 rfl) ?_
        refine zz_iald hx hb hK hP 6 0 j rfl rfl rfl ⟨by omega, Nat.le_of_ble_eq_true rfl⟩ dX1_belongsTo_45 ?_
        refine lv_if_ne (tgt := 63) hx hb dX1_belongsTo_46 (by decide) (fun c_4 => ?_) (fun c_4 => ?_)
        · refine lv_iconst (v := 0) hx hb dX1_belongsTo_63 (by decide) ?_
          exact zz_top (by simp only [vBel, zb, c_1, c_2, c_3, c_4, and_self, and_true, true_and, and_false, false_and, if_true, if_false]) (hret _ _ dX1_belongsTo_64)
        · refine lv_aload_n hx hb dX1_belongsTo_49 rfl (lv_at hl 0 rfl) ?_
          refine va_get (ci := 0) (v := .ref (h 3)) (C := RX1) (T := TX1) (N := 16) hx hb hts hin_X1 hown hK hP 0 rfl rfl 9 (by decide) (hts (.fieldLink RX1 18 "ButtonGuests$Hotel" "waitingFloor" "[I") (by decide +kernel)) (fun _ h9 => h9) rfl dX1_belongsTo_50 ?_
          refine lv_iload_n hx hb dX1_belongsTo_53 rfl (lv_at hl 1 rfl) ?_
          refine zz_iald hx hb hK hP 3 0 j rfl rfl rfl ⟨by omega, Nat.le_of_ble_eq_true rfl⟩ dX1_belongsTo_54 ?_
          refine lv_iload_n hx hb dX1_belongsTo_55 rfl (lv_at hl 2 rfl) ?_
          refine lv_icmp_ne (tgt := 63) hx hb dX1_belongsTo_56 (by decide) (fun c_5 => ?_) (fun c_5 => ?_)
          · refine lv_iconst (v := 0) hx hb dX1_belongsTo_63 (by decide) ?_
            exact zz_top (by simp only [vBel, zb, c_1, c_2, c_3, c_4, c_5, and_self, and_true, true_and, and_false, false_and, if_true, if_false]) (hret _ _ dX1_belongsTo_64)
          · refine lv_iconst (v := 1) hx hb dX1_belongsTo_59 (by decide) ?_
            refine lv_goto (tgt := 64) hx hb dX1_belongsTo_60 (by decide) ?_
            exact zz_top (by simp only [vBel, zb, c_1, c_2, c_3, c_4, c_5, and_self, and_true, true_and, and_false, false_and, if_true, if_false]) (hret _ _ dX1_belongsTo_64)
      by_cases c_6 : v = 1
      · refine lv_lookup (off := 50) (tgt := 65) hx hb dX1_belongsTo_15 (by decide) (by rw [c_6]; rfl) (by decide) ?_
        refine lv_aload_n hx hb dX1_belongsTo_65 rfl (lv_at hl 0 rfl) ?_
        refine va_get (ci := 0) (v := .ref (h 6)) (C := RX1) (T := TX1) (N := 16) hx hb hts hin_X1 hown hK hP 0 rfl rfl 12 (by decide) (hts (.fieldLink RX1 27 "ButtonGuests$Hotel" "state" "[I") (by decide +kernel)) (fun _ h9 => h9) rfl dX1_belongsTo_66 ?_
        refine lv_iload_n hx hb dX1_belongsTo_69 rfl (lv_at hl 1 rfl) ?_
        refine zz_iald hx hb hK hP 6 0 j rfl rfl rfl ⟨by omega, Nat.le_of_ble_eq_true rfl⟩ dX1_belongsTo_70 ?_
        refine lv_iconst (v := 2) hx hb dX1_belongsTo_71 (by decide) ?_
        refine lv_icmp_ne (tgt := 89) hx hb dX1_belongsTo_72 (by decide) (fun c_7 => ?_) (fun c_7 => ?_)
        · refine lv_iconst (v := 0) hx hb dX1_belongsTo_89 (by decide) ?_
          exact zz_top (by simp only [vBel, zb, c_1, c_2, c_3, c_6, c_7, and_self, and_true, true_and, and_false, false_and, if_true, if_false]) (hret _ _ dX1_belongsTo_90)
        · refine lv_aload_n hx hb dX1_belongsTo_75 rfl (lv_at hl 0 rfl) ?_
          refine va_get (ci := 0) (v := .ref (h 4)) (C := RX1) (T := TX1) (N := 16) hx hb hts hin_X1 hown hK hP 0 rfl rfl 10 (by decide) (hts (.fieldLink RX1 21 "ButtonGuests$Hotel" "home" "[I") (by decide +kernel)) (fun _ h9 => h9) rfl dX1_belongsTo_76 ?_
          refine lv_iload_n hx hb dX1_belongsTo_79 rfl (lv_at hl 1 rfl) ?_
          refine zz_iald hx hb hK hP 4 0 j rfl rfl rfl ⟨by omega, Nat.le_of_ble_eq_true rfl⟩ dX1_belongsTo_80 ?_
          refine lv_iload_n hx hb dX1_belongsTo_81 rfl (lv_at hl 2 rfl) ?_
          refine lv_icmp_ne (tgt := 89) hx hb dX1_belongsTo_82 (by decide) (fun c_8 => ?_) (fun c_8 => ?_)
          · refine lv_iconst (v := 0) hx hb dX1_belongsTo_89 (by decide) ?_
            exact zz_top (by simp only [vBel, zb, c_1, c_2, c_3, c_6, c_7, c_8, and_self, and_true, true_and, and_false, false_and, if_true, if_false]) (hret _ _ dX1_belongsTo_90)
          · refine lv_iconst (v := 1) hx hb dX1_belongsTo_85 (by decide) ?_
            refine lv_goto (tgt := 90) hx hb dX1_belongsTo_86 (by decide) ?_
            exact zz_top (by simp only [vBel, zb, c_1, c_2, c_3, c_6, c_7, c_8, and_self, and_true, true_and, and_false, false_and, if_true, if_false]) (hret _ _ dX1_belongsTo_90)
      refine lv_lookup (off := 76) (tgt := 91) hx hb dX1_belongsTo_15 (by decide) ((lv_osw c_3 rfl).trans ((lv_osw c_6 rfl).trans (rfl))) (by decide) ?_
      refine lv_aload_n hx hb dX1_belongsTo_91 rfl (lv_at hl 0 rfl) ?_
      refine va_get (ci := 0) (v := .ref (h 2)) (C := RX1) (T := TX1) (N := 16) hx hb hts hin_X1 hown hK hP 0 rfl rfl 8 (by decide) (hts (.fieldLink RX1 15 "ButtonGuests$Hotel" "button" "[I") (by decide +kernel)) (fun _ h9 => h9) rfl dX1_belongsTo_92 ?_
      refine lv_iload_n hx hb dX1_belongsTo_95 rfl (lv_at hl 1 rfl) ?_
      refine zz_iald hx hb hK hP 2 0 j rfl rfl rfl ⟨by omega, Nat.le_of_ble_eq_true rfl⟩ dX1_belongsTo_96 ?_
      refine lv_iload_n hx hb dX1_belongsTo_97 rfl (lv_at hl 2 rfl) ?_
      refine lv_icmp_ne (tgt := 105) hx hb dX1_belongsTo_98 (by decide) (fun c_9 => ?_) (fun c_9 => ?_)
      · refine lv_iconst (v := 0) hx hb dX1_belongsTo_105 (by decide) ?_
        exact zz_top (by simp only [vBel, zb, c_1, c_2, c_3, c_6, c_9, and_self, and_true, true_and, and_false, false_and, if_true, if_false]) (hret _ _ dX1_belongsTo_106)
      · refine lv_iconst (v := 1) hx hb dX1_belongsTo_101 (by decide) ?_
        refine lv_goto (tgt := 106) hx hb dX1_belongsTo_102 (by decide) ?_
        exact zz_top (by simp only [vBel, zb, c_1, c_2, c_3, c_6, c_9, and_self, and_true, true_and, and_false, false_and, if_true, if_false]) (hret _ _ dX1_belongsTo_106)
    · exact absurd (nI_lt hj (by omega)) c_2
abbrev rm_X1_floorSet : Room := { frames := 1, cells := 0, slots := 0, locals := 23 }
set_option maxHeartbeats 4000000 in
set_option maxRecDepth 100000 in
theorem c_X1_floorSet (l : Launch) (D : va_G) (cy : Nat → ClassId) (h : Nat → Nat) (n : Nat) (hn : n ≤ 4) (x : HS) (hg : x.1.1 = nI n) (f v : Int32) : Met l yX1_floorSet wsX1_floorSet rm_X1_floorSet (rdP D cy [.ref (h 0), .int f, .int v] (hotelW cy h x)) (QcRead (hFS n x f v)) 0 0 (fun _ => False) := by
  obtain ⟨⟨gu, fl, se, pr, re, go, ch⟩, ⟨sg, bu, wa, ho, we, st, gr, po, ri⟩⟩ := x
  obtain rfl : gu = nI n := hg
  refine Mrd (cc := cX1_floorSet) (maxL := 5) (ty := .int) (by decide) rfl (Nat.le_of_ble_eq_true rfl) rfl ?_
  intro p e s m args below meth c Q ls hF hK hP hl hret
  obtain ⟨hx, hb, hml, hown, hts⟩ := id hF
  have hown : s.vm.findClass RX1 = some m.cls := hown
  have hin_X1 : ∀ w ∈ u_ws RX1 TX1 16, w ∈ wsX1_floorSet := by decide +kernel
  have hl : lv_has ls 5 [(0, .ref (h 0)), (1, .int f), (2, .int v)] := hl
  refine lv_iconst (v := 0) hx hb dX1_floorSet_0 (by decide) ?_
  refine lv_istore_n (lv' := [(3, .int 0), (0, .ref (h 0)), (1, .int f), (2, .int v)]) hx hb dX1_floorSet_1 rfl hl (by decide) rfl (fun ls hl => ?_)
  refine lv_iconst (v := 0) hx hb dX1_floorSet_2 (by decide) ?_
  refine lv_istore (lv' := [(4, .int 0), (3, .int 0), (0, .ref (h 0)), (1, .int f), (2, .int v)]) hx hb dX1_floorSet_3 hl (by decide) rfl (fun ls hl => ?_)
  have loop : ∀ (k i : Nat) (a : Int32), i ≤ n → n + 1 ≤ i + k → lpN (sFS st wa ho bu f v) (n - i) i a = lpN (sFS st wa ho bu f v) n 0 0 → ∀ (ls : Array Slot), lv_has ls 5 [(4, .int (nI i)), (3, .int a), (0, .ref (h 0)), (1, .int f), (2, .int v)] → W p l e rm_X1_floorSet s m args below meth c s.heap [] 0 0 Q (F0 m 5 ls []) := by
    intro k
    induction k with
    | zero =>
      intro i a hi hk hv
      exact absurd hk (by omega)
    | succ k ih =>
      intro i a hi hk hv ls hl
      refine lv_iload hx hb dX1_floorSet_5 (lv_at hl 0 rfl) ?_
      refine lv_aload_n hx hb dX1_floorSet_7 rfl (lv_at hl 2 rfl) ?_
      refine va_get (ci := 0) (v := .int (nI n)) (C := RX1) (T := TX1) (N := 16) hx hb hts hin_X1 hown hK hP 0 rfl rfl 1 (by decide) (hts (.fieldLink RX1 49 "ButtonGuests$Hotel" "guests" "I") (by decide +kernel)) (fun _ h9 => h9) rfl dX1_floorSet_8 ?_
      refine lv_icmp_ge (tgt := 38) hx hb dX1_floorSet_11 (by decide) (fun c_1 => ?_) (fun c_1 => ?_)
      · have c_1 : n ≤ i := (nI_leI (a := n) (b := i) (by omega) (by omega)).mp c_1
        refine lv_iload_n hx hb dX1_floorSet_38 rfl (lv_at hl 1 rfl) ?_
        exact zz_top (lpN_end c_1 hv) (hret _ _ dX1_floorSet_39)
      · have c_1 : ¬ n ≤ i := fun q => c_1 ((nI_leI (a := n) (b := i) (by omega) (by omega)).mpr q)
        refine lv_aload_n hx hb dX1_floorSet_14 rfl (lv_at hl 2 rfl) ?_
        refine lv_iload hx hb dX1_floorSet_15 (lv_at hl 0 rfl) ?_
        refine lv_iload_n hx hb dX1_floorSet_17 rfl (lv_at hl 3 rfl) ?_
        refine lv_iload_n hx hb dX1_floorSet_18 rfl (lv_at hl 4 rfl) ?_
        refine rd_V (As := [.int (nI i), .int f, .int v]) (rest := []) hF (c_X1_belongsTo l D cy h n hn ((nI n, fl, se, pr, re, go, ch), (sg, bu, wa, ho, we, st, gr, po, ri)) rfl i (by omega) f v) (cwV 3 hts gX1_floorSet_X1_belongsTo rfl rfl rfl (by decide +kernel) ⟨Nat.le_of_ble_eq_true rfl, Nat.le_of_ble_eq_true rfl⟩) hK hP 0 0 rfl rfl rfl rfl hl.1 rfl (Nat.le_of_ble_eq_true rfl) dX1_floorSet_19 ⟨Nat.le_of_ble_eq_true rfl, Nat.le_of_ble_eq_true rfl⟩ ?_
        refine lv_if_eq (tgt := 32) hx hb dX1_floorSet_22 (by decide) (fun c_2 => ?_) (fun c_2 => ?_)
        · refine lv_iinc (v := nI (i + 1)) (lv' := [(4, .int (nI (i + 1))), (3, .int a), (0, .ref (h 0)), (1, .int f), (2, .int v)]) hx hb dX1_floorSet_32 hl (k := 0) rfl (nI_add (i) 1) (by decide) rfl (fun ls hl => ?_)
          refine lv_goto (tgt := 5) hx hb dX1_floorSet_35 (by decide) ?_
          exact ih (i + 1) _ (by omega) (by omega) (lpN_next (by omega) hv (by simp only [sFS, if_neg c_1, if_pos c_2])) _ (lv_sub hl [0, 1, 2, 3, 4] rfl)
        · refine lv_iload_n hx hb dX1_floorSet_25 rfl (lv_at hl 1 rfl) ?_
          refine lv_iconst (v := 1) hx hb dX1_floorSet_26 (by decide) ?_
          refine lv_iload hx hb dX1_floorSet_27 (lv_at hl 0 rfl) ?_
          refine lv_ishl hx hb dX1_floorSet_29 ?_
          refine lv_ior hx hb dX1_floorSet_30 ?_
          refine lv_istore_n (lv' := [(3, .int (a ||| (1 <<< ((nI i) &&& 31)))), (4, .int (nI i)), (0, .ref (h 0)), (1, .int f), (2, .int v)]) hx hb dX1_floorSet_31 rfl hl (by decide) rfl (fun ls hl => ?_)
          refine lv_iinc (v := nI (i + 1)) (lv' := [(4, .int (nI (i + 1))), (3, .int (a ||| (1 <<< ((nI i) &&& 31)))), (0, .ref (h 0)), (1, .int f), (2, .int v)]) hx hb dX1_floorSet_32 hl (k := 1) rfl (nI_add (i) 1) (by decide) rfl (fun ls hl => ?_)
          refine lv_goto (tgt := 5) hx hb dX1_floorSet_35 (by decide) ?_
          exact ih (i + 1) _ (by omega) (by omega) (lpN_next (by omega) hv (by simp only [sFS, if_neg c_1, if_neg c_2])) _ (lv_sub hl [0, 1, 2, 3, 4] rfl)
  exact loop (n + 1) 0 _ (Nat.zero_le _) (by omega) rfl _ (lv_sub hl [0, 1, 2, 3, 4] rfl)
abbrev rm_X1_whereIs : Room := { frames := 1, cells := 0, slots := 0, locals := 21 }
set_option maxHeartbeats 4000000 in
set_option maxRecDepth 100000 in
theorem c_X1_whereIs (l : Launch) (D : va_G) (cy : Nat → ClassId) (h : Nat → Nat) (n : Nat) (hn : n ≤ 4) (x : HS) (hg : x.1.1 = nI n) (g : Int32) : Met l yX1_whereIs wsX1_whereIs rm_X1_whereIs (rdP D cy [.ref (h 0), .int g] (hotelW cy h x)) (QcRead (hWhereG x g)) 0 0 (fun _ => False) := by
  obtain ⟨⟨gu, fl, se, pr, re, go, ch⟩, ⟨sg, bu, wa, ho, we, st, gr, po, ri⟩⟩ := x
  obtain rfl : gu = nI n := hg
  refine Mrd (cc := cX1_whereIs) (maxL := 2) (ty := .int) (by decide) rfl (Nat.le_of_ble_eq_true rfl) rfl ?_
  intro p e s m args below meth c Q ls hF hK hP hl hret
  obtain ⟨hx, hb, hml, hown, hts⟩ := id hF
  have hown : s.vm.findClass RX1 = some m.cls := hown
  have hin_X1 : ∀ w ∈ u_ws RX1 TX1 16, w ∈ wsX1_whereIs := by decide +kernel
  have hl : lv_has ls 2 [(0, .ref (h 0)), (1, .int g)] := hl
  refine lv_aload_n hx hb dX1_whereIs_0 rfl (lv_at hl 0 rfl) ?_
  refine lv_iload_n hx hb dX1_whereIs_1 rfl (lv_at hl 1 rfl) ?_
  refine rd_V (As := [.int g]) (rest := []) hF (c_X1_isGuest l D cy h n hn ((nI n, fl, se, pr, re, go, ch), (sg, bu, wa, ho, we, st, gr, po, ri)) rfl g) (cwV 1 hts gX1_whereIs_X1_isGuest rfl rfl rfl (by decide +kernel) ⟨Nat.le_of_ble_eq_true rfl, Nat.le_of_ble_eq_true rfl⟩) hK hP 0 0 rfl rfl rfl rfl hl.1 rfl (Nat.le_of_ble_eq_true rfl) dX1_whereIs_2 ⟨Nat.le_of_ble_eq_true rfl, Nat.le_of_ble_eq_true rfl⟩ ?_
  refine lv_if_ne (tgt := 10) hx hb dX1_whereIs_5 (by decide) (fun c_1 => ?_) (fun c_1 => ?_)
  · have c_1 := zb_ne.mp c_1
    obtain ⟨jg, hjg, rfl⟩ := isG_of hn c_1
    refine lv_aload_n hx hb dX1_whereIs_10 rfl (lv_at hl 0 rfl) ?_
    refine va_get (ci := 0) (v := .ref (h 6)) (C := RX1) (T := TX1) (N := 16) hx hb hts hin_X1 hown hK hP 0 rfl rfl 12 (by decide) (hts (.fieldLink RX1 27 "ButtonGuests$Hotel" "state" "[I") (by decide +kernel)) (fun _ h9 => h9) rfl dX1_whereIs_11 ?_
    refine lv_iload_n hx hb dX1_whereIs_14 rfl (lv_at hl 1 rfl) ?_
    refine zz_iald hx hb hK hP 6 0 jg rfl rfl rfl ⟨by omega, Nat.le_of_ble_eq_true rfl⟩ dX1_whereIs_15 ?_
    refine lv_iconst (v := 1) hx hb dX1_whereIs_16 (by decide) ?_
    refine lv_icmp_ne (tgt := 25) hx hb dX1_whereIs_17 (by decide) (fun c_2 => ?_) (fun c_2 => ?_)
    · refine lv_aload_n hx hb dX1_whereIs_25 rfl (lv_at hl 0 rfl) ?_
      refine va_get (ci := 0) (v := .ref (h 6)) (C := RX1) (T := TX1) (N := 16) hx hb hts hin_X1 hown hK hP 0 rfl rfl 12 (by decide) (hts (.fieldLink RX1 27 "ButtonGuests$Hotel" "state" "[I") (by decide +kernel)) (fun _ h9 => h9) rfl dX1_whereIs_26 ?_
      refine lv_iload_n hx hb dX1_whereIs_29 rfl (lv_at hl 1 rfl) ?_
      refine zz_iald hx hb hK hP 6 0 jg rfl rfl rfl ⟨by omega, Nat.le_of_ble_eq_true rfl⟩ dX1_whereIs_30 ?_
      refine lv_iconst (v := 2) hx hb dX1_whereIs_31 (by decide) ?_
      refine lv_icmp_ne (tgt := 44) hx hb dX1_whereIs_32 (by decide) (fun c_3 => ?_) (fun c_3 => ?_)
      · refine lv_aload_n hx hb dX1_whereIs_44 rfl (lv_at hl 0 rfl) ?_
        refine va_get (ci := 0) (v := .ref (h 3)) (C := RX1) (T := TX1) (N := 16) hx hb hts hin_X1 hown hK hP 0 rfl rfl 9 (by decide) (hts (.fieldLink RX1 18 "ButtonGuests$Hotel" "waitingFloor" "[I") (by decide +kernel)) (fun _ h9 => h9) rfl dX1_whereIs_45 ?_
        refine lv_iload_n hx hb dX1_whereIs_48 rfl (lv_at hl 1 rfl) ?_
        refine zz_iald hx hb hK hP 3 0 jg rfl rfl rfl ⟨by omega, Nat.le_of_ble_eq_true rfl⟩ dX1_whereIs_49 ?_
        exact zz_top (by simp only [hWhereG, hWhere, if_pos c_1, if_neg c_2, if_neg c_3, nI_clamp (show jg < 2 ^ 31 by omega)]) (hret _ _ dX1_whereIs_50)
      · refine lv_aload_n hx hb dX1_whereIs_35 rfl (lv_at hl 0 rfl) ?_
        refine va_get (ci := 0) (v := .ref (h 4)) (C := RX1) (T := TX1) (N := 16) hx hb hts hin_X1 hown hK hP 0 rfl rfl 10 (by decide) (hts (.fieldLink RX1 21 "ButtonGuests$Hotel" "home" "[I") (by decide +kernel)) (fun _ h9 => h9) rfl dX1_whereIs_36 ?_
        refine lv_iload_n hx hb dX1_whereIs_39 rfl (lv_at hl 1 rfl) ?_
        refine zz_iald hx hb hK hP 4 0 jg rfl rfl rfl ⟨by omega, Nat.le_of_ble_eq_true rfl⟩ dX1_whereIs_40 ?_
        refine lv_goto (tgt := 50) hx hb dX1_whereIs_41 (by decide) ?_
        exact zz_top (by simp only [hWhereG, hWhere, if_pos c_1, if_neg c_2, if_pos c_3, nI_clamp (show jg < 2 ^ 31 by omega)]) (hret _ _ dX1_whereIs_50)
    · refine lv_aload_n hx hb dX1_whereIs_20 rfl (lv_at hl 0 rfl) ?_
      refine va_get (ci := 0) (v := .int fl) (C := RX1) (T := TX1) (N := 16) hx hb hts hin_X1 hown hK hP 0 rfl rfl 2 (by decide) (hts (.fieldLink RX1 53 "ButtonGuests$Hotel" "floor" "I") (by decide +kernel)) (fun _ h9 => h9) rfl dX1_whereIs_21 ?_
      exact zz_top (by simp only [hWhereG, hWhere, if_pos c_1, if_pos c_2, nI_clamp (show jg < 2 ^ 31 by omega)]) (hret _ _ dX1_whereIs_24)
  · have c_1 := zb_eq.mp c_1
    refine lv_iconst (v := (-1)) hx hb dX1_whereIs_8 (by decide) ?_
    exact zz_top (by simp only [hWhereG, hWhere, if_neg c_1]) (hret _ _ dX1_whereIs_9)
