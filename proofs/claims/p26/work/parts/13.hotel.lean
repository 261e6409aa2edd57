abbrev rm_X1_isFloor : Room := { frames := 0, cells := 0, slots := 0, locals := 0 }
set_option maxHeartbeats 4000000 in
set_option maxRecDepth 100000 in
theorem c_X1_isFloor (l : Launch) (D : va_G) (cy : Nat → ClassId) (f : Int32) : Met l yX1_isFloor wsX1_isFloor rm_X1_isFloor (rdP D cy [.int f] ([])) (QcRead (zb (okF f))) 0 0 (fun _ => False) := by
  refine Mrd (cc := cX1_isFloor) (maxL := 1) (ty := .boolean) (by decide) rfl (Nat.le_of_ble_eq_true rfl) zb_nar ?_
  intro p e s m args below meth c Q ls hF hK hP hl hret
  obtain ⟨hx, hb, hml, hown, hts⟩ := id hF
  have hown : s.vm.findClass RX1 = some m.cls := hown
  have hl : lv_has ls 1 [(0, .int f)] := hl
  refine lv_iload_n hx hb dX1_isFloor_0 rfl (lv_at hl 0 rfl) ?_
  refine lv_if_lt (tgt := 14) hx hb dX1_isFloor_1 (by decide) (fun c_1 => ?_) (fun c_1 => ?_)
  · have c_1 : f < 0 := c_1
    refine lv_iconst (v := 0) hx hb dX1_isFloor_14 (by decide) ?_
    exact zz_top (zb_f (by simp only [okF, okW, isG, c_1, not_true_eq_false, not_false_eq_true, and_self, and_true, true_and, and_false, false_and])) (hret _ _ dX1_isFloor_15)
  · have c_1 : ¬ f < 0 := c_1
    refine lv_iload_n hx hb dX1_isFloor_4 rfl (lv_at hl 0 rfl) ?_
    refine lv_bipush (v := 7) hx hb dX1_isFloor_5 (by decide) ?_
    refine lv_icmp_ge (tgt := 14) hx hb dX1_isFloor_7 (by decide) (fun c_2 => ?_) (fun c_2 => ?_)
    · have c_2 : 7 ≤ f := c_2
      refine lv_iconst (v := 0) hx hb dX1_isFloor_14 (by decide) ?_
      exact zz_top (zb_f (by simp only [okF, okW, isG, c_1, c_2, not_true_eq_false, not_false_eq_true, and_self, and_true, true_and, and_false, false_and])) (hret _ _ dX1_isFloor_15)
    · have c_2 : ¬ 7 ≤ f := c_2
      refine lv_iconst (v := 1) hx hb dX1_isFloor_10 (by decide) ?_
      refine lv_goto (tgt := 15) hx hb dX1_isFloor_11 (by decide) ?_
      exact zz_top (zb_t (by simp only [okF, okW, isG, c_1, c_2, not_true_eq_false, not_false_eq_true, and_self, and_true, true_and])) (hret _ _ dX1_isFloor_15)
abbrev rm_X1_isWeight : Room := { frames := 0, cells := 0, slots := 0, locals := 0 }
set_option maxHeartbeats 4000000 in
set_option maxRecDepth 100000 in
theorem c_X1_isWeight (l : Launch) (D : va_G) (cy : Nat → ClassId) (v : Int32) : Met l yX1_isWeight wsX1_isWeight rm_X1_isWeight (rdP D cy [.int v] ([])) (QcRead (zb (okW v))) 0 0 (fun _ => False) := by
  refine Mrd (cc := cX1_isWeight) (maxL := 1) (ty := .boolean) (by decide) rfl (Nat.le_of_ble_eq_true rfl) zb_nar ?_
  intro p e s m args below meth c Q ls hF hK hP hl hret
  obtain ⟨hx, hb, hml, hown, hts⟩ := id hF
  have hown : s.vm.findClass RX1 = some m.cls := hown
  have hl : lv_has ls 1 [(0, .int v)] := hl
  refine lv_iload_n hx hb dX1_isWeight_0 rfl (lv_at hl 0 rfl) ?_
  refine lv_iconst (v := 1) hx hb dX1_isWeight_1 (by decide) ?_
  refine lv_icmp_lt (tgt := 14) hx hb dX1_isWeight_2 (by decide) (fun c_1 => ?_) (fun c_1 => ?_)
  · have c_1 : v < 1 := c_1
    refine lv_iconst (v := 0) hx hb dX1_isWeight_14 (by decide) ?_
    exact zz_top (zb_f (by simp only [okF, okW, isG, c_1, not_true_eq_false, not_false_eq_true, and_self, and_true, true_and, and_false, false_and])) (hret _ _ dX1_isWeight_15)
  · have c_1 : ¬ v < 1 := c_1
    refine lv_iload_n hx hb dX1_isWeight_5 rfl (lv_at hl 0 rfl) ?_
    refine lv_iconst (v := 4) hx hb dX1_isWeight_6 (by decide) ?_
    refine lv_icmp_gt (tgt := 14) hx hb dX1_isWeight_7 (by decide) (fun c_2 => ?_) (fun c_2 => ?_)
    · have c_2 : 4 < v := c_2
      refine lv_iconst (v := 0) hx hb dX1_isWeight_14 (by decide) ?_
      exact zz_top (zb_f (by simp only [okF, okW, isG, c_1, c_2, not_true_eq_false, not_false_eq_true, and_self, and_true, true_and, and_false, false_and])) (hret _ _ dX1_isWeight_15)
    · have c_2 : ¬ 4 < v := c_2
      refine lv_iconst (v := 1) hx hb dX1_isWeight_10 (by decide) ?_
      refine lv_goto (tgt := 15) hx hb dX1_isWeight_11 (by decide) ?_
      exact zz_top (zb_t (by simp only [okF, okW, isG, c_1, c_2, not_true_eq_false, not_false_eq_true, and_self, and_true, true_and])) (hret _ _ dX1_isWeight_15)
abbrev rm_X1_isGuest : Room := { frames := 0, cells := 0, slots := 0, locals := 0 }
set_option maxHeartbeats 4000000 in
set_option maxRecDepth 100000 in
theorem c_X1_isGuest (l : Launch) (D : va_G) (cy : Nat → ClassId) (h : Nat → Nat) (n : Nat) (hn : n ≤ 4) (x : HS) (hg : x.1.1 = nI n) (g : Int32) : Met l yX1_isGuest wsX1_isGuest rm_X1_isGuest (rdP D cy [.ref (h 0), .int g] (hotelW cy h x)) (QcRead (zb (isG x.1.1 g))) 0 0 (fun _ => False) := by
  obtain ⟨⟨gu, fl, se, pr, re, go, ch⟩, ⟨sg, bu, wa, ho, we, st, gr, po, ri⟩⟩ := x
  obtain rfl : gu = nI n := hg
  refine Mrd (cc := cX1_isGuest) (maxL := 2) (ty := .boolean) (by decide) rfl (Nat.le_of_ble_eq_true rfl) zb_nar ?_
  intro p e s m args below meth c Q ls hF hK hP hl hret
  obtain ⟨hx, hb, hml, hown, hts⟩ := id hF
  have hown : s.vm.findClass RX1 = some m.cls := hown
  have hin_X1 : ∀ w ∈ u_ws RX1 TX1 16, w ∈ wsX1_isGuest := by decide +kernel
  have hl : lv_has ls 2 [(0, .ref (h 0)), (1, .int g)] := hl
  refine lv_iload_n hx hb dX1_isGuest_0 rfl (lv_at hl 1 rfl) ?_
  refine lv_if_lt (tgt := 16) hx hb dX1_isGuest_1 (by decide) (fun c_1 => ?_) (fun c_1 => ?_)
  · have c_1 : g < 0 := c_1
    refine lv_iconst (v := 0) hx hb dX1_isGuest_16 (by decide) ?_
    exact zz_top (zb_f (by simp only [okF, okW, isG, c_1, not_true_eq_false, not_false_eq_true, and_self, and_true, true_and, and_false, false_and])) (hret _ _ dX1_isGuest_17)
  · have c_1 : ¬ g < 0 := c_1
    refine lv_iload_n hx hb dX1_isGuest_4 rfl (lv_at hl 1 rfl) ?_
    refine lv_aload_n hx hb dX1_isGuest_5 rfl (lv_at hl 0 rfl) ?_
    refine va_get (ci := 0) (v := .int (nI n)) (C := RX1) (T := TX1) (N := 16) hx hb hts hin_X1 hown hK hP 0 rfl rfl 1 (by decide) (hts (.fieldLink RX1 49 "ButtonGuests$Hotel" "guests" "I") (by decide +kernel)) (fun _ h9 => h9) rfl dX1_isGuest_6 ?_
    refine lv_icmp_ge (tgt := 16) hx hb dX1_isGuest_9 (by decide) (fun c_2 => ?_) (fun c_2 => ?_)
    · have c_2 : (nI n) ≤ g := c_2
      refine lv_iconst (v := 0) hx hb dX1_isGuest_16 (by decide) ?_
      exact zz_top (zb_f (by simp only [okF, okW, isG, c_1, c_2, not_true_eq_false, not_false_eq_true, and_self, and_true, true_and, and_false, false_and])) (hret _ _ dX1_isGuest_17)
    · have c_2 : ¬ (nI n) ≤ g := c_2
      refine lv_iconst (v := 1) hx hb dX1_isGuest_12 (by decide) ?_
      refine lv_goto (tgt := 17) hx hb dX1_isGuest_13 (by decide) ?_
      exact zz_top (zb_t (by simp only [okF, okW, isG, c_1, c_2, not_true_eq_false, not_false_eq_true, and_self, and_true, true_and])) (hret _ _ dX1_isGuest_17)
abbrev rm_X1_isFull : Room := { frames := 0, cells := 0, slots := 0, locals := 0 }
set_option maxHeartbeats 4000000 in
set_option maxRecDepth 100000 in
theorem c_X1_isFull (l : Launch) (D : va_G) (cy : Nat → ClassId) (h : Nat → Nat) (n : Nat) (hn : n ≤ 4) (x : HS) (hg : x.1.1 = nI n) : Met l yX1_isFull wsX1_isFull rm_X1_isFull (rdP D cy [.ref (h 0)] (hotelW cy h x)) (QcRead (zb (¬ x.1.1 < 4))) 0 0 (fun _ => False) := by
  obtain ⟨⟨gu, fl, se, pr, re, go, ch⟩, ⟨sg, bu, wa, ho, we, st, gr, po, ri⟩⟩ := x
  obtain rfl : gu = nI n := hg
  refine Mrd (cc := cX1_isFull) (maxL := 1) (ty := .boolean) (by decide) rfl (Nat.le_of_ble_eq_true rfl) zb_nar ?_
  intro p e s m args below meth c Q ls hF hK hP hl hret
  obtain ⟨hx, hb, hml, hown, hts⟩ := id hF
  have hown : s.vm.findClass RX1 = some m.cls := hown
  have hin_X1 : ∀ w ∈ u_ws RX1 TX1 16, w ∈ wsX1_isFull := by decide +kernel
  have hl : lv_has ls 1 [(0, .ref (h 0))] := hl
  refine lv_aload_n hx hb dX1_isFull_0 rfl (lv_at hl 0 rfl) ?_
  refine va_get (ci := 0) (v := .int (nI n)) (C := RX1) (T := TX1) (N := 16) hx hb hts hin_X1 hown hK hP 0 rfl rfl 1 (by decide) (hts (.fieldLink RX1 49 "ButtonGuests$Hotel" "guests" "I") (by decide +kernel)) (fun _ h9 => h9) rfl dX1_isFull_1 ?_
  refine lv_iconst (v := 4) hx hb dX1_isFull_4 (by decide) ?_
  refine lv_icmp_lt (tgt := 12) hx hb dX1_isFull_5 (by decide) (fun c_1 => ?_) (fun c_1 => ?_)
  · have c_1 : n < 4 := (nI_ltI (a := n) (b := 4) (by omega) (by omega)).mp c_1
    refine lv_iconst (v := 0) hx hb dX1_isFull_12 (by decide) ?_
    exact zz_top (zb_f (P := ¬ nI n < 4) (fun q => q (nI_lt (b := 4) c_1 (by decide)))) (hret _ _ dX1_isFull_13)
  · have c_1 : ¬ n < 4 := fun q => c_1 ((nI_ltI (a := n) (b := 4) (by omega) (by omega)).mpr q)
    refine lv_iconst (v := 1) hx hb dX1_isFull_8 (by decide) ?_
    refine lv_goto (tgt := 13) hx hb dX1_isFull_9 (by decide) ?_
    exact zz_top (zb_t (P := ¬ nI n < 4) (fun q => c_1 ((nI_ltI (a := n) (b := 4) (by omega) (by omega)).mp q))) (hret _ _ dX1_isFull_13)
abbrev rm_X1_guestCount : Room := { frames := 0, cells := 0, slots := 0, locals := 0 }
set_option maxHeartbeats 4000000 in
set_option maxRecDepth 100000 in
theorem c_X1_guestCount (l : Launch) (D : va_G) (cy : Nat → ClassId) (h : Nat → Nat) (n : Nat) (hn : n ≤ 4) (x : HS) (hg : x.1.1 = nI n) : Met l yX1_guestCount wsX1_guestCount rm_X1_guestCount (rdP D cy [.ref (h 0)] (hotelW cy h x)) (QcRead (x.1.1)) 0 0 (fun _ => False) := by
  obtain ⟨⟨gu, fl, se, pr, re, go, ch⟩, ⟨sg, bu, wa, ho, we, st, gr, po, ri⟩⟩ := x
  obtain rfl : gu = nI n := hg
  refine Mrd (cc := cX1_guestCount) (maxL := 1) (ty := .int) (by decide) rfl (Nat.le_of_ble_eq_true rfl) rfl ?_
  intro p e s m args below meth c Q ls hF hK hP hl hret
  obtain ⟨hx, hb, hml, hown, hts⟩ := id hF
  have hown : s.vm.findClass RX1 = some m.cls := hown
  have hin_X1 : ∀ w ∈ u_ws RX1 TX1 16, w ∈ wsX1_guestCount := by decide +kernel
  have hl : lv_has ls 1 [(0, .ref (h 0))] := hl
  refine lv_aload_n hx hb dX1_guestCount_0 rfl (lv_at hl 0 rfl) ?_
  refine va_get (ci := 0) (v := .int (nI n)) (C := RX1) (T := TX1) (N := 16) hx hb hts hin_X1 hown hK hP 0 rfl rfl 1 (by decide) (hts (.fieldLink RX1 49 "ButtonGuests$Hotel" "guests" "I") (by decide +kernel)) (fun _ h9 => h9) rfl dX1_guestCount_1 ?_
  exact hret _ _ dX1_guestCount_4
abbrev rm_X1_guestsIn : Room := { frames := 0, cells := 0, slots := 0, locals := 0 }
set_option maxHeartbeats 4000000 in
set_option maxRecDepth 100000 in
theorem c_X1_guestsIn (l : Launch) (D : va_G) (cy : Nat → ClassId) (h : Nat → Nat) (n : Nat) (hn : n ≤ 4) (x : HS) (hg : x.1.1 = nI n) (v : Int32) : Met l yX1_guestsIn wsX1_guestsIn rm_X1_guestsIn (rdP D cy [.ref (h 0), .int v] (hotelW cy h x)) (QcRead (hGI n x v)) 0 0 (fun _ => False) := by
  obtain ⟨⟨gu, fl, se, pr, re, go, ch⟩, ⟨sg, bu, wa, ho, we, st, gr, po, ri⟩⟩ := x
  obtain rfl : gu = nI n := hg
  refine Mrd (cc := cX1_guestsIn) (maxL := 4) (ty := .int) (by decide) rfl (Nat.le_of_ble_eq_true rfl) rfl ?_
  intro p e s m args below meth c Q ls hF hK hP hl hret
  obtain ⟨hx, hb, hml, hown, hts⟩ := id hF
  have hown : s.vm.findClass RX1 = some m.cls := hown
  have hin_X1 : ∀ w ∈ u_ws RX1 TX1 16, w ∈ wsX1_guestsIn := by decide +kernel
  have hl : lv_has ls 4 [(0, .ref (h 0)), (1, .int v)] := hl
  refine lv_iconst (v := 0) hx hb dX1_guestsIn_0 (by decide) ?_
  refine lv_istore_n (lv' := [(2, .int 0), (0, .ref (h 0)), (1, .int v)]) hx hb dX1_guestsIn_1 rfl hl (by decide) rfl (fun ls hl => ?_)
  refine lv_iconst (v := 0) hx hb dX1_guestsIn_2 (by decide) ?_
  refine lv_istore_n (lv' := [(3, .int 0), (2, .int 0), (0, .ref (h 0)), (1, .int v)]) hx hb dX1_guestsIn_3 rfl hl (by decide) rfl (fun ls hl => ?_)
  have loop : ∀ (k i : Nat) (a : Int32), i ≤ n → n + 1 ≤ i + k → lpN (sGI st v) (n - i) i a = lpN (sGI st v) n 0 0 → ∀ (ls : Array Slot), lv_has ls 4 [(3, .int (nI i)), (2, .int a), (0, .ref (h 0)), (1, .int v)] → W p l e rm_X1_guestsIn s m args below meth c s.heap [] 0 0 Q (F0 m 4 ls []) := by
    intro k
    induction k with
    | zero =>
      intro i a hi hk hv
      exact absurd hk (by omega)
    | succ k ih =>
      intro i a hi hk hv ls hl
      refine lv_iload_n hx hb dX1_guestsIn_4 rfl (lv_at hl 0 rfl) ?_
      refine lv_aload_n hx hb dX1_guestsIn_5 rfl (lv_at hl 2 rfl) ?_
      refine va_get (ci := 0) (v := .int (nI n)) (C := RX1) (T := TX1) (N := 16) hx hb hts hin_X1 hown hK hP 0 rfl rfl 1 (by decide) (hts (.fieldLink RX1 49 "ButtonGuests$Hotel" "guests" "I") (by decide +kernel)) (fun _ h9 => h9) rfl dX1_guestsIn_6 ?_
      refine lv_icmp_ge (tgt := 31) hx hb dX1_guestsIn_9 (by decide) (fun c_1 => ?_) (fun c_1 => ?_)
      · have c_1 : n ≤ i := (nI_leI (a := n) (b := i) (by omega) (by omega)).mp c_1
        refine lv_iload_n hx hb dX1_guestsIn_31 rfl (lv_at hl 1 rfl) ?_
        exact zz_top (lpN_end c_1 hv) (hret _ _ dX1_guestsIn_32)
      · have c_1 : ¬ n ≤ i := fun q => c_1 ((nI_leI (a := n) (b := i) (by omega) (by omega)).mpr q)
        refine lv_aload_n hx hb dX1_guestsIn_12 rfl (lv_at hl 2 rfl) ?_
        refine va_get (ci := 0) (v := .ref (h 6)) (C := RX1) (T := TX1) (N := 16) hx hb hts hin_X1 hown hK hP 0 rfl rfl 12 (by decide) (hts (.fieldLink RX1 27 "ButtonGuests$Hotel" "state" "[I") (by decide +kernel)) (fun _ h9 => h9) rfl dX1_guestsIn_13 ?_
        refine lv_iload_n hx hb dX1_guestsIn_16 rfl (lv_at hl 0 rfl) ?_
        refine zz_iald hx hb hK hP 6 0 i rfl rfl rfl ⟨by omega, Nat.le_of_ble_eq_true rfl⟩ dX1_guestsIn_17 ?_
        refine lv_iload_n hx hb dX1_guestsIn_18 rfl (lv_at hl 3 rfl) ?_
        refine lv_icmp_ne (tgt := 25) hx hb dX1_guestsIn_19 (by decide) (fun c_2 => ?_) (fun c_2 => ?_)
        · have c_2 : ¬ (st i) = v := c_2
          refine lv_iinc (v := nI (i + 1)) (lv' := [(3, .int (nI (i + 1))), (2, .int a), (0, .ref (h 0)), (1, .int v)]) hx hb dX1_guestsIn_25 hl (k := 0) rfl (nI_add (i) 1) (by decide) rfl (fun ls hl => ?_)
          refine lv_goto (tgt := 4) hx hb dX1_guestsIn_28 (by decide) ?_
          exact ih (i + 1) _ (by omega) (by omega) (lpN_next (by omega) hv (by simp only [sGI, if_neg c_1, if_neg c_2])) _ (lv_sub hl [0, 1, 2, 3] rfl)
        · have c_2 : (st i) = v := c_2
          refine lv_iinc (v := a + 1) (lv' := [(2, .int (a + 1)), (3, .int (nI i)), (0, .ref (h 0)), (1, .int v)]) hx hb dX1_guestsIn_22 hl (k := 1) rfl rfl (by decide) rfl (fun ls hl => ?_)
          refine lv_iinc (v := nI (i + 1)) (lv' := [(3, .int (nI (i + 1))), (2, .int (a + 1)), (0, .ref (h 0)), (1, .int v)]) hx hb dX1_guestsIn_25 hl (k := 1) rfl (nI_add (i) 1) (by decide) rfl (fun ls hl => ?_)
          refine lv_goto (tgt := 4) hx hb dX1_guestsIn_28 (by decide) ?_
          exact ih (i + 1) _ (by omega) (by omega) (lpN_next (by omega) hv (by simp only [sGI, if_neg c_1, if_pos c_2])) _ (lv_sub hl [0, 1, 2, 3] rfl)
  exact loop (n + 1) 0 _ (Nat.zero_le _) (by omega) rfl _ (lv_sub hl [0, 1, 2, 3] rfl)
abbrev rm_X1_weightOfRiders : Room := { frames := 0, cells := 0, slots := 0, locals := 0 }
set_option maxHeartbeats 4000000 in
set_option maxRecDepth 100000 in
theorem c_X1_weightOfRiders (l : Launch) (D : va_G) (cy : Nat → ClassId) (h : Nat → Nat) (n : Nat) (hn : n ≤ 4) (x : HS) (hg : x.1.1 = nI n) : Met l yX1_weightOfRiders wsX1_weightOfRiders rm_X1_weightOfRiders (rdP D cy [.ref (h 0)] (hotelW cy h x)) (QcRead (hWR n x)) 0 0 (fun _ => False) := by
  obtain ⟨⟨gu, fl, se, pr, re, go, ch⟩, ⟨sg, bu, wa, ho, we, st, gr, po, ri⟩⟩ := x
  obtain rfl : gu = nI n := hg
  refine Mrd (cc := cX1_weightOfRiders) (maxL := 3) (ty := .int) (by decide) rfl (Nat.le_of_ble_eq_true rfl) rfl ?_
  intro p e s m args below meth c Q ls hF hK hP hl hret
  obtain ⟨hx, hb, hml, hown, hts⟩ := id hF
  have hown : s.vm.findClass RX1 = some m.cls := hown
  have hin_X1 : ∀ w ∈ u_ws RX1 TX1 16, w ∈ wsX1_weightOfRiders := by decide +kernel
  have hl : lv_has ls 3 [(0, .ref (h 0))] := hl
  refine lv_iconst (v := 0) hx hb dX1_weightOfRiders_0 (by decide) ?_
  refine lv_istore_n (lv' := [(1, .int 0), (0, .ref (h 0))]) hx hb dX1_weightOfRiders_1 rfl hl (by decide) rfl (fun ls hl => ?_)
  refine lv_iconst (v := 0) hx hb dX1_weightOfRiders_2 (by decide) ?_
  refine lv_istore_n (lv' := [(2, .int 0), (1, .int 0), (0, .ref (h 0))]) hx hb dX1_weightOfRiders_3 rfl hl (by decide) rfl (fun ls hl => ?_)
  have loop : ∀ (k i : Nat) (a : Int32), i ≤ n → n + 1 ≤ i + k → lpN (sWR st we) (n - i) i a = lpN (sWR st we) n 0 0 → ∀ (ls : Array Slot), lv_has ls 3 [(2, .int (nI i)), (1, .int a), (0, .ref (h 0))] → W p l e rm_X1_weightOfRiders s m args below meth c s.heap [] 0 0 Q (F0 m 4 ls []) := by
    intro k
    induction k with
    | zero =>
      intro i a hi hk hv
      exact absurd hk (by omega)
    | succ k ih =>
      intro i a hi hk hv ls hl
      refine lv_iload_n hx hb dX1_weightOfRiders_4 rfl (lv_at hl 0 rfl) ?_
      refine lv_aload_n hx hb dX1_weightOfRiders_5 rfl (lv_at hl 2 rfl) ?_
      refine va_get (ci := 0) (v := .int (nI n)) (C := RX1) (T := TX1) (N := 16) hx hb hts hin_X1 hown hK hP 0 rfl rfl 1 (by decide) (hts (.fieldLink RX1 49 "ButtonGuests$Hotel" "guests" "I") (by decide +kernel)) (fun _ h9 => h9) rfl dX1_weightOfRiders_6 ?_
      refine lv_icmp_ge (tgt := 37) hx hb dX1_weightOfRiders_9 (by decide) (fun c_1 => ?_) (fun c_1 => ?_)
      · have c_1 : n ≤ i := (nI_leI (a := n) (b := i) (by omega) (by omega)).mp c_1
        refine lv_iload_n hx hb dX1_weightOfRiders_37 rfl (lv_at hl 1 rfl) ?_
        exact zz_top (lpN_end c_1 hv) (hret _ _ dX1_weightOfRiders_38)
      · have c_1 : ¬ n ≤ i := fun q => c_1 ((nI_leI (a := n) (b := i) (by omega) (by omega)).mpr q)
        refine lv_aload_n hx hb dX1_weightOfRiders_12 rfl (lv_at hl 2 rfl) ?_
        refine va_get (ci := 0) (v := .ref (h 6)) (C := RX1) (T := TX1) (N := 16) hx hb hts hin_X1 hown hK hP 0 rfl rfl 12 (by decide) (hts (.fieldLink RX1 27 "ButtonGuests$Hotel" "state" "[I") (by decide +kernel)) (fun _ h9 => h9) rfl dX1_weightOfRiders_13 ?_
        refine lv_iload_n hx hb dX1_weightOfRiders_16 rfl (lv_at hl 0 rfl) ?_
        refine zz_iald hx hb hK hP 6 0 i rfl rfl rfl ⟨by omega, Nat.le_of_ble_eq_true rfl⟩ dX1_weightOfRiders_17 ?_
        refine lv_iconst (v := 1) hx hb dX1_weightOfRiders_18 (by decide) ?_
        refine lv_icmp_ne (tgt := 31) hx hb dX1_weightOfRiders_19 (by decide) (fun c_2 => ?_) (fun c_2 => ?_)
        · have c_2 : ¬ (st i) = 1 := c_2
          refine lv_iinc (v := nI (i + 1)) (lv' := [(2, .int (nI (i + 1))), (1, .int a), (0, .ref (h 0))]) hx hb dX1_weightOfRiders_31 hl (k := 0) rfl (nI_add (i) 1) (by decide) rfl (fun ls hl => ?_)
          refine lv_goto (tgt := 4) hx hb dX1_weightOfRiders_34 (by decide) ?_
          exact ih (i + 1) _ (by omega) (by omega) (lpN_next (by omega) hv (by simp only [sWR, if_neg c_1, if_neg c_2])) _ (lv_sub hl [0, 1, 2] rfl)
        · have c_2 : (st i) = 1 := c_2
          refine lv_iload_n hx hb dX1_weightOfRiders_22 rfl (lv_at hl 1 rfl) ?_
          refine lv_aload_n hx hb dX1_weightOfRiders_23 rfl (lv_at hl 2 rfl) ?_
          refine va_get (ci := 0) (v := .ref (h 5)) (C := RX1) (T := TX1) (N := 16) hx hb hts hin_X1 hown hK hP 0 rfl rfl 11 (by decide) (hts (.fieldLink RX1 24 "ButtonGuests$Hotel" "weight" "[I") (by decide +kernel)) (fun _ h9 => h9) rfl dX1_weightOfRiders_24 ?_
          refine lv_iload_n hx hb dX1_weightOfRiders_27 rfl (lv_at hl 0 rfl) ?_
          refine zz_iald hx hb hK hP 5 0 i rfl rfl rfl ⟨by omega, Nat.le_of_ble_eq_true rfl⟩ dX1_weightOfRiders_28 ?_
          refine lv_iadd hx hb dX1_weightOfRiders_29 ?_
          refine lv_istore_n (lv' := [(1, .int (a + (we i))), (2, .int (nI i)), (0, .ref (h 0))]) hx hb dX1_weightOfRiders_30 rfl hl (by decide) rfl (fun ls hl => ?_)
          refine lv_iinc (v := nI (i + 1)) (lv' := [(2, .int (nI (i + 1))), (1, .int (a + (we i))), (0, .ref (h 0))]) hx hb dX1_weightOfRiders_31 hl (k := 1) rfl (nI_add (i) 1) (by decide) rfl (fun ls hl => ?_)
          refine lv_goto (tgt := 4) hx hb dX1_weightOfRiders_34 (by decide) ?_
          exact ih (i + 1) _ (by omega) (by omega) (lpN_next (by omega) hv (by simp only [sWR, if_neg c_1, if_pos c_2])) _ (lv_sub hl [0, 1, 2] rfl)
  exact loop (n + 1) 0 _ (Nat.zero_le _) (by omega) rfl _ (lv_sub hl [0, 1, 2] rfl)
abbrev rm_X1_allGrudges : Room := { frames := 0, cells := 0, slots := 0, locals := 0 }
set_option maxHeartbeats 4000000 in
set_option maxRecDepth 100000 in
theorem c_X1_allGrudges (l : Launch) (D : va_G) (cy : Nat → ClassId) (h : Nat → Nat) (n : Nat) (hn : n ≤ 4) (x : HS) (hg : x.1.1 = nI n) : Met l yX1_allGrudges wsX1_allGrudges rm_X1_allGrudges (rdP D cy [.ref (h 0)] (hotelW cy h x)) (QcRead (hAG n x)) 0 0 (fun _ => False) := by
  obtain ⟨⟨gu, fl, se, pr, re, go, ch⟩, ⟨sg, bu, wa, ho, we, st, gr, po, ri⟩⟩ := x
  obtain rfl : gu = nI n := hg
  refine Mrd (cc := cX1_allGrudges) (maxL := 3) (ty := .int) (by decide) rfl (Nat.le_of_ble_eq_true rfl) rfl ?_
  intro p e s m args below meth c Q ls hF hK hP hl hret
  obtain ⟨hx, hb, hml, hown, hts⟩ := id hF
  have hown : s.vm.findClass RX1 = some m.cls := hown
  have hin_X1 : ∀ w ∈ u_ws RX1 TX1 16, w ∈ wsX1_allGrudges := by decide +kernel
  have hl : lv_has ls 3 [(0, .ref (h 0))] := hl
  refine lv_iconst (v := 0) hx hb dX1_allGrudges_0 (by decide) ?_
  refine lv_istore_n (lv' := [(1, .int 0), (0, .ref (h 0))]) hx hb dX1_allGrudges_1 rfl hl (by decide) rfl (fun ls hl => ?_)
  refine lv_iconst (v := 0) hx hb dX1_allGrudges_2 (by decide) ?_
  refine lv_istore_n (lv' := [(2, .int 0), (1, .int 0), (0, .ref (h 0))]) hx hb dX1_allGrudges_3 rfl hl (by decide) rfl (fun ls hl => ?_)
  have loop : ∀ (k i : Nat) (a : Int32), i ≤ n → n + 1 ≤ i + k → lpN (sAG gr) (n - i) i a = lpN (sAG gr) n 0 0 → ∀ (ls : Array Slot), lv_has ls 3 [(2, .int (nI i)), (1, .int a), (0, .ref (h 0))] → W p l e rm_X1_allGrudges s m args below meth c s.heap [] 0 0 Q (F0 m 4 ls []) := by
    intro k
    induction k with
    | zero =>
      intro i a hi hk hv
      exact absurd hk (by omega)
    | succ k ih =>
      intro i a hi hk hv ls hl
      refine lv_iload_n hx hb dX1_allGrudges_4 rfl (lv_at hl 0 rfl) ?_
      refine lv_aload_n hx hb dX1_allGrudges_5 rfl (lv_at hl 2 rfl) ?_
      refine va_get (ci := 0) (v := .int (nI n)) (C := RX1) (T := TX1) (N := 16) hx hb hts hin_X1 hown hK hP 0 rfl rfl 1 (by decide) (hts (.fieldLink RX1 49 "ButtonGuests$Hotel" "guests" "I") (by decide +kernel)) (fun _ h9 => h9) rfl dX1_allGrudges_6 ?_
      refine lv_icmp_ge (tgt := 27) hx hb dX1_allGrudges_9 (by decide) (fun c_1 => ?_) (fun c_1 => ?_)
      · have c_1 : n ≤ i := (nI_leI (a := n) (b := i) (by omega) (by omega)).mp c_1
        refine lv_iload_n hx hb dX1_allGrudges_27 rfl (lv_at hl 1 rfl) ?_
        exact zz_top (lpN_end c_1 hv) (hret _ _ dX1_allGrudges_28)
      · have c_1 : ¬ n ≤ i := fun q => c_1 ((nI_leI (a := n) (b := i) (by omega) (by omega)).mpr q)
        refine lv_iload_n hx hb dX1_allGrudges_12 rfl (lv_at hl 1 rfl) ?_
        refine lv_aload_n hx hb dX1_allGrudges_13 rfl (lv_at hl 2 rfl) ?_
        refine va_get (ci := 0) (v := .ref (h 7)) (C := RX1) (T := TX1) (N := 16) hx hb hts hin_X1 hown hK hP 0 rfl rfl 13 (by decide) (hts (.fieldLink RX1 30 "ButtonGuests$Hotel" "grudges" "[I") (by decide +kernel)) (fun _ h9 => h9) rfl dX1_allGrudges_14 ?_
        refine lv_iload_n hx hb dX1_allGrudges_17 rfl (lv_at hl 0 rfl) ?_
        refine zz_iald hx hb hK hP 7 0 i rfl rfl rfl ⟨by omega, Nat.le_of_ble_eq_true rfl⟩ dX1_allGrudges_18 ?_
        refine lv_iadd hx hb dX1_allGrudges_19 ?_
        refine lv_istore_n (lv' := [(1, .int (a + (gr i))), (2, .int (nI i)), (0, .ref (h 0))]) hx hb dX1_allGrudges_20 rfl hl (by decide) rfl (fun ls hl => ?_)
        refine lv_iinc (v := nI (i + 1)) (lv' := [(2, .int (nI (i + 1))), (1, .int (a + (gr i))), (0, .ref (h 0))]) hx hb dX1_allGrudges_21 hl (k := 1) rfl (nI_add (i) 1) (by decide) rfl (fun ls hl => ?_)
        refine lv_goto (tgt := 4) hx hb dX1_allGrudges_24 (by decide) ?_
        exact ih (i + 1) _ (by omega) (by omega) (lpN_next (by omega) hv (by simp only [sAG, if_neg c_1])) _ (lv_sub hl [0, 1, 2] rfl)
  exact loop (n + 1) 0 _ (Nat.zero_le _) (by omega) rfl _ (lv_sub hl [0, 1, 2] rfl)
abbrev rm_X1_belongsTo : Room := { frames := 0, cells := 0, slots := 0, locals := 0 }
set_option maxHeartbeats 4000000 in
set_option maxRecDepth 100000 in
theorem c_X1_belongsTo (l : Launch) (D : va_G) (cy : Nat → ClassId) (h : Nat → Nat) (n : Nat) (hn : n ≤ 4) (x : HS) (hg : x.1.1 = nI n) (j : Nat) (hj : j < n) (f v : Int32) : Met l yX1_belongsTo wsX1_belongsTo rm_X1_belongsTo (rdP D cy [.ref (h 0), .int (nI j), .int f, .int v] (hotelW cy h x)) (QcRead (vBel x.2.2.2.2.2.2.1 x.2.2.2.1 x.2.2.2.2.1 x.2.2.1 j f v)) 0 0 (fun _ => False) := by
  obtain ⟨⟨gu, fl, se, pr, re, go, ch⟩, ⟨sg, bu, wa, ho, we, st, gr, po, ri⟩⟩ := x
  obtain rfl : gu = nI n := hg
  refine Mrd (cc := cX1_belongsTo) (maxL := 4) (ty := .boolean) (by decide) rfl (Nat.le_of_ble_eq_true rfl) vBel_nar ?_
  intro p e s m args below meth c Q ls hF hK hP hl hret
  obtain ⟨hx, hb, hml, hown, hts⟩ := id hF
  have hown : s.vm.findClass RX1 = some m.cls := hown
  have hin_X1 : ∀ w ∈ u_ws RX1 TX1 16, w ∈ wsX1_belongsTo := by decide +kernel
  have hl : lv_has ls 4 [(0, .ref (h 0)), (1, .int (nI j)), (2, .int f), (3, .int v)] := hl
  refine lv_iload_n hx hb dX1_belongsTo_0 rfl (lv_at hl 1 rfl) ?_
  refine lv_if_lt (tgt := 12) hx hb dX1_belongsTo_1 (by decide) (fun c_1 => ?_) (fun c_1 => ?_)
  · exact absurd c_1 (nI_pos (by omega))
  · have c_1 : ¬ j < 0 := fun q => c_1 ((nI_ltI (a := j) (b := 0) (by omega) (by omega)).mpr q)
    refine lv_iload_n hx hb dX1_belongsTo_4 rfl (lv_at hl 1 rfl) ?_
    refine lv_aload_n hx hb dX1_belongsTo_5 rfl (lv_at hl 0 rfl) ?_
    refine va_get (ci := 0) (v := .int (nI n)) (C := RX1) (T := TX1) (N := 16) hx hb hts hin_X1 hown hK hP 0 rfl rfl 1 (by decide) (hts (.fieldLink RX1 49 "ButtonGuests$Hotel" "guests" "I") (by decide +kernel)) (fun _ h9 => h9) rfl dX1_belongsTo_6 ?_
    refine lv_icmp_lt (tgt := 14) hx hb dX1_belongsTo_9 (by decide) (fun c_2 => ?_) (fun c_2 => ?_)
    · have c_2 : j < n := (nI_ltI (a := j) (b := n) (by omega) (by omega)).mp c_2
      refine lv_iload_n hx hb dX1_belongsTo_14 rfl (lv_at hl 3 rfl) ?_
      by_cases c_3 : v = 0
      · refine lv_lookup (off := 25) (tgt := 40) hx hb dX1_belongsTo_15 (by decide) (by rw [c_3]; rfl) (by decide) ?_
        refine lv_aload_n hx hb dX1_belongsTo_40 rfl (lv_at hl 0 rfl) ?_
        refine va_get (ci := 0) (v := .ref (h 6)) (C := RX1) (T := TX1) (N := 16) hx hb hts hin_X1 hown hK hP 0 rfl rfl 12 (by decide) (hts (.fieldLink RX1 27 "ButtonGuests$Hotel" "state" "[I") (by decide +kernel)) (fun _ h9 => h9) rfl dX1_belongsTo_41 ?_
        refine lv_iload_n hx hb dX1_belongsTo_44 rfl (lv_at hl 1 rfl) ?_
        refine zz_iald hx hb hK hP 6 0 j rfl rfl rfl ⟨by omega, Nat.le_of_ble_eq_true rfl⟩ dX1_belongsTo_45 ?_
        refine lv_if_ne (tgt := 63) hx hb dX1_belongsTo_46 (by decide) (fun c_4 => ?_) (fun c_4 => ?_)
        · have c_4 : ¬ (st j) = 0 := c_4
          refine lv_iconst (v := 0) hx hb dX1_belongsTo_63 (by decide) ?_
          exact zz_top (by simp only [vBel, zb, c_1, c_2, c_3, c_4, and_self, and_true, true_and, and_false, false_and, if_true, if_false, show ¬ (1 : Int32) = 0 by decide]) (hret _ _ dX1_belongsTo_64)
        · have c_4 : (st j) = 0 := c_4
          refine lv_aload_n hx hb dX1_belongsTo_49 rfl (lv_at hl 0 rfl) ?_
          refine va_get (ci := 0) (v := .ref (h 3)) (C := RX1) (T := TX1) (N := 16) hx hb hts hin_X1 hown hK hP 0 rfl rfl 9 (by decide) (hts (.fieldLink RX1 18 "ButtonGuests$Hotel" "waitingFloor" "[I") (by decide +kernel)) (fun _ h9 => h9) rfl dX1_belongsTo_50 ?_
          refine lv_iload_n hx hb dX1_belongsTo_53 rfl (lv_at hl 1 rfl) ?_
          refine zz_iald hx hb hK hP 3 0 j rfl rfl rfl ⟨by omega, Nat.le_of_ble_eq_true rfl⟩ dX1_belongsTo_54 ?_
          refine lv_iload_n hx hb dX1_belongsTo_55 rfl (lv_at hl 2 rfl) ?_
          refine lv_icmp_ne (tgt := 63) hx hb dX1_belongsTo_56 (by decide) (fun c_5 => ?_) (fun c_5 => ?_)
          · have c_5 : ¬ (wa j) = f := c_5
            refine lv_iconst (v := 0) hx hb dX1_belongsTo_63 (by decide) ?_
            exact zz_top (by simp only [vBel, zb, c_1, c_2, c_3, c_4, c_5, and_self, and_true, true_and, and_false, false_and, if_true, if_false, show ¬ (1 : Int32) = 0 by decide]) (hret _ _ dX1_belongsTo_64)
          · have c_5 : (wa j) = f := c_5
            refine lv_iconst (v := 1) hx hb dX1_belongsTo_59 (by decide) ?_
            refine lv_goto (tgt := 64) hx hb dX1_belongsTo_60 (by decide) ?_
            exact zz_top (by simp only [vBel, zb, c_1, c_2, c_3, c_4, c_5, and_self, and_true, true_and, and_false, false_and, if_true, if_false, show ¬ (1 : Int32) = 0 by decide]) (hret _ _ dX1_belongsTo_64)
      by_cases c_6 : v = 1
      · refine lv_lookup (off := 50) (tgt := 65) hx hb dX1_belongsTo_15 (by decide) (by rw [c_6]; rfl) (by decide) ?_
        refine lv_aload_n hx hb dX1_belongsTo_65 rfl (lv_at hl 0 rfl) ?_
        refine va_get (ci := 0) (v := .ref (h 6)) (C := RX1) (T := TX1) (N := 16) hx hb hts hin_X1 hown hK hP 0 rfl rfl 12 (by decide) (hts (.fieldLink RX1 27 "ButtonGuests$Hotel" "state" "[I") (by decide +kernel)) (fun _ h9 => h9) rfl dX1_belongsTo_66 ?_
        refine lv_iload_n hx hb dX1_belongsTo_69 rfl (lv_at hl 1 rfl) ?_
        refine zz_iald hx hb hK hP 6 0 j rfl rfl rfl ⟨by omega, Nat.le_of_ble_eq_true rfl⟩ dX1_belongsTo_70 ?_
        refine lv_iconst (v := 2) hx hb dX1_belongsTo_71 (by decide) ?_
        refine lv_icmp_ne (tgt := 89) hx hb dX1_belongsTo_72 (by decide) (fun c_7 => ?_) (fun c_7 => ?_)
        · have c_7 : ¬ (st j) = 2 := c_7
          refine lv_iconst (v := 0) hx hb dX1_belongsTo_89 (by decide) ?_
          exact zz_top (by simp only [vBel, zb, c_1, c_2, c_3, c_6, c_7, and_self, and_true, true_and, and_false, false_and, if_true, if_false, show ¬ (1 : Int32) = 0 by decide]) (hret _ _ dX1_belongsTo_90)
        · have c_7 : (st j) = 2 := c_7
          refine lv_aload_n hx hb dX1_belongsTo_75 rfl (lv_at hl 0 rfl) ?_
          refine va_get (ci := 0) (v := .ref (h 4)) (C := RX1) (T := TX1) (N := 16) hx hb hts hin_X1 hown hK hP 0 rfl rfl 10 (by decide) (hts (.fieldLink RX1 21 "ButtonGuests$Hotel" "home" "[I") (by decide +kernel)) (fun _ h9 => h9) rfl dX1_belongsTo_76 ?_
          refine lv_iload_n hx hb dX1_belongsTo_79 rfl (lv_at hl 1 rfl) ?_
          refine zz_iald hx hb hK hP 4 0 j rfl rfl rfl ⟨by omega, Nat.le_of_ble_eq_true rfl⟩ dX1_belongsTo_80 ?_
          refine lv_iload_n hx hb dX1_belongsTo_81 rfl (lv_at hl 2 rfl) ?_
          refine lv_icmp_ne (tgt := 89) hx hb dX1_belongsTo_82 (by decide) (fun c_8 => ?_) (fun c_8 => ?_)
          · have c_8 : ¬ (ho j) = f := c_8
            refine lv_iconst (v := 0) hx hb dX1_belongsTo_89 (by decide) ?_
            exact zz_top (by simp only [vBel, zb, c_1, c_2, c_3, c_6, c_7, c_8, and_self, and_true, true_and, and_false, false_and, if_true, if_false, show ¬ (1 : Int32) = 0 by decide]) (hret _ _ dX1_belongsTo_90)
          · have c_8 : (ho j) = f := c_8
            refine lv_iconst (v := 1) hx hb dX1_belongsTo_85 (by decide) ?_
            refine lv_goto (tgt := 90) hx hb dX1_belongsTo_86 (by decide) ?_
            exact zz_top (by simp only [vBel, zb, c_1, c_2, c_3, c_6, c_7, c_8, and_self, and_true, true_and, and_false, false_and, if_true, if_false, show ¬ (1 : Int32) = 0 by decide]) (hret _ _ dX1_belongsTo_90)
      refine lv_lookup (off := 76) (tgt := 91) hx hb dX1_belongsTo_15 (by decide) ((lv_osw c_3 rfl).trans ((lv_osw c_6 rfl).trans (rfl))) (by decide) ?_
      refine lv_aload_n hx hb dX1_belongsTo_91 rfl (lv_at hl 0 rfl) ?_
      refine va_get (ci := 0) (v := .ref (h 2)) (C := RX1) (T := TX1) (N := 16) hx hb hts hin_X1 hown hK hP 0 rfl rfl 8 (by decide) (hts (.fieldLink RX1 15 "ButtonGuests$Hotel" "button" "[I") (by decide +kernel)) (fun _ h9 => h9) rfl dX1_belongsTo_92 ?_
      refine lv_iload_n hx hb dX1_belongsTo_95 rfl (lv_at hl 1 rfl) ?_
      refine zz_iald hx hb hK hP 2 0 j rfl rfl rfl ⟨by omega, Nat.le_of_ble_eq_true rfl⟩ dX1_belongsTo_96 ?_
      refine lv_iload_n hx hb dX1_belongsTo_97 rfl (lv_at hl 2 rfl) ?_
      refine lv_icmp_ne (tgt := 105) hx hb dX1_belongsTo_98 (by decide) (fun c_9 => ?_) (fun c_9 => ?_)
      · have c_9 : ¬ (bu j) = f := c_9
        refine lv_iconst (v := 0) hx hb dX1_belongsTo_105 (by decide) ?_
        exact zz_top (by simp only [vBel, zb, c_1, c_2, c_3, c_6, c_9, and_self, and_true, true_and, and_false, false_and, if_true, if_false, show ¬ (1 : Int32) = 0 by decide]) (hret _ _ dX1_belongsTo_106)
      · have c_9 : (bu j) = f := c_9
        refine lv_iconst (v := 1) hx hb dX1_belongsTo_101 (by decide) ?_
        refine lv_goto (tgt := 106) hx hb dX1_belongsTo_102 (by decide) ?_
        exact zz_top (by simp only [vBel, zb, c_1, c_2, c_3, c_6, c_9, and_self, and_true, true_and, and_false, false_and, if_true, if_false, show ¬ (1 : Int32) = 0 by decide]) (hret _ _ dX1_belongsTo_106)
    · exact absurd (nI_lt hj (by omega)) c_2
abbrev rm_X1_floorSet : Room := { frames := 1, cells := 0, slots := 0, locals := 23 }
set_option maxHeartbeats 4000000 in
set_option maxRecDepth 100000 in
theorem c_X1_floorSet (l : Launch) (D : va_G) (cy : Nat → ClassId) (h : Nat → Nat) (n : Nat) (hn : n ≤ 4) (x : HS) (hg : x.1.1 = nI n) (f v : Int32) : Met l yX1_floorSet wsX1_floorSet rm_X1_floorSet (rdP D cy [.ref (h 0), .int f, .int v] (hotelW cy h x)) (QcRead (hFS n x f v)) 0 0 (fun _ => False) := by
  obtain ⟨⟨gu, fl, se, pr, re, go, ch⟩, ⟨sg, bu, wa, ho, we, st, gr, po, ri⟩⟩ := x
  obtain rfl : gu = nI n := hg
  refine Mrd (cc := cX1_floorSet) (maxL := 5) (ty := .int) (by decide) rfl (Nat.le_of_ble_eq_true rfl) rfl ?_
  intro p e s m args below meth c Q ls hF hK hP hl hret
  obtain ⟨hx, hb, hml, hown, hts⟩ := id hF
  have hown : s.vm.findClass RX1 = some m.cls := hown
  have hin_X1 : ∀ w ∈ u_ws RX1 TX1 16, w ∈ wsX1_floorSet := by decide +kernel
  have hl : lv_has ls 5 [(0, .ref (h 0)), (1, .int f), (2, .int v)] := hl
  refine lv_iconst (v := 0) hx hb dX1_floorSet_0 (by decide) ?_
  refine lv_istore_n (lv' := [(3, .int 0), (0, .ref (h 0)), (1, .int f), (2, .int v)]) hx hb dX1_floorSet_1 rfl hl (by decide) rfl (fun ls hl => ?_)
  refine lv_iconst (v := 0) hx hb dX1_floorSet_2 (by decide) ?_
  refine lv_istore (lv' := [(4, .int 0), (3, .int 0), (0, .ref (h 0)), (1, .int f), (2, .int v)]) hx hb dX1_floorSet_3 hl (by decide) rfl (fun ls hl => ?_)
  have loop : ∀ (k i : Nat) (a : Int32), i ≤ n → n + 1 ≤ i + k → lpN (sFS st wa ho bu f v) (n - i) i a = lpN (sFS st wa ho bu f v) n 0 0 → ∀ (ls : Array Slot), lv_has ls 5 [(4, .int (nI i)), (3, .int a), (0, .ref (h 0)), (1, .int f), (2, .int v)] → W p l e rm_X1_floorSet s m args below meth c s.heap [] 0 0 Q (F0 m 5 ls []) := by
    intro k
    induction k with
    | zero =>
      intro i a hi hk hv
      exact absurd hk (by omega)
    | succ k ih =>
      intro i a hi hk hv ls hl
      refine lv_iload hx hb dX1_floorSet_5 (lv_at hl 0 rfl) ?_
      refine lv_aload_n hx hb dX1_floorSet_7 rfl (lv_at hl 2 rfl) ?_
      refine va_get (ci := 0) (v := .int (nI n)) (C := RX1) (T := TX1) (N := 16) hx hb hts hin_X1 hown hK hP 0 rfl rfl 1 (by decide) (hts (.fieldLink RX1 49 "ButtonGuests$Hotel" "guests" "I") (by decide +kernel)) (fun _ h9 => h9) rfl dX1_floorSet_8 ?_
      refine lv_icmp_ge (tgt := 38) hx hb dX1_floorSet_11 (by decide) (fun c_1 => ?_) (fun c_1 => ?_)
      · have c_1 : n ≤ i := (nI_leI (a := n) (b := i) (by omega) (by omega)).mp c_1
        refine lv_iload_n hx hb dX1_floorSet_38 rfl (lv_at hl 1 rfl) ?_
        exact zz_top (lpN_end c_1 hv) (hret _ _ dX1_floorSet_39)
      · have c_1 : ¬ n ≤ i := fun q => c_1 ((nI_leI (a := n) (b := i) (by omega) (by omega)).mpr q)
        refine lv_aload_n hx hb dX1_floorSet_14 rfl (lv_at hl 2 rfl) ?_
        refine lv_iload hx hb dX1_floorSet_15 (lv_at hl 0 rfl) ?_
        refine lv_iload_n hx hb dX1_floorSet_17 rfl (lv_at hl 3 rfl) ?_
        refine lv_iload_n hx hb dX1_floorSet_18 rfl (lv_at hl 4 rfl) ?_
        refine rd_V (As := [.int (nI i), .int f, .int v]) (rest := []) hF (c_X1_belongsTo l D cy h n hn ((nI n, fl, se, pr, re, go, ch), (sg, bu, wa, ho, we, st, gr, po, ri)) rfl i (by omega) f v) (cwV 3 hts gX1_floorSet_X1_belongsTo rfl rfl rfl (by decide +kernel) ⟨Nat.le_of_ble_eq_true rfl, Nat.le_of_ble_eq_true rfl⟩) hK hP 0 0 rfl rfl rfl rfl hl.1 rfl (Nat.le_of_ble_eq_true rfl) dX1_floorSet_19 ⟨Nat.le_of_ble_eq_true rfl, Nat.le_of_ble_eq_true rfl⟩ ?_
        refine lv_if_eq (tgt := 32) hx hb dX1_floorSet_22 (by decide) (fun c_2 => ?_) (fun c_2 => ?_)
        · have c_2 : (vBel st wa ho bu i f v) = 0 := c_2
          refine lv_iinc (v := nI (i + 1)) (lv' := [(4, .int (nI (i + 1))), (3, .int a), (0, .ref (h 0)), (1, .int f), (2, .int v)]) hx hb dX1_floorSet_32 hl (k := 0) rfl (nI_add (i) 1) (by decide) rfl (fun ls hl => ?_)
          refine lv_goto (tgt := 5) hx hb dX1_floorSet_35 (by decide) ?_
          exact ih (i + 1) _ (by omega) (by omega) (lpN_next (by omega) hv (by simp only [sFS, if_neg c_1, if_pos c_2])) _ (lv_sub hl [0, 1, 2, 3, 4] rfl)
        · have c_2 : ¬ (vBel st wa ho bu i f v) = 0 := c_2
          refine lv_iload_n hx hb dX1_floorSet_25 rfl (lv_at hl 1 rfl) ?_
          refine lv_iconst (v := 1) hx hb dX1_floorSet_26 (by decide) ?_
          refine lv_iload hx hb dX1_floorSet_27 (lv_at hl 0 rfl) ?_
          refine lv_ishl hx hb dX1_floorSet_29 ?_
          refine lv_ior hx hb dX1_floorSet_30 ?_
          refine lv_istore_n (lv' := [(3, .int (a ||| (1 <<< ((nI i) &&& 31)))), (4, .int (nI i)), (0, .ref (h 0)), (1, .int f), (2, .int v)]) hx hb dX1_floorSet_31 rfl hl (by decide) rfl (fun ls hl => ?_)
          refine lv_iinc (v := nI (i + 1)) (lv' := [(4, .int (nI (i + 1))), (3, .int (a ||| (1 <<< ((nI i) &&& 31)))), (0, .ref (h 0)), (1, .int f), (2, .int v)]) hx hb dX1_floorSet_32 hl (k := 1) rfl (nI_add (i) 1) (by decide) rfl (fun ls hl => ?_)
          refine lv_goto (tgt := 5) hx hb dX1_floorSet_35 (by decide) ?_
          exact ih (i + 1) _ (by omega) (by omega) (lpN_next (by omega) hv (by simp only [sFS, if_neg c_1, if_neg c_2])) _ (lv_sub hl [0, 1, 2, 3, 4] rfl)
  exact loop (n + 1) 0 _ (Nat.zero_le _) (by omega) rfl _ (lv_sub hl [0, 1, 2, 3, 4] rfl)
abbrev rm_X1_whereIs : Room := { frames := 1, cells := 0, slots := 0, locals := 21 }
set_option maxHeartbeats 4000000 in
set_option maxRecDepth 100000 in
theorem c_X1_whereIs (l : Launch) (D : va_G) (cy : Nat → ClassId) (h : Nat → Nat) (n : Nat) (hn : n ≤ 4) (x : HS) (hg : x.1.1 = nI n) (g : Int32) : Met l yX1_whereIs wsX1_whereIs rm_X1_whereIs (rdP D cy [.ref (h 0), .int g] (hotelW cy h x)) (QcRead (hWhereG x g)) 0 0 (fun _ => False) := by
  obtain ⟨⟨gu, fl, se, pr, re, go, ch⟩, ⟨sg, bu, wa, ho, we, st, gr, po, ri⟩⟩ := x
  obtain rfl : gu = nI n := hg
  refine Mrd (cc := cX1_whereIs) (maxL := 2) (ty := .int) (by decide) rfl (Nat.le_of_ble_eq_true rfl) rfl ?_
  intro p e s m args below meth c Q ls hF hK hP hl hret
  obtain ⟨hx, hb, hml, hown, hts⟩ := id hF
  have hown : s.vm.findClass RX1 = some m.cls := hown
  have hin_X1 : ∀ w ∈ u_ws RX1 TX1 16, w ∈ wsX1_whereIs := by decide +kernel
  have hl : lv_has ls 2 [(0, .ref (h 0)), (1, .int g)] := hl
  refine lv_aload_n hx hb dX1_whereIs_0 rfl (lv_at hl 0 rfl) ?_
  refine lv_iload_n hx hb dX1_whereIs_1 rfl (lv_at hl 1 rfl) ?_
  refine rd_V (As := [.int g]) (rest := []) hF (c_X1_isGuest l D cy h n hn ((nI n, fl, se, pr, re, go, ch), (sg, bu, wa, ho, we, st, gr, po, ri)) rfl g) (cwV 1 hts gX1_whereIs_X1_isGuest rfl rfl rfl (by decide +kernel) ⟨Nat.le_of_ble_eq_true rfl, Nat.le_of_ble_eq_true rfl⟩) hK hP 0 0 rfl rfl rfl rfl hl.1 rfl (Nat.le_of_ble_eq_true rfl) dX1_whereIs_2 ⟨Nat.le_of_ble_eq_true rfl, Nat.le_of_ble_eq_true rfl⟩ ?_
  refine lv_if_ne (tgt := 10) hx hb dX1_whereIs_5 (by decide) (fun c_1 => ?_) (fun c_1 => ?_)
  · have c_1 := zb_ne.mp c_1
    obtain ⟨jg, hjg, rfl⟩ := isG_of hn c_1
    refine lv_aload_n hx hb dX1_whereIs_10 rfl (lv_at hl 0 rfl) ?_
    refine va_get (ci := 0) (v := .ref (h 6)) (C := RX1) (T := TX1) (N := 16) hx hb hts hin_X1 hown hK hP 0 rfl rfl 12 (by decide) (hts (.fieldLink RX1 27 "ButtonGuests$Hotel" "state" "[I") (by decide +kernel)) (fun _ h9 => h9) rfl dX1_whereIs_11 ?_
    refine lv_iload_n hx hb dX1_whereIs_14 rfl (lv_at hl 1 rfl) ?_
    refine zz_iald hx hb hK hP 6 0 jg rfl rfl rfl ⟨by omega, Nat.le_of_ble_eq_true rfl⟩ dX1_whereIs_15 ?_
    refine lv_iconst (v := 1) hx hb dX1_whereIs_16 (by decide) ?_
    refine lv_icmp_ne (tgt := 25) hx hb dX1_whereIs_17 (by decide) (fun c_2 => ?_) (fun c_2 => ?_)
    · have c_2 : ¬ (st jg) = 1 := c_2
      refine lv_aload_n hx hb dX1_whereIs_25 rfl (lv_at hl 0 rfl) ?_
      refine va_get (ci := 0) (v := .ref (h 6)) (C := RX1) (T := TX1) (N := 16) hx hb hts hin_X1 hown hK hP 0 rfl rfl 12 (by decide) (hts (.fieldLink RX1 27 "ButtonGuests$Hotel" "state" "[I") (by decide +kernel)) (fun _ h9 => h9) rfl dX1_whereIs_26 ?_
      refine lv_iload_n hx hb dX1_whereIs_29 rfl (lv_at hl 1 rfl) ?_
      refine zz_iald hx hb hK hP 6 0 jg rfl rfl rfl ⟨by omega, Nat.le_of_ble_eq_true rfl⟩ dX1_whereIs_30 ?_
      refine lv_iconst (v := 2) hx hb dX1_whereIs_31 (by decide) ?_
      refine lv_icmp_ne (tgt := 44) hx hb dX1_whereIs_32 (by decide) (fun c_3 => ?_) (fun c_3 => ?_)
      · have c_3 : ¬ (st jg) = 2 := c_3
        refine lv_aload_n hx hb dX1_whereIs_44 rfl (lv_at hl 0 rfl) ?_
        refine va_get (ci := 0) (v := .ref (h 3)) (C := RX1) (T := TX1) (N := 16) hx hb hts hin_X1 hown hK hP 0 rfl rfl 9 (by decide) (hts (.fieldLink RX1 18 "ButtonGuests$Hotel" "waitingFloor" "[I") (by decide +kernel)) (fun _ h9 => h9) rfl dX1_whereIs_45 ?_
        refine lv_iload_n hx hb dX1_whereIs_48 rfl (lv_at hl 1 rfl) ?_
        refine zz_iald hx hb hK hP 3 0 jg rfl rfl rfl ⟨by omega, Nat.le_of_ble_eq_true rfl⟩ dX1_whereIs_49 ?_
        exact zz_top (by simp only [hWhereG, hWhere, if_pos c_1, if_neg c_2, if_neg c_3, nI_clamp (show jg < 2 ^ 31 by omega)]) (hret _ _ dX1_whereIs_50)
      · have c_3 : (st jg) = 2 := c_3
        refine lv_aload_n hx hb dX1_whereIs_35 rfl (lv_at hl 0 rfl) ?_
        refine va_get (ci := 0) (v := .ref (h 4)) (C := RX1) (T := TX1) (N := 16) hx hb hts hin_X1 hown hK hP 0 rfl rfl 10 (by decide) (hts (.fieldLink RX1 21 "ButtonGuests$Hotel" "home" "[I") (by decide +kernel)) (fun _ h9 => h9) rfl dX1_whereIs_36 ?_
        refine lv_iload_n hx hb dX1_whereIs_39 rfl (lv_at hl 1 rfl) ?_
        refine zz_iald hx hb hK hP 4 0 jg rfl rfl rfl ⟨by omega, Nat.le_of_ble_eq_true rfl⟩ dX1_whereIs_40 ?_
        refine lv_goto (tgt := 50) hx hb dX1_whereIs_41 (by decide) ?_
        exact zz_top (by simp only [hWhereG, hWhere, if_pos c_1, if_neg c_2, if_pos c_3, nI_clamp (show jg < 2 ^ 31 by omega)]) (hret _ _ dX1_whereIs_50)
    · have c_2 : (st jg) = 1 := c_2
      refine lv_aload_n hx hb dX1_whereIs_20 rfl (lv_at hl 0 rfl) ?_
      refine va_get (ci := 0) (v := .int fl) (C := RX1) (T := TX1) (N := 16) hx hb hts hin_X1 hown hK hP 0 rfl rfl 2 (by decide) (hts (.fieldLink RX1 53 "ButtonGuests$Hotel" "floor" "I") (by decide +kernel)) (fun _ h9 => h9) rfl dX1_whereIs_21 ?_
      exact zz_top (by simp only [hWhereG, hWhere, if_pos c_1, if_pos c_2, nI_clamp (show jg < 2 ^ 31 by omega)]) (hret _ _ dX1_whereIs_24)
  · have c_1 := zb_eq.mp c_1
    refine lv_iconst (v := (-1)) hx hb dX1_whereIs_8 (by decide) ?_
    exact zz_top (by simp only [hWhereG, hWhere, if_neg c_1]) (hret _ _ dX1_whereIs_9)
abbrev rm_X1_areAllHome : Room := { frames := 1, cells := 0, slots := 0, locals := 23 }
set_option maxHeartbeats 4000000 in
set_option maxRecDepth 100000 in
theorem c_X1_areAllHome (l : Launch) (D : va_G) (cy : Nat → ClassId) (h : Nat → Nat) (n : Nat) (hn : n ≤ 4) (x : HS) (hg : x.1.1 = nI n) : Met l yX1_areAllHome wsX1_areAllHome rm_X1_areAllHome (rdP D cy [.ref (h 0)] (hotelW cy h x)) (QcRead (zb (hGI n x 2 = x.1.1))) 0 0 (fun _ => False) := by
  obtain ⟨⟨gu, fl, se, pr, re, go, ch⟩, ⟨sg, bu, wa, ho, we, st, gr, po, ri⟩⟩ := x
  obtain rfl : gu = nI n := hg
  refine Mrd (cc := cX1_areAllHome) (maxL := 1) (ty := .boolean) (by decide) rfl (Nat.le_of_ble_eq_true rfl) zb_nar ?_
  intro p e s m args below meth c Q ls hF hK hP hl hret
  obtain ⟨hx, hb, hml, hown, hts⟩ := id hF
  have hown : s.vm.findClass RX1 = some m.cls := hown
  have hin_X1 : ∀ w ∈ u_ws RX1 TX1 16, w ∈ wsX1_areAllHome := by decide +kernel
  have hl : lv_has ls 1 [(0, .ref (h 0))] := hl
  refine lv_aload_n hx hb dX1_areAllHome_0 rfl (lv_at hl 0 rfl) ?_
  refine lv_iconst (v := 2) hx hb dX1_areAllHome_1 (by decide) ?_
  refine rd_V (As := [.int 2]) (rest := []) hF (c_X1_guestsIn l D cy h n hn ((nI n, fl, se, pr, re, go, ch), (sg, bu, wa, ho, we, st, gr, po, ri)) rfl 2) (cwV 1 hts gX1_areAllHome_X1_guestsIn rfl rfl rfl (by decide +kernel) ⟨Nat.le_of_ble_eq_true rfl, Nat.le_of_ble_eq_true rfl⟩) hK hP 0 0 rfl rfl rfl rfl hl.1 rfl (Nat.le_of_ble_eq_true rfl) dX1_areAllHome_2 ⟨Nat.le_of_ble_eq_true rfl, Nat.le_of_ble_eq_true rfl⟩ ?_
  refine lv_aload_n hx hb dX1_areAllHome_5 rfl (lv_at hl 0 rfl) ?_
  refine va_get (ci := 0) (v := .int (nI n)) (C := RX1) (T := TX1) (N := 16) hx hb hts hin_X1 hown hK hP 0 rfl rfl 1 (by decide) (hts (.fieldLink RX1 49 "ButtonGuests$Hotel" "guests" "I") (by decide +kernel)) (fun _ h9 => h9) rfl dX1_areAllHome_6 ?_
  refine lv_icmp_ne (tgt := 16) hx hb dX1_areAllHome_9 (by decide) (fun c_1 => ?_) (fun c_1 => ?_)
  · have c_1 : ¬ (hGI n ((nI n, fl, se, pr, re, go, ch), (sg, bu, wa, ho, we, st, gr, po, ri)) 2) = (nI n) := c_1
    refine lv_iconst (v := 0) hx hb dX1_areAllHome_16 (by decide) ?_
    exact zz_top (zb_f c_1) (hret _ _ dX1_areAllHome_17)
  · have c_1 : (hGI n ((nI n, fl, se, pr, re, go, ch), (sg, bu, wa, ho, we, st, gr, po, ri)) 2) = (nI n) := c_1
    refine lv_iconst (v := 1) hx hb dX1_areAllHome_12 (by decide) ?_
    refine lv_goto (tgt := 17) hx hb dX1_areAllHome_13 (by decide) ?_
    exact zz_top (zb_t c_1) (hret _ _ dX1_areAllHome_17)
abbrev rm_X1_number : Room := { frames := 1, cells := 0, slots := 0, locals := 23 }
set_option maxHeartbeats 4000000 in
set_option maxRecDepth 100000 in
theorem c_X1_number (l : Launch) (D : va_G) (cy : Nat → ClassId) (h : Nat → Nat) (n : Nat) (hn : n ≤ 4) (x : HS) (hg : x.1.1 = nI n) (v : Int32) : Met l yX1_number wsX1_number rm_X1_number (rdP D cy [.ref (h 0), .int v] (hotelW cy h x)) (QcRead (hNum n x v)) 0 0 (fun _ => False) := by
  obtain ⟨⟨gu, fl, se, pr, re, go, ch⟩, ⟨sg, bu, wa, ho, we, st, gr, po, ri⟩⟩ := x
  obtain rfl : gu = nI n := hg
  refine Mrd (cc := cX1_number) (maxL := 2) (ty := .int) (by decide) rfl (Nat.le_of_ble_eq_true rfl) rfl ?_
  intro p e s m args below meth c Q ls hF hK hP hl hret
  obtain ⟨hx, hb, hml, hown, hts⟩ := id hF
  have hown : s.vm.findClass RX1 = some m.cls := hown
  have hin_X1 : ∀ w ∈ u_ws RX1 TX1 16, w ∈ wsX1_number := by decide +kernel
  have hl : lv_has ls 2 [(0, .ref (h 0)), (1, .int v)] := hl
  refine lv_iload_n hx hb dX1_number_0 rfl (lv_at hl 1 rfl) ?_
  by_cases c_1 : v = 0
  · refine lv_tableIn (off := 63) (tgt := 64) hx hb dX1_number_1 (by rw [c_1]; decide) (by rw [c_1]; decide) (by rw [c_1]; rfl) (by decide) ?_
    refine lv_aload_n hx hb dX1_number_64 rfl (lv_at hl 0 rfl) ?_
    refine va_get (ci := 0) (v := .int (nI n)) (C := RX1) (T := TX1) (N := 16) hx hb hts hin_X1 hown hK hP 0 rfl rfl 1 (by decide) (hts (.fieldLink RX1 49 "ButtonGuests$Hotel" "guests" "I") (by decide +kernel)) (fun _ h9 => h9) rfl dX1_number_65 ?_
    exact zz_top (by simp only [hNum, if_pos c_1]) (hret _ _ dX1_number_68)
  by_cases c_2 : v = 1
  · refine lv_tableIn (off := 68) (tgt := 69) hx hb dX1_number_1 (by rw [c_2]; decide) (by rw [c_2]; decide) (by rw [c_2]; rfl) (by decide) ?_
    refine lv_aload_n hx hb dX1_number_69 rfl (lv_at hl 0 rfl) ?_
    refine va_get (ci := 0) (v := .int fl) (C := RX1) (T := TX1) (N := 16) hx hb hts hin_X1 hown hK hP 0 rfl rfl 2 (by decide) (hts (.fieldLink RX1 53 "ButtonGuests$Hotel" "floor" "I") (by decide +kernel)) (fun _ h9 => h9) rfl dX1_number_70 ?_
    exact zz_top (by simp only [hNum, if_neg c_1, if_pos c_2]) (hret _ _ dX1_number_73)
  by_cases c_3 : v = 2
  · refine lv_tableIn (off := 73) (tgt := 74) hx hb dX1_number_1 (by rw [c_3]; decide) (by rw [c_3]; decide) (by rw [c_3]; rfl) (by decide) ?_
    refine lv_aload_n hx hb dX1_number_74 rfl (lv_at hl 0 rfl) ?_
    refine rd_V (As := []) (rest := []) hF (c_X1_weightOfRiders l D cy h n hn ((nI n, fl, se, pr, re, go, ch), (sg, bu, wa, ho, we, st, gr, po, ri)) rfl ) (cwV 0 hts gX1_number_X1_weightOfRiders rfl rfl rfl (by decide +kernel) ⟨Nat.le_of_ble_eq_true rfl, Nat.le_of_ble_eq_true rfl⟩) hK hP 0 0 rfl rfl rfl rfl hl.1 rfl (Nat.le_of_ble_eq_true rfl) dX1_number_75 ⟨Nat.le_of_ble_eq_true rfl, Nat.le_of_ble_eq_true rfl⟩ ?_
    exact zz_top (by simp only [hNum, if_neg c_1, if_neg c_2, if_pos c_3]) (hret _ _ dX1_number_78)
  by_cases c_4 : v = 3
  · refine lv_tableIn (off := 78) (tgt := 79) hx hb dX1_number_1 (by rw [c_4]; decide) (by rw [c_4]; decide) (by rw [c_4]; rfl) (by decide) ?_
    refine lv_aload_n hx hb dX1_number_79 rfl (lv_at hl 0 rfl) ?_
    refine lv_iconst (v := 0) hx hb dX1_number_80 (by decide) ?_
    refine rd_V (As := [.int 0]) (rest := []) hF (c_X1_guestsIn l D cy h n hn ((nI n, fl, se, pr, re, go, ch), (sg, bu, wa, ho, we, st, gr, po, ri)) rfl 0) (cwV 1 hts gX1_number_X1_guestsIn rfl rfl rfl (by decide +kernel) ⟨Nat.le_of_ble_eq_true rfl, Nat.le_of_ble_eq_true rfl⟩) hK hP 0 0 rfl rfl rfl rfl hl.1 rfl (Nat.le_of_ble_eq_true rfl) dX1_number_81 ⟨Nat.le_of_ble_eq_true rfl, Nat.le_of_ble_eq_true rfl⟩ ?_
    exact zz_top (by simp only [hNum, if_neg c_1, if_neg c_2, if_neg c_3, if_pos c_4]) (hret _ _ dX1_number_84)
  by_cases c_5 : v = 4
  · refine lv_tableIn (off := 84) (tgt := 85) hx hb dX1_number_1 (by rw [c_5]; decide) (by rw [c_5]; decide) (by rw [c_5]; rfl) (by decide) ?_
    refine lv_aload_n hx hb dX1_number_85 rfl (lv_at hl 0 rfl) ?_
    refine lv_iconst (v := 1) hx hb dX1_number_86 (by decide) ?_
    refine rd_V (As := [.int 1]) (rest := []) hF (c_X1_guestsIn l D cy h n hn ((nI n, fl, se, pr, re, go, ch), (sg, bu, wa, ho, we, st, gr, po, ri)) rfl 1) (cwV 1 hts gX1_number_X1_guestsIn rfl rfl rfl (by decide +kernel) ⟨Nat.le_of_ble_eq_true rfl, Nat.le_of_ble_eq_true rfl⟩) hK hP 0 0 rfl rfl rfl rfl hl.1 rfl (Nat.le_of_ble_eq_true rfl) dX1_number_87 ⟨Nat.le_of_ble_eq_true rfl, Nat.le_of_ble_eq_true rfl⟩ ?_
    exact zz_top (by simp only [hNum, if_neg c_1, if_neg c_2, if_neg c_3, if_neg c_4, if_pos c_5]) (hret _ _ dX1_number_90)
  by_cases c_6 : v = 5
  · refine lv_tableIn (off := 90) (tgt := 91) hx hb dX1_number_1 (by rw [c_6]; decide) (by rw [c_6]; decide) (by rw [c_6]; rfl) (by decide) ?_
    refine lv_aload_n hx hb dX1_number_91 rfl (lv_at hl 0 rfl) ?_
    refine lv_iconst (v := 2) hx hb dX1_number_92 (by decide) ?_
    refine rd_V (As := [.int 2]) (rest := []) hF (c_X1_guestsIn l D cy h n hn ((nI n, fl, se, pr, re, go, ch), (sg, bu, wa, ho, we, st, gr, po, ri)) rfl 2) (cwV 1 hts gX1_number_X1_guestsIn rfl rfl rfl (by decide +kernel) ⟨Nat.le_of_ble_eq_true rfl, Nat.le_of_ble_eq_true rfl⟩) hK hP 0 0 rfl rfl rfl rfl hl.1 rfl (Nat.le_of_ble_eq_true rfl) dX1_number_93 ⟨Nat.le_of_ble_eq_true rfl, Nat.le_of_ble_eq_true rfl⟩ ?_
    exact zz_top (by simp only [hNum, if_neg c_1, if_neg c_2, if_neg c_3, if_neg c_4, if_neg c_5, if_pos c_6]) (hret _ _ dX1_number_96)
  by_cases c_7 : v = 6
  · refine lv_tableIn (off := 96) (tgt := 97) hx hb dX1_number_1 (by rw [c_7]; decide) (by rw [c_7]; decide) (by rw [c_7]; rfl) (by decide) ?_
    refine lv_aload_n hx hb dX1_number_97 rfl (lv_at hl 0 rfl) ?_
    refine va_get (ci := 0) (v := .int se) (C := RX1) (T := TX1) (N := 16) hx hb hts hin_X1 hown hK hP 0 rfl rfl 3 (by decide) (hts (.fieldLink RX1 56 "ButtonGuests$Hotel" "seconds" "I") (by decide +kernel)) (fun _ h9 => h9) rfl dX1_number_98 ?_
    exact zz_top (by simp only [hNum, if_neg c_1, if_neg c_2, if_neg c_3, if_neg c_4, if_neg c_5, if_neg c_6, if_pos c_7]) (hret _ _ dX1_number_101)
  by_cases c_8 : v = 7
  · refine lv_tableIn (off := 101) (tgt := 102) hx hb dX1_number_1 (by rw [c_8]; decide) (by rw [c_8]; decide) (by rw [c_8]; rfl) (by decide) ?_
    refine lv_aload_n hx hb dX1_number_102 rfl (lv_at hl 0 rfl) ?_
    refine va_get (ci := 0) (v := .int pr) (C := RX1) (T := TX1) (N := 16) hx hb hts hin_X1 hown hK hP 0 rfl rfl 4 (by decide) (hts (.fieldLink RX1 59 "ButtonGuests$Hotel" "presses" "I") (by decide +kernel)) (fun _ h9 => h9) rfl dX1_number_103 ?_
    exact zz_top (by simp only [hNum, if_neg c_1, if_neg c_2, if_neg c_3, if_neg c_4, if_neg c_5, if_neg c_6, if_neg c_7, if_pos c_8]) (hret _ _ dX1_number_106)
  by_cases c_9 : v = 8
  · refine lv_tableIn (off := 106) (tgt := 107) hx hb dX1_number_1 (by rw [c_9]; decide) (by rw [c_9]; decide) (by rw [c_9]; rfl) (by decide) ?_
    refine lv_aload_n hx hb dX1_number_107 rfl (lv_at hl 0 rfl) ?_
    refine va_get (ci := 0) (v := .int re) (C := RX1) (T := TX1) (N := 16) hx hb hts hin_X1 hown hK hP 0 rfl rfl 5 (by decide) (hts (.fieldLink RX1 62 "ButtonGuests$Hotel" "refusals" "I") (by decide +kernel)) (fun _ h9 => h9) rfl dX1_number_108 ?_
    exact zz_top (by simp only [hNum, if_neg c_1, if_neg c_2, if_neg c_3, if_neg c_4, if_neg c_5, if_neg c_6, if_neg c_7, if_neg c_8, if_pos c_9]) (hret _ _ dX1_number_111)
  by_cases c_10 : v = 9
  · refine lv_tableIn (off := 111) (tgt := 112) hx hb dX1_number_1 (by rw [c_10]; decide) (by rw [c_10]; decide) (by rw [c_10]; rfl) (by decide) ?_
    refine lv_aload_n hx hb dX1_number_112 rfl (lv_at hl 0 rfl) ?_
    refine va_get (ci := 0) (v := .int go) (C := RX1) (T := TX1) (N := 16) hx hb hts hin_X1 hown hK hP 0 rfl rfl 6 (by decide) (hts (.fieldLink RX1 65 "ButtonGuests$Hotel" "floorsGone" "I") (by decide +kernel)) (fun _ h9 => h9) rfl dX1_number_113 ?_
    exact zz_top (by simp only [hNum, if_neg c_1, if_neg c_2, if_neg c_3, if_neg c_4, if_neg c_5, if_neg c_6, if_neg c_7, if_neg c_8, if_neg c_9, if_pos c_10]) (hret _ _ dX1_number_116)
  by_cases c_11 : v = 10
  · refine lv_tableIn (off := 116) (tgt := 117) hx hb dX1_number_1 (by rw [c_11]; decide) (by rw [c_11]; decide) (by rw [c_11]; rfl) (by decide) ?_
    refine lv_aload_n hx hb dX1_number_117 rfl (lv_at hl 0 rfl) ?_
    refine rd_V (As := []) (rest := []) hF (c_X1_allGrudges l D cy h n hn ((nI n, fl, se, pr, re, go, ch), (sg, bu, wa, ho, we, st, gr, po, ri)) rfl ) (cwV 0 hts gX1_number_X1_allGrudges rfl rfl rfl (by decide +kernel) ⟨Nat.le_of_ble_eq_true rfl, Nat.le_of_ble_eq_true rfl⟩) hK hP 0 0 rfl rfl rfl rfl hl.1 rfl (Nat.le_of_ble_eq_true rfl) dX1_number_118 ⟨Nat.le_of_ble_eq_true rfl, Nat.le_of_ble_eq_true rfl⟩ ?_
    exact zz_top (by simp only [hNum, if_neg c_1, if_neg c_2, if_neg c_3, if_neg c_4, if_neg c_5, if_neg c_6, if_neg c_7, if_neg c_8, if_neg c_9, if_neg c_10, if_pos c_11]) (hret _ _ dX1_number_121)
  by_cases c_12 : v = 11
  · refine lv_tableIn (off := 121) (tgt := 122) hx hb dX1_number_1 (by rw [c_12]; decide) (by rw [c_12]; decide) (by rw [c_12]; rfl) (by decide) ?_
    refine lv_aload_n hx hb dX1_number_122 rfl (lv_at hl 0 rfl) ?_
    refine va_get (ci := 0) (v := .int ch) (C := RX1) (T := TX1) (N := 16) hx hb hts hin_X1 hown hK hP 0 rfl rfl 7 (by decide) (hts (.fieldLink RX1 68 "ButtonGuests$Hotel" "cameHome" "I") (by decide +kernel)) (fun _ h9 => h9) rfl dX1_number_123 ?_
    exact zz_top (by simp only [hNum, if_neg c_1, if_neg c_2, if_neg c_3, if_neg c_4, if_neg c_5, if_neg c_6, if_neg c_7, if_neg c_8, if_neg c_9, if_neg c_10, if_neg c_11, if_pos c_12]) (hret _ _ dX1_number_126)
  have hsw : (v).toInt < 0 ∨ 11 < (v).toInt := by
    have q0 := fun (v9 : Int32) (h : ¬ v = v9) => fun (q : (v).toInt = v9.toInt) => h (Int32.toInt_inj.mp q)
    have q_c_1 : ¬ (v).toInt = 0 := q0 0 c_1
    have q_c_2 : ¬ (v).toInt = 1 := q0 1 c_2
    have q_c_3 : ¬ (v).toInt = 2 := q0 2 c_3
    have q_c_4 : ¬ (v).toInt = 3 := q0 3 c_4
    have q_c_5 : ¬ (v).toInt = 4 := q0 4 c_5
    have q_c_6 : ¬ (v).toInt = 5 := q0 5 c_6
    have q_c_7 : ¬ (v).toInt = 6 := q0 6 c_7
    have q_c_8 : ¬ (v).toInt = 7 := q0 7 c_8
    have q_c_9 : ¬ (v).toInt = 8 := q0 8 c_9
    have q_c_10 : ¬ (v).toInt = 9 := q0 9 c_10
    have q_c_11 : ¬ (v).toInt = 10 := q0 10 c_11
    have q_c_12 : ¬ (v).toInt = 11 := q0 11 c_12
    omega
  refine lv_tableOut (tgt := 127) hx hb dX1_number_1 hsw (by decide) ?_
  refine lv_iconst (v := (-1)) hx hb dX1_number_127 (by decide) ?_
  exact zz_top (by simp only [hNum, if_neg c_1, if_neg c_2, if_neg c_3, if_neg c_4, if_neg c_5, if_neg c_6, if_neg c_7, if_neg c_8, if_neg c_9, if_neg c_10, if_neg c_11, if_neg c_12]) (hret _ _ dX1_number_128)
abbrev rm_X1_guestNumber : Room := { frames := 2, cells := 0, slots := 0, locals := 42 }
set_option maxHeartbeats 4000000 in
set_option maxRecDepth 100000 in
theorem c_X1_guestNumber (l : Launch) (D : va_G) (cy : Nat → ClassId) (h : Nat → Nat) (n : Nat) (hn : n ≤ 4) (x : HS) (hg : x.1.1 = nI n) (g v : Int32) : Met l yX1_guestNumber wsX1_guestNumber rm_X1_guestNumber (rdP D cy [.ref (h 0), .int g, .int v] (hotelW cy h x)) (QcRead (hGuestN x g v)) 0 0 (fun _ => False) := by
  obtain ⟨⟨gu, fl, se, pr, re, go, ch⟩, ⟨sg, bu, wa, ho, we, st, gr, po, ri⟩⟩ := x
  obtain rfl : gu = nI n := hg
  refine Mrd (cc := cX1_guestNumber) (maxL := 3) (ty := .int) (by decide) rfl (Nat.le_of_ble_eq_true rfl) rfl ?_
  intro p e s m args below meth c Q ls hF hK hP hl hret
  obtain ⟨hx, hb, hml, hown, hts⟩ := id hF
  have hown : s.vm.findClass RX1 = some m.cls := hown
  have hin_X1 : ∀ w ∈ u_ws RX1 TX1 16, w ∈ wsX1_guestNumber := by decide +kernel
  have hl : lv_has ls 3 [(0, .ref (h 0)), (1, .int g), (2, .int v)] := hl
  refine lv_aload_n hx hb dX1_guestNumber_0 rfl (lv_at hl 0 rfl) ?_
  refine lv_iload_n hx hb dX1_guestNumber_1 rfl (lv_at hl 1 rfl) ?_
  refine rd_V (As := [.int g]) (rest := []) hF (c_X1_isGuest l D cy h n hn ((nI n, fl, se, pr, re, go, ch), (sg, bu, wa, ho, we, st, gr, po, ri)) rfl g) (cwV 1 hts gX1_guestNumber_X1_isGuest rfl rfl rfl (by decide +kernel) ⟨Nat.le_of_ble_eq_true rfl, Nat.le_of_ble_eq_true rfl⟩) hK hP 0 0 rfl rfl rfl rfl hl.1 rfl (Nat.le_of_ble_eq_true rfl) dX1_guestNumber_2 ⟨Nat.le_of_ble_eq_true rfl, Nat.le_of_ble_eq_true rfl⟩ ?_
  refine lv_if_ne (tgt := 10) hx hb dX1_guestNumber_5 (by decide) (fun c_1 => ?_) (fun c_1 => ?_)
  · have c_1 := zb_ne.mp c_1
    obtain ⟨jg, hjg, rfl⟩ := isG_of hn c_1
    refine lv_iload_n hx hb dX1_guestNumber_10 rfl (lv_at hl 2 rfl) ?_
    by_cases c_2 : v = 0
    · refine lv_tableIn (off := 45) (tgt := 56) hx hb dX1_guestNumber_11 (by rw [c_2]; decide) (by rw [c_2]; decide) (by rw [c_2]; rfl) (by decide) ?_
      refine lv_aload_n hx hb dX1_guestNumber_56 rfl (lv_at hl 0 rfl) ?_
      refine va_get (ci := 0) (v := .ref (h 2)) (C := RX1) (T := TX1) (N := 16) hx hb hts hin_X1 hown hK hP 0 rfl rfl 8 (by decide) (hts (.fieldLink RX1 15 "ButtonGuests$Hotel" "button" "[I") (by decide +kernel)) (fun _ h9 => h9) rfl dX1_guestNumber_57 ?_
      refine lv_iload_n hx hb dX1_guestNumber_60 rfl (lv_at hl 1 rfl) ?_
      refine zz_iald hx hb hK hP 2 0 jg rfl rfl rfl ⟨by omega, Nat.le_of_ble_eq_true rfl⟩ dX1_guestNumber_61 ?_
      exact zz_top (by simp only [hGuestN, hGN, if_pos c_1, if_pos c_2, nI_clamp (show jg < 2 ^ 31 by omega)]) (hret _ _ dX1_guestNumber_62)
    by_cases c_3 : v = 1
    · refine lv_tableIn (off := 52) (tgt := 63) hx hb dX1_guestNumber_11 (by rw [c_3]; decide) (by rw [c_3]; decide) (by rw [c_3]; rfl) (by decide) ?_
      refine lv_aload_n hx hb dX1_guestNumber_63 rfl (lv_at hl 0 rfl) ?_
      refine va_get (ci := 0) (v := .ref (h 4)) (C := RX1) (T := TX1) (N := 16) hx hb hts hin_X1 hown hK hP 0 rfl rfl 10 (by decide) (hts (.fieldLink RX1 21 "ButtonGuests$Hotel" "home" "[I") (by decide +kernel)) (fun _ h9 => h9) rfl dX1_guestNumber_64 ?_
      refine lv_iload_n hx hb dX1_guestNumber_67 rfl (lv_at hl 1 rfl) ?_
      refine zz_iald hx hb hK hP 4 0 jg rfl rfl rfl ⟨by omega, Nat.le_of_ble_eq_true rfl⟩ dX1_guestNumber_68 ?_
      exact zz_top (by simp only [hGuestN, hGN, if_pos c_1, if_neg c_2, if_pos c_3, nI_clamp (show jg < 2 ^ 31 by omega)]) (hret _ _ dX1_guestNumber_69)
    by_cases c_4 : v = 2
    · refine lv_tableIn (off := 59) (tgt := 70) hx hb dX1_guestNumber_11 (by rw [c_4]; decide) (by rw [c_4]; decide) (by rw [c_4]; rfl) (by decide) ?_
      refine lv_aload_n hx hb dX1_guestNumber_70 rfl (lv_at hl 0 rfl) ?_
      refine va_get (ci := 0) (v := .ref (h 5)) (C := RX1) (T := TX1) (N := 16) hx hb hts hin_X1 hown hK hP 0 rfl rfl 11 (by decide) (hts (.fieldLink RX1 24 "ButtonGuests$Hotel" "weight" "[I") (by decide +kernel)) (fun _ h9 => h9) rfl dX1_guestNumber_71 ?_
      refine lv_iload_n hx hb dX1_guestNumber_74 rfl (lv_at hl 1 rfl) ?_
      refine zz_iald hx hb hK hP 5 0 jg rfl rfl rfl ⟨by omega, Nat.le_of_ble_eq_true rfl⟩ dX1_guestNumber_75 ?_
      exact zz_top (by simp only [hGuestN, hGN, if_pos c_1, if_neg c_2, if_neg c_3, if_pos c_4, nI_clamp (show jg < 2 ^ 31 by omega)]) (hret _ _ dX1_guestNumber_76)
    by_cases c_5 : v = 3
    · refine lv_tableIn (off := 66) (tgt := 77) hx hb dX1_guestNumber_11 (by rw [c_5]; decide) (by rw [c_5]; decide) (by rw [c_5]; rfl) (by decide) ?_
      refine lv_aload_n hx hb dX1_guestNumber_77 rfl (lv_at hl 0 rfl) ?_
      refine va_get (ci := 0) (v := .ref (h 6)) (C := RX1) (T := TX1) (N := 16) hx hb hts hin_X1 hown hK hP 0 rfl rfl 12 (by decide) (hts (.fieldLink RX1 27 "ButtonGuests$Hotel" "state" "[I") (by decide +kernel)) (fun _ h9 => h9) rfl dX1_guestNumber_78 ?_
      refine lv_iload_n hx hb dX1_guestNumber_81 rfl (lv_at hl 1 rfl) ?_
      refine zz_iald hx hb hK hP 6 0 jg rfl rfl rfl ⟨by omega, Nat.le_of_ble_eq_true rfl⟩ dX1_guestNumber_82 ?_
      exact zz_top (by simp only [hGuestN, hGN, if_pos c_1, if_neg c_2, if_neg c_3, if_neg c_4, if_pos c_5, nI_clamp (show jg < 2 ^ 31 by omega)]) (hret _ _ dX1_guestNumber_83)
    by_cases c_6 : v = 4
    · refine lv_tableIn (off := 73) (tgt := 84) hx hb dX1_guestNumber_11 (by rw [c_6]; decide) (by rw [c_6]; decide) (by rw [c_6]; rfl) (by decide) ?_
      refine lv_aload_n hx hb dX1_guestNumber_84 rfl (lv_at hl 0 rfl) ?_
      refine lv_iload_n hx hb dX1_guestNumber_85 rfl (lv_at hl 1 rfl) ?_
      refine rd_V (As := [.int (nI jg)]) (rest := []) hF (c_X1_whereIs l D cy h n hn ((nI n, fl, se, pr, re, go, ch), (sg, bu, wa, ho, we, st, gr, po, ri)) rfl (nI jg)) (cwV 1 hts gX1_guestNumber_X1_whereIs rfl rfl rfl (by decide +kernel) ⟨Nat.le_of_ble_eq_true rfl, Nat.le_of_ble_eq_true rfl⟩) hK hP 0 0 rfl rfl rfl rfl hl.1 rfl (Nat.le_of_ble_eq_true rfl) dX1_guestNumber_86 ⟨Nat.le_of_ble_eq_true rfl, Nat.le_of_ble_eq_true rfl⟩ ?_
      exact zz_top (by simp only [hGuestN, hGN, hWhereG, if_pos c_1, if_neg c_2, if_neg c_3, if_neg c_4, if_neg c_5, if_pos c_6, nI_clamp (show jg < 2 ^ 31 by omega)]) (hret _ _ dX1_guestNumber_89)
    by_cases c_7 : v = 5
    · refine lv_tableIn (off := 79) (tgt := 90) hx hb dX1_guestNumber_11 (by rw [c_7]; decide) (by rw [c_7]; decide) (by rw [c_7]; rfl) (by decide) ?_
      refine lv_aload_n hx hb dX1_guestNumber_90 rfl (lv_at hl 0 rfl) ?_
      refine va_get (ci := 0) (v := .ref (h 7)) (C := RX1) (T := TX1) (N := 16) hx hb hts hin_X1 hown hK hP 0 rfl rfl 13 (by decide) (hts (.fieldLink RX1 30 "ButtonGuests$Hotel" "grudges" "[I") (by decide +kernel)) (fun _ h9 => h9) rfl dX1_guestNumber_91 ?_
      refine lv_iload_n hx hb dX1_guestNumber_94 rfl (lv_at hl 1 rfl) ?_
      refine zz_iald hx hb hK hP 7 0 jg rfl rfl rfl ⟨by omega, Nat.le_of_ble_eq_true rfl⟩ dX1_guestNumber_95 ?_
      exact zz_top (by simp only [hGuestN, hGN, if_pos c_1, if_neg c_2, if_neg c_3, if_neg c_4, if_neg c_5, if_neg c_6, if_pos c_7, nI_clamp (show jg < 2 ^ 31 by omega)]) (hret _ _ dX1_guestNumber_96)
    by_cases c_8 : v = 6
    · refine lv_tableIn (off := 86) (tgt := 97) hx hb dX1_guestNumber_11 (by rw [c_8]; decide) (by rw [c_8]; decide) (by rw [c_8]; rfl) (by decide) ?_
      refine lv_aload_n hx hb dX1_guestNumber_97 rfl (lv_at hl 0 rfl) ?_
      refine va_get (ci := 0) (v := .ref (h 8)) (C := RX1) (T := TX1) (N := 16) hx hb hts hin_X1 hown hK hP 0 rfl rfl 14 (by decide) (hts (.fieldLink RX1 33 "ButtonGuests$Hotel" "pressesOf" "[I") (by decide +kernel)) (fun _ h9 => h9) rfl dX1_guestNumber_98 ?_
      refine lv_iload_n hx hb dX1_guestNumber_101 rfl (lv_at hl 1 rfl) ?_
      refine zz_iald hx hb hK hP 8 0 jg rfl rfl rfl ⟨by omega, Nat.le_of_ble_eq_true rfl⟩ dX1_guestNumber_102 ?_
      exact zz_top (by simp only [hGuestN, hGN, if_pos c_1, if_neg c_2, if_neg c_3, if_neg c_4, if_neg c_5, if_neg c_6, if_neg c_7, if_pos c_8, nI_clamp (show jg < 2 ^ 31 by omega)]) (hret _ _ dX1_guestNumber_103)
    by_cases c_9 : v = 7
    · refine lv_tableIn (off := 93) (tgt := 104) hx hb dX1_guestNumber_11 (by rw [c_9]; decide) (by rw [c_9]; decide) (by rw [c_9]; rfl) (by decide) ?_
      refine lv_aload_n hx hb dX1_guestNumber_104 rfl (lv_at hl 0 rfl) ?_
      refine va_get (ci := 0) (v := .ref (h 9)) (C := RX1) (T := TX1) (N := 16) hx hb hts hin_X1 hown hK hP 0 rfl rfl 15 (by decide) (hts (.fieldLink RX1 36 "ButtonGuests$Hotel" "ridden" "[I") (by decide +kernel)) (fun _ h9 => h9) rfl dX1_guestNumber_105 ?_
      refine lv_iload_n hx hb dX1_guestNumber_108 rfl (lv_at hl 1 rfl) ?_
      refine zz_iald hx hb hK hP 9 0 jg rfl rfl rfl ⟨by omega, Nat.le_of_ble_eq_true rfl⟩ dX1_guestNumber_109 ?_
      exact zz_top (by simp only [hGuestN, hGN, if_pos c_1, if_neg c_2, if_neg c_3, if_neg c_4, if_neg c_5, if_neg c_6, if_neg c_7, if_neg c_8, if_pos c_9, nI_clamp (show jg < 2 ^ 31 by omega)]) (hret _ _ dX1_guestNumber_110)
    have hsw : (v).toInt < 0 ∨ 7 < (v).toInt := by
      have q0 := fun (v9 : Int32) (h : ¬ v = v9) => fun (q : (v).toInt = v9.toInt) => h (Int32.toInt_inj.mp q)
      have q_c_2 : ¬ (v).toInt = 0 := q0 0 c_2
      have q_c_3 : ¬ (v).toInt = 1 := q0 1 c_3
      have q_c_4 : ¬ (v).toInt = 2 := q0 2 c_4
      have q_c_5 : ¬ (v).toInt = 3 := q0 3 c_5
      have q_c_6 : ¬ (v).toInt = 4 := q0 4 c_6
      have q_c_7 : ¬ (v).toInt = 5 := q0 5 c_7
      have q_c_8 : ¬ (v).toInt = 6 := q0 6 c_8
      have q_c_9 : ¬ (v).toInt = 7 := q0 7 c_9
      omega
    refine lv_tableOut (tgt := 111) hx hb dX1_guestNumber_11 hsw (by decide) ?_
    refine lv_iconst (v := (-1)) hx hb dX1_guestNumber_111 (by decide) ?_
    exact zz_top (by simp only [hGuestN, hGN, if_pos c_1, if_neg c_2, if_neg c_3, if_neg c_4, if_neg c_5, if_neg c_6, if_neg c_7, if_neg c_8, if_neg c_9, nI_clamp (show jg < 2 ^ 31 by omega)]) (hret _ _ dX1_guestNumber_112)
  · have c_1 := zb_eq.mp c_1
    refine lv_iconst (v := (-1)) hx hb dX1_guestNumber_8 (by decide) ?_
    exact zz_top (by simp only [hGuestN, hGN, if_neg c_1]) (hret _ _ dX1_guestNumber_9)
abbrev rm_X1_stateOf : Room := { frames := 1, cells := 0, slots := 0, locals := 21 }
set_option maxHeartbeats 4000000 in
set_option maxRecDepth 100000 in
theorem c_X1_stateOf (l : Launch) (D : va_G) (cy : Nat → ClassId) (h : Nat → Nat) (n : Nat) (hn : n ≤ 4) (x : HS) (hg : x.1.1 = nI n) (g : Int32) : Met l yX1_stateOf wsX1_stateOf rm_X1_stateOf (rdP D cy [.ref (h 0), .int g] (hotelW cy h x)) (QcRead (hSt x g)) 0 0 (fun _ => False) := by
  obtain ⟨⟨gu, fl, se, pr, re, go, ch⟩, ⟨sg, bu, wa, ho, we, st, gr, po, ri⟩⟩ := x
  obtain rfl : gu = nI n := hg
  refine Mrd (cc := cX1_stateOf) (maxL := 2) (ty := .int) (by decide) rfl (Nat.le_of_ble_eq_true rfl) rfl ?_
  intro p e s m args below meth c Q ls hF hK hP hl hret
  obtain ⟨hx, hb, hml, hown, hts⟩ := id hF
  have hown : s.vm.findClass RX1 = some m.cls := hown
  have hin_X1 : ∀ w ∈ u_ws RX1 TX1 16, w ∈ wsX1_stateOf := by decide +kernel
  have hl : lv_has ls 2 [(0, .ref (h 0)), (1, .int g)] := hl
  refine lv_aload_n hx hb dX1_stateOf_0 rfl (lv_at hl 0 rfl) ?_
  refine lv_iload_n hx hb dX1_stateOf_1 rfl (lv_at hl 1 rfl) ?_
  refine rd_V (As := [.int g]) (rest := []) hF (c_X1_isGuest l D cy h n hn ((nI n, fl, se, pr, re, go, ch), (sg, bu, wa, ho, we, st, gr, po, ri)) rfl g) (cwV 1 hts gX1_stateOf_X1_isGuest rfl rfl rfl (by decide +kernel) ⟨Nat.le_of_ble_eq_true rfl, Nat.le_of_ble_eq_true rfl⟩) hK hP 0 0 rfl rfl rfl rfl hl.1 rfl (Nat.le_of_ble_eq_true rfl) dX1_stateOf_2 ⟨Nat.le_of_ble_eq_true rfl, Nat.le_of_ble_eq_true rfl⟩ ?_
  refine lv_if_eq (tgt := 17) hx hb dX1_stateOf_5 (by decide) (fun c_1 => ?_) (fun c_1 => ?_)
  · have c_1 := zb_eq.mp c_1
    refine lv_iconst (v := (-1)) hx hb dX1_stateOf_17 (by decide) ?_
    exact zz_top (by simp only [hSt, if_neg c_1]) (hret _ _ dX1_stateOf_18)
  · have c_1 := zb_ne.mp c_1
    obtain ⟨jg, hjg, rfl⟩ := isG_of hn c_1
    refine lv_aload_n hx hb dX1_stateOf_8 rfl (lv_at hl 0 rfl) ?_
    refine va_get (ci := 0) (v := .ref (h 6)) (C := RX1) (T := TX1) (N := 16) hx hb hts hin_X1 hown hK hP 0 rfl rfl 12 (by decide) (hts (.fieldLink RX1 27 "ButtonGuests$Hotel" "state" "[I") (by decide +kernel)) (fun _ h9 => h9) rfl dX1_stateOf_9 ?_
    refine lv_iload_n hx hb dX1_stateOf_12 rfl (lv_at hl 1 rfl) ?_
    refine zz_iald hx hb hK hP 6 0 jg rfl rfl rfl ⟨by omega, Nat.le_of_ble_eq_true rfl⟩ dX1_stateOf_13 ?_
    refine lv_goto (tgt := 18) hx hb dX1_stateOf_14 (by decide) ?_
    exact zz_top (by simp only [hSt, if_pos c_1, nI_clamp (show jg < 2 ^ 31 by omega)]) (hret _ _ dX1_stateOf_18)
abbrev rm_X1_grudgesOf : Room := { frames := 1, cells := 0, slots := 0, locals := 21 }
set_option maxHeartbeats 4000000 in
set_option maxRecDepth 100000 in
theorem c_X1_grudgesOf (l : Launch) (D : va_G) (cy : Nat → ClassId) (h : Nat → Nat) (n : Nat) (hn : n ≤ 4) (x : HS) (hg : x.1.1 = nI n) (g : Int32) : Met l yX1_grudgesOf wsX1_grudgesOf rm_X1_grudgesOf (rdP D cy [.ref (h 0), .int g] (hotelW cy h x)) (QcRead (hGr x g)) 0 0 (fun _ => False) := by
  obtain ⟨⟨gu, fl, se, pr, re, go, ch⟩, ⟨sg, bu, wa, ho, we, st, gr, po, ri⟩⟩ := x
  obtain rfl : gu = nI n := hg
  refine Mrd (cc := cX1_grudgesOf) (maxL := 2) (ty := .int) (by decide) rfl (Nat.le_of_ble_eq_true rfl) rfl ?_
  intro p e s m args below meth c Q ls hF hK hP hl hret
  obtain ⟨hx, hb, hml, hown, hts⟩ := id hF
  have hown : s.vm.findClass RX1 = some m.cls := hown
  have hin_X1 : ∀ w ∈ u_ws RX1 TX1 16, w ∈ wsX1_grudgesOf := by decide +kernel
  have hl : lv_has ls 2 [(0, .ref (h 0)), (1, .int g)] := hl
  refine lv_aload_n hx hb dX1_grudgesOf_0 rfl (lv_at hl 0 rfl) ?_
  refine lv_iload_n hx hb dX1_grudgesOf_1 rfl (lv_at hl 1 rfl) ?_
  refine rd_V (As := [.int g]) (rest := []) hF (c_X1_isGuest l D cy h n hn ((nI n, fl, se, pr, re, go, ch), (sg, bu, wa, ho, we, st, gr, po, ri)) rfl g) (cwV 1 hts gX1_grudgesOf_X1_isGuest rfl rfl rfl (by decide +kernel) ⟨Nat.le_of_ble_eq_true rfl, Nat.le_of_ble_eq_true rfl⟩) hK hP 0 0 rfl rfl rfl rfl hl.1 rfl (Nat.le_of_ble_eq_true rfl) dX1_grudgesOf_2 ⟨Nat.le_of_ble_eq_true rfl, Nat.le_of_ble_eq_true rfl⟩ ?_
  refine lv_if_eq (tgt := 17) hx hb dX1_grudgesOf_5 (by decide) (fun c_1 => ?_) (fun c_1 => ?_)
  · have c_1 := zb_eq.mp c_1
    refine lv_iconst (v := (-1)) hx hb dX1_grudgesOf_17 (by decide) ?_
    exact zz_top (by simp only [hGr, if_neg c_1]) (hret _ _ dX1_grudgesOf_18)
  · have c_1 := zb_ne.mp c_1
    obtain ⟨jg, hjg, rfl⟩ := isG_of hn c_1
    refine lv_aload_n hx hb dX1_grudgesOf_8 rfl (lv_at hl 0 rfl) ?_
    refine va_get (ci := 0) (v := .ref (h 7)) (C := RX1) (T := TX1) (N := 16) hx hb hts hin_X1 hown hK hP 0 rfl rfl 13 (by decide) (hts (.fieldLink RX1 30 "ButtonGuests$Hotel" "grudges" "[I") (by decide +kernel)) (fun _ h9 => h9) rfl dX1_grudgesOf_9 ?_
    refine lv_iload_n hx hb dX1_grudgesOf_12 rfl (lv_at hl 1 rfl) ?_
    refine zz_iald hx hb hK hP 7 0 jg rfl rfl rfl ⟨by omega, Nat.le_of_ble_eq_true rfl⟩ dX1_grudgesOf_13 ?_
    refine lv_goto (tgt := 18) hx hb dX1_grudgesOf_14 (by decide) ?_
    exact zz_top (by simp only [hGr, if_pos c_1, nI_clamp (show jg < 2 ^ 31 by omega)]) (hret _ _ dX1_grudgesOf_18)
abbrev rm_X1_reasonOf : Room := { frames := 1, cells := 0, slots := 0, locals := 21 }
set_option maxHeartbeats 4000000 in
set_option maxRecDepth 100000 in
theorem c_X1_reasonOf (l : Launch) (D : va_G) (cy : Nat → ClassId) (h : Nat → Nat) (n : Nat) (hn : n ≤ 4) (x : HS) (hg : x.1.1 = nI n) (g : Int32) : Met l yX1_reasonOf wsX1_reasonOf rm_X1_reasonOf (rdP D cy [.ref (h 0), .int g] (hotelW cy h x)) (QcRead (hReas x g)) 0 0 (fun _ => False) := by
  obtain ⟨⟨gu, fl, se, pr, re, go, ch⟩, ⟨sg, bu, wa, ho, we, st, gr, po, ri⟩⟩ := x
  obtain rfl : gu = nI n := hg
  refine Mrd (cc := cX1_reasonOf) (maxL := 2) (ty := .int) (by decide) rfl (Nat.le_of_ble_eq_true rfl) rfl ?_
  intro p e s m args below meth c Q ls hF hK hP hl hret
  obtain ⟨hx, hb, hml, hown, hts⟩ := id hF
  have hown : s.vm.findClass RX1 = some m.cls := hown
  have hin_X1 : ∀ w ∈ u_ws RX1 TX1 16, w ∈ wsX1_reasonOf := by decide +kernel
  have hl : lv_has ls 2 [(0, .ref (h 0)), (1, .int g)] := hl
  refine lv_aload_n hx hb dX1_reasonOf_0 rfl (lv_at hl 0 rfl) ?_
  refine lv_iload_n hx hb dX1_reasonOf_1 rfl (lv_at hl 1 rfl) ?_
  refine rd_V (As := [.int g]) (rest := []) hF (c_X1_isGuest l D cy h n hn ((nI n, fl, se, pr, re, go, ch), (sg, bu, wa, ho, we, st, gr, po, ri)) rfl g) (cwV 1 hts gX1_reasonOf_X1_isGuest rfl rfl rfl (by decide +kernel) ⟨Nat.le_of_ble_eq_true rfl, Nat.le_of_ble_eq_true rfl⟩) hK hP 0 0 rfl rfl rfl rfl hl.1 rfl (Nat.le_of_ble_eq_true rfl) dX1_reasonOf_2 ⟨Nat.le_of_ble_eq_true rfl, Nat.le_of_ble_eq_true rfl⟩ ?_
  refine lv_if_ne (tgt := 10) hx hb dX1_reasonOf_5 (by decide) (fun c_1 => ?_) (fun c_1 => ?_)
  · have c_1 := zb_ne.mp c_1
    obtain ⟨jg, hjg, rfl⟩ := isG_of hn c_1
    refine lv_aload_n hx hb dX1_reasonOf_10 rfl (lv_at hl 0 rfl) ?_
    refine va_get (ci := 0) (v := .ref (h 6)) (C := RX1) (T := TX1) (N := 16) hx hb hts hin_X1 hown hK hP 0 rfl rfl 12 (by decide) (hts (.fieldLink RX1 27 "ButtonGuests$Hotel" "state" "[I") (by decide +kernel)) (fun _ h9 => h9) rfl dX1_reasonOf_11 ?_
    refine lv_iload_n hx hb dX1_reasonOf_14 rfl (lv_at hl 1 rfl) ?_
    refine zz_iald hx hb hK hP 6 0 jg rfl rfl rfl ⟨by omega, Nat.le_of_ble_eq_true rfl⟩ dX1_reasonOf_15 ?_
    refine lv_iconst (v := 2) hx hb dX1_reasonOf_16 (by decide) ?_
    refine lv_icmp_ne (tgt := 22) hx hb dX1_reasonOf_17 (by decide) (fun c_2 => ?_) (fun c_2 => ?_)
    · have c_2 : ¬ (st jg) = 2 := c_2
      refine lv_aload_n hx hb dX1_reasonOf_22 rfl (lv_at hl 0 rfl) ?_
      refine va_get (ci := 0) (v := .ref (h 7)) (C := RX1) (T := TX1) (N := 16) hx hb hts hin_X1 hown hK hP 0 rfl rfl 13 (by decide) (hts (.fieldLink RX1 30 "ButtonGuests$Hotel" "grudges" "[I") (by decide +kernel)) (fun _ h9 => h9) rfl dX1_reasonOf_23 ?_
      refine lv_iload_n hx hb dX1_reasonOf_26 rfl (lv_at hl 1 rfl) ?_
      refine zz_iald hx hb hK hP 7 0 jg rfl rfl rfl ⟨by omega, Nat.le_of_ble_eq_true rfl⟩ dX1_reasonOf_27 ?_
      refine lv_aload_n hx hb dX1_reasonOf_28 rfl (lv_at hl 0 rfl) ?_
      refine va_get (ci := 0) (v := .ref (h 1)) (C := RX1) (T := TX1) (N := 16) hx hb hts hin_X1 hown hK hP 0 rfl rfl 0 (by decide) (hts (.fieldLink RX1 9 "ButtonGuests$Hotel" "settings" "[I") (by decide +kernel)) (fun _ h9 => h9) rfl dX1_reasonOf_29 ?_
      refine lv_iconst (v := 1) hx hb dX1_reasonOf_32 (by decide) ?_
      refine zz_iald hx hb hK hP 1 0 1 rfl rfl rfl ⟨by decide, Nat.le_of_ble_eq_true rfl⟩ dX1_reasonOf_33 ?_
      refine lv_icmp_lt (tgt := 39) hx hb dX1_reasonOf_34 (by decide) (fun c_3 => ?_) (fun c_3 => ?_)
      · have c_3 : (gr jg) < (sg 1) := c_3
        refine lv_aload_n hx hb dX1_reasonOf_39 rfl (lv_at hl 0 rfl) ?_
        refine va_get (ci := 0) (v := .int fl) (C := RX1) (T := TX1) (N := 16) hx hb hts hin_X1 hown hK hP 0 rfl rfl 2 (by decide) (hts (.fieldLink RX1 53 "ButtonGuests$Hotel" "floor" "I") (by decide +kernel)) (fun _ h9 => h9) rfl dX1_reasonOf_40 ?_
        refine lv_aload_n hx hb dX1_reasonOf_43 rfl (lv_at hl 0 rfl) ?_
        refine va_get (ci := 0) (v := .ref (h 2)) (C := RX1) (T := TX1) (N := 16) hx hb hts hin_X1 hown hK hP 0 rfl rfl 8 (by decide) (hts (.fieldLink RX1 15 "ButtonGuests$Hotel" "button" "[I") (by decide +kernel)) (fun _ h9 => h9) rfl dX1_reasonOf_44 ?_
        refine lv_iload_n hx hb dX1_reasonOf_47 rfl (lv_at hl 1 rfl) ?_
        refine zz_iald hx hb hK hP 2 0 jg rfl rfl rfl ⟨by omega, Nat.le_of_ble_eq_true rfl⟩ dX1_reasonOf_48 ?_
        refine lv_icmp_ne (tgt := 56) hx hb dX1_reasonOf_49 (by decide) (fun c_4 => ?_) (fun c_4 => ?_)
        · have c_4 : ¬ fl = (bu jg) := c_4
          refine lv_iconst (v := 0) hx hb dX1_reasonOf_56 (by decide) ?_
          exact zz_top (by simp only [hReas, vReas, if_pos c_1, if_neg c_2, if_pos c_3, if_neg c_4, nI_clamp (show jg < 2 ^ 31 by omega)]) (hret _ _ dX1_reasonOf_57)
        · have c_4 : fl = (bu jg) := c_4
          refine lv_iconst (v := 3) hx hb dX1_reasonOf_52 (by decide) ?_
          refine lv_goto (tgt := 57) hx hb dX1_reasonOf_53 (by decide) ?_
          exact zz_top (by simp only [hReas, vReas, if_pos c_1, if_neg c_2, if_pos c_3, if_pos c_4, nI_clamp (show jg < 2 ^ 31 by omega)]) (hret _ _ dX1_reasonOf_57)
      · have c_3 : ¬ (gr jg) < (sg 1) := c_3
        refine lv_iconst (v := 2) hx hb dX1_reasonOf_37 (by decide) ?_
        exact zz_top (by simp only [hReas, vReas, if_pos c_1, if_neg c_2, if_neg c_3, nI_clamp (show jg < 2 ^ 31 by omega)]) (hret _ _ dX1_reasonOf_38)
    · have c_2 : (st jg) = 2 := c_2
      refine lv_iconst (v := 1) hx hb dX1_reasonOf_20 (by decide) ?_
      exact zz_top (by simp only [hReas, vReas, if_pos c_1, if_pos c_2, nI_clamp (show jg < 2 ^ 31 by omega)]) (hret _ _ dX1_reasonOf_21)
  · have c_1 := zb_eq.mp c_1
    refine lv_iconst (v := (-1)) hx hb dX1_reasonOf_8 (by decide) ?_
    exact zz_top (by simp only [hReas, vReas, if_neg c_1]) (hret _ _ dX1_reasonOf_9)
abbrev rm_X1_hopedStop : Room := { frames := 0, cells := 0, slots := 0, locals := 0 }
set_option maxHeartbeats 4000000 in
set_option maxRecDepth 100000 in
theorem c_X1_hopedStop (l : Launch) (D : va_G) (cy : Nat → ClassId) (h : Nat → Nat) (n : Nat) (hn : n ≤ 4) (x : HS) (hg : x.1.1 = nI n) (j : Nat) (hj : j < n) : Met l yX1_hopedStop wsX1_hopedStop rm_X1_hopedStop (rdP D cy [.ref (h 0), .int (nI j)] (hotelW cy h x)) (QcRead (vHope x.2.2.2.2.2.2.1 x.2.2.2.2.1 x.2.2.2.1 j)) 0 0 (fun _ => False) := by
  obtain ⟨⟨gu, fl, se, pr, re, go, ch⟩, ⟨sg, bu, wa, ho, we, st, gr, po, ri⟩⟩ := x
  obtain rfl : gu = nI n := hg
  refine Mrd (cc := cX1_hopedStop) (maxL := 2) (ty := .int) (by decide) rfl (Nat.le_of_ble_eq_true rfl) rfl ?_
  intro p e s m args below meth c Q ls hF hK hP hl hret
  obtain ⟨hx, hb, hml, hown, hts⟩ := id hF
  have hown : s.vm.findClass RX1 = some m.cls := hown
  have hin_X1 : ∀ w ∈ u_ws RX1 TX1 16, w ∈ wsX1_hopedStop := by decide +kernel
  have hl : lv_has ls 2 [(0, .ref (h 0)), (1, .int (nI j))] := hl
  refine lv_iload_n hx hb dX1_hopedStop_0 rfl (lv_at hl 1 rfl) ?_
  refine lv_if_lt (tgt := 22) hx hb dX1_hopedStop_1 (by decide) (fun c_1 => ?_) (fun c_1 => ?_)
  · exact absurd c_1 (nI_pos (by omega))
  · have c_1 : ¬ j < 0 := fun q => c_1 ((nI_ltI (a := j) (b := 0) (by omega) (by omega)).mpr q)
    refine lv_iload_n hx hb dX1_hopedStop_4 rfl (lv_at hl 1 rfl) ?_
    refine lv_aload_n hx hb dX1_hopedStop_5 rfl (lv_at hl 0 rfl) ?_
    refine va_get (ci := 0) (v := .int (nI n)) (C := RX1) (T := TX1) (N := 16) hx hb hts hin_X1 hown hK hP 0 rfl rfl 1 (by decide) (hts (.fieldLink RX1 49 "ButtonGuests$Hotel" "guests" "I") (by decide +kernel)) (fun _ h9 => h9) rfl dX1_hopedStop_6 ?_
    refine lv_icmp_ge (tgt := 22) hx hb dX1_hopedStop_9 (by decide) (fun c_2 => ?_) (fun c_2 => ?_)
    · exact absurd c_2 (nI_ge hj (by omega))
    · have c_2 : ¬ n ≤ j := fun q => c_2 ((nI_leI (a := n) (b := j) (by omega) (by omega)).mpr q)
      refine lv_aload_n hx hb dX1_hopedStop_12 rfl (lv_at hl 0 rfl) ?_
      refine va_get (ci := 0) (v := .ref (h 6)) (C := RX1) (T := TX1) (N := 16) hx hb hts hin_X1 hown hK hP 0 rfl rfl 12 (by decide) (hts (.fieldLink RX1 27 "ButtonGuests$Hotel" "state" "[I") (by decide +kernel)) (fun _ h9 => h9) rfl dX1_hopedStop_13 ?_
      refine lv_iload_n hx hb dX1_hopedStop_16 rfl (lv_at hl 1 rfl) ?_
      refine zz_iald hx hb hK hP 6 0 j rfl rfl rfl ⟨by omega, Nat.le_of_ble_eq_true rfl⟩ dX1_hopedStop_17 ?_
      refine lv_iconst (v := 2) hx hb dX1_hopedStop_18 (by decide) ?_
      refine lv_icmp_ne (tgt := 24) hx hb dX1_hopedStop_19 (by decide) (fun c_3 => ?_) (fun c_3 => ?_)
      · have c_3 : ¬ (st j) = 2 := c_3
        refine lv_aload_n hx hb dX1_hopedStop_24 rfl (lv_at hl 0 rfl) ?_
        refine va_get (ci := 0) (v := .ref (h 6)) (C := RX1) (T := TX1) (N := 16) hx hb hts hin_X1 hown hK hP 0 rfl rfl 12 (by decide) (hts (.fieldLink RX1 27 "ButtonGuests$Hotel" "state" "[I") (by decide +kernel)) (fun _ h9 => h9) rfl dX1_hopedStop_25 ?_
        refine lv_iload_n hx hb dX1_hopedStop_28 rfl (lv_at hl 1 rfl) ?_
        refine zz_iald hx hb hK hP 6 0 j rfl rfl rfl ⟨by omega, Nat.le_of_ble_eq_true rfl⟩ dX1_hopedStop_29 ?_
        refine lv_iconst (v := 1) hx hb dX1_hopedStop_30 (by decide) ?_
        refine lv_icmp_ne (tgt := 43) hx hb dX1_hopedStop_31 (by decide) (fun c_4 => ?_) (fun c_4 => ?_)
        · have c_4 : ¬ (st j) = 1 := c_4
          refine lv_aload_n hx hb dX1_hopedStop_43 rfl (lv_at hl 0 rfl) ?_
          refine va_get (ci := 0) (v := .ref (h 3)) (C := RX1) (T := TX1) (N := 16) hx hb hts hin_X1 hown hK hP 0 rfl rfl 9 (by decide) (hts (.fieldLink RX1 18 "ButtonGuests$Hotel" "waitingFloor" "[I") (by decide +kernel)) (fun _ h9 => h9) rfl dX1_hopedStop_44 ?_
          refine lv_iload_n hx hb dX1_hopedStop_47 rfl (lv_at hl 1 rfl) ?_
          refine zz_iald hx hb hK hP 3 0 j rfl rfl rfl ⟨by omega, Nat.le_of_ble_eq_true rfl⟩ dX1_hopedStop_48 ?_
          exact zz_top (by simp only [vHope, if_neg c_1, if_neg c_2, if_neg c_3, if_neg c_4]) (hret _ _ dX1_hopedStop_49)
        · have c_4 : (st j) = 1 := c_4
          refine lv_aload_n hx hb dX1_hopedStop_34 rfl (lv_at hl 0 rfl) ?_
          refine va_get (ci := 0) (v := .ref (h 4)) (C := RX1) (T := TX1) (N := 16) hx hb hts hin_X1 hown hK hP 0 rfl rfl 10 (by decide) (hts (.fieldLink RX1 21 "ButtonGuests$Hotel" "home" "[I") (by decide +kernel)) (fun _ h9 => h9) rfl dX1_hopedStop_35 ?_
          refine lv_iload_n hx hb dX1_hopedStop_38 rfl (lv_at hl 1 rfl) ?_
          refine zz_iald hx hb hK hP 4 0 j rfl rfl rfl ⟨by omega, Nat.le_of_ble_eq_true rfl⟩ dX1_hopedStop_39 ?_
          refine lv_goto (tgt := 49) hx hb dX1_hopedStop_40 (by decide) ?_
          exact zz_top (by simp only [vHope, if_neg c_1, if_neg c_2, if_neg c_3, if_pos c_4]) (hret _ _ dX1_hopedStop_49)
      · have c_3 : (st j) = 2 := c_3
        refine lv_iconst (v := (-1)) hx hb dX1_hopedStop_22 (by decide) ?_
        exact zz_top (by simp only [vHope, if_neg c_1, if_neg c_2, if_pos c_3]) (hret _ _ dX1_hopedStop_23)
abbrev rm_X1_position : Room := { frames := 0, cells := 0, slots := 0, locals := 0 }
set_option maxHeartbeats 4000000 in
set_option maxRecDepth 100000 in
theorem c_X1_position (l : Launch) (D : va_G) (cy : Nat → ClassId) (h : Nat → Nat) (n : Nat) (hn : n ≤ 4) (x : HS) (hg : x.1.1 = nI n) : Met l yX1_position wsX1_position rm_X1_position (rdP D cy [.ref (h 0)] (hotelW cy h x)) (QcRead (hPos n x)) 0 0 (fun _ => False) := by
  obtain ⟨⟨gu, fl, se, pr, re, go, ch⟩, ⟨sg, bu, wa, ho, we, st, gr, po, ri⟩⟩ := x
  obtain rfl : gu = nI n := hg
  refine Mrd (cc := cX1_position) (maxL := 3) (ty := .int) (by decide) rfl (Nat.le_of_ble_eq_true rfl) rfl ?_
  intro p e s m args below meth c Q ls hF hK hP hl hret
  obtain ⟨hx, hb, hml, hown, hts⟩ := id hF
  have hown : s.vm.findClass RX1 = some m.cls := hown
  have hin_X1 : ∀ w ∈ u_ws RX1 TX1 16, w ∈ wsX1_position := by decide +kernel
  have hl : lv_has ls 3 [(0, .ref (h 0))] := hl
  refine lv_aload_n hx hb dX1_position_0 rfl (lv_at hl 0 rfl) ?_
  refine va_get (ci := 0) (v := .int fl) (C := RX1) (T := TX1) (N := 16) hx hb hts hin_X1 hown hK hP 0 rfl rfl 2 (by decide) (hts (.fieldLink RX1 53 "ButtonGuests$Hotel" "floor" "I") (by decide +kernel)) (fun _ h9 => h9) rfl dX1_position_1 ?_
  refine lv_istore_n (lv' := [(1, .int fl), (0, .ref (h 0))]) hx hb dX1_position_4 rfl hl (by decide) rfl (fun ls hl => ?_)
  refine lv_iconst (v := 0) hx hb dX1_position_5 (by decide) ?_
  refine lv_istore_n (lv' := [(2, .int 0), (1, .int fl), (0, .ref (h 0))]) hx hb dX1_position_6 rfl hl (by decide) rfl (fun ls hl => ?_)
  have loop : ∀ (k i : Nat) (a : Int32), i ≤ n → n + 1 ≤ i + k → lpN (sPk st gr) (n - i) i a = lpN (sPk st gr) n 0 fl → ∀ (ls : Array Slot), lv_has ls 3 [(2, .int (nI i)), (1, .int a), (0, .ref (h 0))] → W p l e rm_X1_position s m args below meth c s.heap [] 0 0 Q (F0 m 7 ls []) := by
    intro k
    induction k with
    | zero =>
      intro i a hi hk hv
      exact absurd hk (by omega)
    | succ k ih =>
      intro i a hi hk hv ls hl
      refine lv_iload_n hx hb dX1_position_7 rfl (lv_at hl 0 rfl) ?_
      refine lv_aload_n hx hb dX1_position_8 rfl (lv_at hl 2 rfl) ?_
      refine va_get (ci := 0) (v := .int (nI n)) (C := RX1) (T := TX1) (N := 16) hx hb hts hin_X1 hown hK hP 0 rfl rfl 1 (by decide) (hts (.fieldLink RX1 49 "ButtonGuests$Hotel" "guests" "I") (by decide +kernel)) (fun _ h9 => h9) rfl dX1_position_9 ?_
      refine lv_icmp_ge (tgt := 46) hx hb dX1_position_12 (by decide) (fun c_1 => ?_) (fun c_1 => ?_)
      · have c_1 : n ≤ i := (nI_leI (a := n) (b := i) (by omega) (by omega)).mp c_1
        refine lv_iload_n hx hb dX1_position_46 rfl (lv_at hl 1 rfl) ?_
        exact zz_top (lpN_end c_1 hv) (hret _ _ dX1_position_47)
      · have c_1 : ¬ n ≤ i := fun q => c_1 ((nI_leI (a := n) (b := i) (by omega) (by omega)).mpr q)
        refine lv_iload_n hx hb dX1_position_15 rfl (lv_at hl 1 rfl) ?_
        refine lv_aload_n hx hb dX1_position_16 rfl (lv_at hl 2 rfl) ?_
        refine va_get (ci := 0) (v := .ref (h 6)) (C := RX1) (T := TX1) (N := 16) hx hb hts hin_X1 hown hK hP 0 rfl rfl 12 (by decide) (hts (.fieldLink RX1 27 "ButtonGuests$Hotel" "state" "[I") (by decide +kernel)) (fun _ h9 => h9) rfl dX1_position_17 ?_
        refine lv_iload_n hx hb dX1_position_20 rfl (lv_at hl 0 rfl) ?_
        refine zz_iald hx hb hK hP 6 0 i rfl rfl rfl ⟨by omega, Nat.le_of_ble_eq_true rfl⟩ dX1_position_21 ?_
        refine lv_iconst (v := 4) hx hb dX1_position_22 (by decide) ?_
        refine lv_ishl hx hb dX1_position_23 ?_
        refine lv_aload_n hx hb dX1_position_24 rfl (lv_at hl 2 rfl) ?_
        refine va_get (ci := 0) (v := .ref (h 7)) (C := RX1) (T := TX1) (N := 16) hx hb hts hin_X1 hown hK hP 0 rfl rfl 13 (by decide) (hts (.fieldLink RX1 30 "ButtonGuests$Hotel" "grudges" "[I") (by decide +kernel)) (fun _ h9 => h9) rfl dX1_position_25 ?_
        refine lv_iload_n hx hb dX1_position_28 rfl (lv_at hl 0 rfl) ?_
        refine zz_iald hx hb hK hP 7 0 i rfl rfl rfl ⟨by omega, Nat.le_of_ble_eq_true rfl⟩ dX1_position_29 ?_
        refine lv_ior hx hb dX1_position_30 ?_
        refine lv_iconst (v := 3) hx hb dX1_position_31 (by decide) ?_
        refine lv_bipush (v := 6) hx hb dX1_position_32 (by decide) ?_
        refine lv_iload_n hx hb dX1_position_34 rfl (lv_at hl 0 rfl) ?_
        refine lv_imul hx hb dX1_position_35 ?_
        refine lv_iadd hx hb dX1_position_36 ?_
        refine lv_ishl hx hb dX1_position_37 ?_
        refine lv_ior hx hb dX1_position_38 ?_
        refine lv_istore_n (lv' := [(1, .int (a ||| ((((st i) <<< (4 &&& 31)) ||| (gr i)) <<< ((3 + (6 * (nI i))) &&& 31)))), (2, .int (nI i)), (0, .ref (h 0))]) hx hb dX1_position_39 rfl hl (by decide) rfl (fun ls hl => ?_)
        refine lv_iinc (v := nI (i + 1)) (lv' := [(2, .int (nI (i + 1))), (1, .int (a ||| ((((st i) <<< (4 &&& 31)) ||| (gr i)) <<< ((3 + (6 * (nI i))) &&& 31)))), (0, .ref (h 0))]) hx hb dX1_position_40 hl (k := 1) rfl (nI_add (i) 1) (by decide) rfl (fun ls hl => ?_)
        refine lv_goto (tgt := 7) hx hb dX1_position_43 (by decide) ?_
        exact ih (i + 1) _ (by omega) (by omega) (lpN_next (by omega) hv (by simp only [sPk, if_neg c_1])) _ (lv_sub hl [0, 1, 2] rfl)
  exact loop (n + 1) 0 _ (Nat.zero_le _) (by omega) rfl _ (lv_sub hl [0, 1, 2] rfl)
abbrev rm_X1_addGrudge : Room := { frames := 0, cells := 0, slots := 0, locals := 0 }
set_option maxHeartbeats 4000000 in
set_option maxRecDepth 100000 in
theorem c_X1_addGrudge (l : Launch) (D : va_G) (cy : Nat → ClassId) (h : Nat → Nat) (n : Nat) (hn : n ≤ 4) (x : HS) (hg : x.1.1 = nI n) (sz : Nat) (j : Nat) (hj : j < n) : Met l yX1_addGrudge wsX1_addGrudge rm_X1_addGrudge (wrP D cy [.ref (h 0), .int (nI j)] (hotelW cy h x) sz) (va_Qv (fun u : HS => u = hAdd j x) (wrB D (va_A (hotelW cy h x) sz) (fun u => hotelW cy h u)) (va_A (hotelW cy h x) sz)) 0 0 (va_A (hotelW cy h x) sz) := by
  obtain ⟨⟨gu, fl, se, pr, re, go, ch⟩, ⟨sg, bu, wa, ho, we, st, gr, po, ri⟩⟩ := x
  obtain rfl : gu = nI n := hg
  refine Mwv (cc := cX1_addGrudge) (maxL := 2) (by decide) rfl (Nat.le_of_ble_eq_true rfl) ?_
  intro p e s m args below meth c Q ls A hsz hinit hF hK hP hD hA hl hret
  obtain ⟨hx, hb, hml, hown, hts⟩ := id hF
  have hown : s.vm.findClass RX1 = some m.cls := hown
  have hin_X1 : ∀ w ∈ u_ws RX1 TX1 16, w ∈ wsX1_addGrudge := by decide +kernel
  have hl : lv_has ls 2 [(0, .ref (h 0)), (1, .int (nI j))] := hl
  suffices key : ∀ (H : Heap) (locs : List Loc), va_P D vwCl (hotelW cy h ((nI n, fl, se, pr, re, go, ch), (sg, bu, wa, ho, we, st, gr, po, ri))) H → va_D A (hotelW cy h ((nI n, fl, se, pr, re, go, ch), (sg, bu, wa, ho, we, st, gr, po, ri))) → va_S A s.heap H locs → W p l e rm_X1_addGrudge s m args below meth c H locs 0 0 Q (F0 m 0 ls []) from key s.heap [] hP hD va_S.rf
  intro H locs hP hD hS
  refine lv_iload_n hx hb dX1_addGrudge_0 rfl (lv_at hl 1 rfl) ?_
  refine lv_if_lt (tgt := 33) hx hb dX1_addGrudge_1 (by decide) (fun c_1 => ?_) (fun c_1 => ?_)
  · exact absurd c_1 (nI_pos (by omega))
  · have c_1 : ¬ j < 0 := fun q => c_1 ((nI_ltI (a := j) (b := 0) (by omega) (by omega)).mpr q)
    refine lv_iload_n hx hb dX1_addGrudge_4 rfl (lv_at hl 1 rfl) ?_
    refine lv_aload_n hx hb dX1_addGrudge_5 rfl (lv_at hl 0 rfl) ?_
    refine va_get (ci := 0) (v := .int (nI n)) (C := RX1) (T := TX1) (N := 16) hx hb hts hin_X1 hown hK hP 0 rfl rfl 1 (by decide) (hts (.fieldLink RX1 49 "ButtonGuests$Hotel" "guests" "I") (by decide +kernel)) (fun _ h9 => h9) rfl dX1_addGrudge_6 ?_
    refine lv_icmp_ge (tgt := 33) hx hb dX1_addGrudge_9 (by decide) (fun c_2 => ?_) (fun c_2 => ?_)
    · exact absurd c_2 (nI_ge hj (by omega))
    · have c_2 : ¬ n ≤ j := fun q => c_2 ((nI_leI (a := n) (b := j) (by omega) (by omega)).mpr q)
      refine lv_aload_n hx hb dX1_addGrudge_12 rfl (lv_at hl 0 rfl) ?_
      refine va_get (ci := 0) (v := .ref (h 7)) (C := RX1) (T := TX1) (N := 16) hx hb hts hin_X1 hown hK hP 0 rfl rfl 13 (by decide) (hts (.fieldLink RX1 30 "ButtonGuests$Hotel" "grudges" "[I") (by decide +kernel)) (fun _ h9 => h9) rfl dX1_addGrudge_13 ?_
      refine lv_iload_n hx hb dX1_addGrudge_16 rfl (lv_at hl 1 rfl) ?_
      refine zz_iald hx hb hK hP 7 0 j rfl rfl rfl ⟨by omega, Nat.le_of_ble_eq_true rfl⟩ dX1_addGrudge_17 ?_
      refine lv_bipush (v := 9) hx hb dX1_addGrudge_18 (by decide) ?_
      refine lv_icmp_ge (tgt := 33) hx hb dX1_addGrudge_20 (by decide) (fun c_3 => ?_) (fun c_3 => ?_)
      · have c_3 : 9 ≤ (gr j) := c_3
        exact hret _ _ H locs ((nI n, fl, se, pr, re, go, ch), (sg, bu, wa, ho, we, st, gr, po, ri)) dX1_addGrudge_33 hP hD hS (by simp only [hAdd, vAdd, if_neg c_1, if_neg c_2, if_pos c_3])
      · have c_3 : ¬ 9 ≤ (gr j) := c_3
        refine lv_aload_n hx hb dX1_addGrudge_23 rfl (lv_at hl 0 rfl) ?_
        refine va_get (ci := 0) (v := .ref (h 7)) (C := RX1) (T := TX1) (N := 16) hx hb hts hin_X1 hown hK hP 0 rfl rfl 13 (by decide) (hts (.fieldLink RX1 30 "ButtonGuests$Hotel" "grudges" "[I") (by decide +kernel)) (fun _ h9 => h9) rfl dX1_addGrudge_24 ?_
        refine lv_iload_n hx hb dX1_addGrudge_27 rfl (lv_at hl 1 rfl) ?_
        refine lv_dup2_11 hx hb dX1_addGrudge_28 rfl rfl ?_
        refine zz_iald hx hb hK hP 7 0 j rfl rfl rfl ⟨by omega, Nat.le_of_ble_eq_true rfl⟩ dX1_addGrudge_29 ?_
        refine lv_iconst (v := 1) hx hb dX1_addGrudge_30 (by decide) ?_
        refine lv_iadd hx hb dX1_addGrudge_31 ?_
        refine zz_iast hx hb hK hP hD hS 7 0 j rfl rfl rfl ⟨by omega, Nat.le_of_ble_eq_true rfl⟩ dX1_addGrudge_32 (fun H locs hP hD hS => ?_)
        have hP : va_P D vwCl (hotelW cy h ((nI n, fl, se, pr, re, go, ch), (sg, bu, wa, ho, we, st, (upd gr j ((gr j) + 1)), po, ri))) H := hP
        have hD : va_D A (hotelW cy h ((nI n, fl, se, pr, re, go, ch), (sg, bu, wa, ho, we, st, (upd gr j ((gr j) + 1)), po, ri))) := hD
        exact hret _ _ H locs ((nI n, fl, se, pr, re, go, ch), (sg, bu, wa, ho, we, st, (upd gr j ((gr j) + 1)), po, ri)) dX1_addGrudge_33 hP hD hS (by simp only [hAdd, vAdd, if_neg c_1, if_neg c_2, if_neg c_3])
abbrev rm_X1_letAllRest : Room := { frames := 0, cells := 0, slots := 0, locals := 0 }
set_option maxHeartbeats 4000000 in
set_option maxRecDepth 100000 in
theorem c_X1_letAllRest (l : Launch) (D : va_G) (cy : Nat → ClassId) (h : Nat → Nat) (n : Nat) (hn : n ≤ 4) (x : HS) (hg : x.1.1 = nI n) (sz : Nat) : Met l yX1_letAllRest wsX1_letAllRest rm_X1_letAllRest (wrP D cy [.ref (h 0)] (hotelW cy h x) sz) (va_Qv (fun u : HS => u = hRest n x) (wrB D (va_A (hotelW cy h x) sz) (fun u => hotelW cy h u)) (va_A (hotelW cy h x) sz)) 0 0 (va_A (hotelW cy h x) sz) := by
  obtain ⟨⟨gu, fl, se, pr, re, go, ch⟩, ⟨sg, bu, wa, ho, we, st, gr, po, ri⟩⟩ := x
  obtain rfl : gu = nI n := hg
  refine Mwv (cc := cX1_letAllRest) (maxL := 2) (by decide) rfl (Nat.le_of_ble_eq_true rfl) ?_
  intro p e s m args below meth c Q ls A hsz hinit hF hK hP hD hA hl hret
  obtain ⟨hx, hb, hml, hown, hts⟩ := id hF
  have hown : s.vm.findClass RX1 = some m.cls := hown
  have hin_X1 : ∀ w ∈ u_ws RX1 TX1 16, w ∈ wsX1_letAllRest := by decide +kernel
  have hl : lv_has ls 2 [(0, .ref (h 0))] := hl
  suffices key : ∀ (H : Heap) (locs : List Loc), va_P D vwCl (hotelW cy h ((nI n, fl, se, pr, re, go, ch), (sg, bu, wa, ho, we, st, gr, po, ri))) H → va_D A (hotelW cy h ((nI n, fl, se, pr, re, go, ch), (sg, bu, wa, ho, we, st, gr, po, ri))) → va_S A s.heap H locs → W p l e rm_X1_letAllRest s m args below meth c H locs 0 0 Q (F0 m 0 ls []) from key s.heap [] hP hD va_S.rf
  intro H locs hP hD hS
  refine lv_aload_n hx hb dX1_letAllRest_0 rfl (lv_at hl 0 rfl) ?_
  refine lv_dup hx hb dX1_letAllRest_1 rfl ?_
  refine va_get (ci := 0) (v := .int se) (C := RX1) (T := TX1) (N := 16) hx hb hts hin_X1 hown hK hP 0 rfl rfl 3 (by decide) (hts (.fieldLink RX1 56 "ButtonGuests$Hotel" "seconds" "I") (by decide +kernel)) (fun _ h9 => h9) rfl dX1_letAllRest_2 ?_
  refine lv_bipush (v := 30) hx hb dX1_letAllRest_5 (by decide) ?_
  refine lv_iadd hx hb dX1_letAllRest_7 ?_
  refine va_put (ci := 0) (v := .int (se + 30)) (ty := .int) (C := RX1) (T := TX1) (N := 16) hx hb hts hin_X1 tyX1 tyX1_ok nmX1 hown hK hP hD hS 0 rfl rfl 3 (by decide) (hts (.fieldLink RX1 56 "ButtonGuests$Hotel" "seconds" "I") (by decide +kernel)) (fun _ h9 => h9) rfl (by decide +kernel) rfl rfl (Nat.le_of_ble_eq_true rfl) dX1_letAllRest_8 (fun H locs hP hD hS => ?_)
  have hP : va_P D vwCl (hotelW cy h ((nI n, fl, se + 30, pr, re, go, ch), (sg, bu, wa, ho, we, st, gr, po, ri))) H := hP
  have hD : va_D A (hotelW cy h ((nI n, fl, se + 30, pr, re, go, ch), (sg, bu, wa, ho, we, st, gr, po, ri))) := hD
  refine lv_iconst (v := 0) hx hb dX1_letAllRest_11 (by decide) ?_
  refine lv_istore_n (lv' := [(1, .int 0), (0, .ref (h 0))]) hx hb dX1_letAllRest_12 rfl hl (by decide) rfl (fun ls hl => ?_)
  have loop : ∀ (k i : Nat) (gv : Nat → Int32), i ≤ n → n + 1 ≤ i + k → lpN sRe (n - i) i gv = lpN sRe n 0 gr → ∀ (H : Heap) (locs : List Loc) (ls : Array Slot), va_P D vwCl (hotelW cy h ((nI n, fl, se + 30, pr, re, go, ch), (sg, bu, wa, ho, we, st, gv, po, ri))) H → va_D A (hotelW cy h ((nI n, fl, se + 30, pr, re, go, ch), (sg, bu, wa, ho, we, st, gv, po, ri))) → va_S A s.heap H locs → lv_has ls 2 [(1, .int (nI i)), (0, .ref (h 0))] → W p l e rm_X1_letAllRest s m args below meth c H locs 0 0 Q (F0 m 13 ls []) := by
    intro k
    induction k with
    | zero =>
      intro i gv hi hk hv
      exact absurd hk (by omega)
    | succ k ih =>
      intro i gv hi hk hv H locs ls hP hD hS hl
      refine lv_iload_n hx hb dX1_letAllRest_13 rfl (lv_at hl 0 rfl) ?_
      refine lv_aload_n hx hb dX1_letAllRest_14 rfl (lv_at hl 1 rfl) ?_
      refine va_get (ci := 0) (v := .int (nI n)) (C := RX1) (T := TX1) (N := 16) hx hb hts hin_X1 hown hK hP 0 rfl rfl 1 (by decide) (hts (.fieldLink RX1 49 "ButtonGuests$Hotel" "guests" "I") (by decide +kernel)) (fun _ h9 => h9) rfl dX1_letAllRest_15 ?_
      refine lv_icmp_ge (tgt := 46) hx hb dX1_letAllRest_18 (by decide) (fun c_1 => ?_) (fun c_1 => ?_)
      · have c_1 : n ≤ i := (nI_leI (a := n) (b := i) (by omega) (by omega)).mp c_1
        exact hret _ _ H locs ((nI n, fl, se + 30, pr, re, go, ch), (sg, bu, wa, ho, we, st, gv, po, ri)) dX1_letAllRest_46 hP hD hS (by have q := lpN_end c_1 hv; simp only [hRest, ← q])
      · have c_1 : ¬ n ≤ i := fun q => c_1 ((nI_leI (a := n) (b := i) (by omega) (by omega)).mpr q)
        refine lv_aload_n hx hb dX1_letAllRest_21 rfl (lv_at hl 1 rfl) ?_
        refine va_get (ci := 0) (v := .ref (h 7)) (C := RX1) (T := TX1) (N := 16) hx hb hts hin_X1 hown hK hP 0 rfl rfl 13 (by decide) (hts (.fieldLink RX1 30 "ButtonGuests$Hotel" "grudges" "[I") (by decide +kernel)) (fun _ h9 => h9) rfl dX1_letAllRest_22 ?_
        refine lv_iload_n hx hb dX1_letAllRest_25 rfl (lv_at hl 0 rfl) ?_
        refine zz_iald hx hb hK hP 7 0 i rfl rfl rfl ⟨by omega, Nat.le_of_ble_eq_true rfl⟩ dX1_letAllRest_26 ?_
        refine lv_if_le (tgt := 40) hx hb dX1_letAllRest_27 (by decide) (fun c_2 => ?_) (fun c_2 => ?_)
        · have c_2 : (gv i) ≤ 0 := c_2
          refine lv_iinc (v := nI (i + 1)) (lv' := [(1, .int (nI (i + 1))), (0, .ref (h 0))]) hx hb dX1_letAllRest_40 hl (k := 0) rfl (nI_add (i) 1) (by decide) rfl (fun ls hl => ?_)
          refine lv_goto (tgt := 13) hx hb dX1_letAllRest_43 (by decide) ?_
          exact ih (i + 1) _ (by omega) (by omega) (lpN_next (by omega) hv (by simp only [sRe, if_neg c_1, if_pos c_2])) _ _ _ hP hD hS (lv_sub hl [0, 1] rfl)
        · have c_2 : ¬ (gv i) ≤ 0 := c_2
          refine lv_aload_n hx hb dX1_letAllRest_30 rfl (lv_at hl 1 rfl) ?_
          refine va_get (ci := 0) (v := .ref (h 7)) (C := RX1) (T := TX1) (N := 16) hx hb hts hin_X1 hown hK hP 0 rfl rfl 13 (by decide) (hts (.fieldLink RX1 30 "ButtonGuests$Hotel" "grudges" "[I") (by decide +kernel)) (fun _ h9 => h9) rfl dX1_letAllRest_31 ?_
          refine lv_iload_n hx hb dX1_letAllRest_34 rfl (lv_at hl 0 rfl) ?_
          refine lv_dup2_11 hx hb dX1_letAllRest_35 rfl rfl ?_
          refine zz_iald hx hb hK hP 7 0 i rfl rfl rfl ⟨by omega, Nat.le_of_ble_eq_true rfl⟩ dX1_letAllRest_36 ?_
          refine lv_iconst (v := 1) hx hb dX1_letAllRest_37 (by decide) ?_
          refine lv_isub hx hb dX1_letAllRest_38 ?_
          refine zz_iast hx hb hK hP hD hS 7 0 i rfl rfl rfl ⟨by omega, Nat.le_of_ble_eq_true rfl⟩ dX1_letAllRest_39 (fun H locs hP hD hS => ?_)
          have hP : va_P D vwCl (hotelW cy h ((nI n, fl, se + 30, pr, re, go, ch), (sg, bu, wa, ho, we, st, (upd gv i ((gv i) - 1)), po, ri))) H := hP
          have hD : va_D A (hotelW cy h ((nI n, fl, se + 30, pr, re, go, ch), (sg, bu, wa, ho, we, st, (upd gv i ((gv i) - 1)), po, ri))) := hD
          refine lv_iinc (v := nI (i + 1)) (lv' := [(1, .int (nI (i + 1))), (0, .ref (h 0))]) hx hb dX1_letAllRest_40 hl (k := 0) rfl (nI_add (i) 1) (by decide) rfl (fun ls hl => ?_)
          refine lv_goto (tgt := 13) hx hb dX1_letAllRest_43 (by decide) ?_
          exact ih (i + 1) _ (by omega) (by omega) (lpN_next (by omega) hv (by simp only [sRe, if_neg c_1, if_neg c_2])) _ _ _ hP hD hS (lv_sub hl [0, 1] rfl)
  exact loop (n + 1) 0 _ (Nat.zero_le _) (by omega) rfl _ _ _ hP hD hS (lv_sub hl [0, 1] rfl)
abbrev rm_X1_letOut : Room := { frames := 0, cells := 0, slots := 0, locals := 0 }
set_option maxHeartbeats 4000000 in
set_option maxRecDepth 100000 in
theorem c_X1_letOut (l : Launch) (D : va_G) (cy : Nat → ClassId) (h : Nat → Nat) (n : Nat) (hn : n ≤ 4) (x : HS) (hg : x.1.1 = nI n) (sz : Nat) : Met l yX1_letOut wsX1_letOut rm_X1_letOut (wrP D cy [.ref (h 0)] (hotelW cy h x) sz) (va_Qv (fun u : HS => u = hOut n x) (wrB D (va_A (hotelW cy h x) sz) (fun u => hotelW cy h u)) (va_A (hotelW cy h x) sz)) 0 0 (va_A (hotelW cy h x) sz) := by
  obtain ⟨⟨gu, fl, se, pr, re, go, ch⟩, ⟨sg, bu, wa, ho, we, st, gr, po, ri⟩⟩ := x
  obtain rfl : gu = nI n := hg
  refine Mwv (cc := cX1_letOut) (maxL := 2) (by decide) rfl (Nat.le_of_ble_eq_true rfl) ?_
  intro p e s m args below meth c Q ls A hsz hinit hF hK hP hD hA hl hret
  obtain ⟨hx, hb, hml, hown, hts⟩ := id hF
  have hown : s.vm.findClass RX1 = some m.cls := hown
  have hin_X1 : ∀ w ∈ u_ws RX1 TX1 16, w ∈ wsX1_letOut := by decide +kernel
  have hl : lv_has ls 2 [(0, .ref (h 0))] := hl
  suffices key : ∀ (H : Heap) (locs : List Loc), va_P D vwCl (hotelW cy h ((nI n, fl, se, pr, re, go, ch), (sg, bu, wa, ho, we, st, gr, po, ri))) H → va_D A (hotelW cy h ((nI n, fl, se, pr, re, go, ch), (sg, bu, wa, ho, we, st, gr, po, ri))) → va_S A s.heap H locs → W p l e rm_X1_letOut s m args below meth c H locs 0 0 Q (F0 m 0 ls []) from key s.heap [] hP hD va_S.rf
  intro H locs hP hD hS
  refine lv_iconst (v := 0) hx hb dX1_letOut_0 (by decide) ?_
  refine lv_istore_n (lv' := [(1, .int 0), (0, .ref (h 0))]) hx hb dX1_letOut_1 rfl hl (by decide) rfl (fun ls hl => ?_)
  have loop : ∀ (k i : Nat) (cv : Int32) (sv gv : Nat → Int32), i ≤ n → n + 1 ≤ i + k → lpN (sOut fl ho) (n - i) i (cv, sv, gv) = lpN (sOut fl ho) n 0 (ch, st, gr) → ∀ (H : Heap) (locs : List Loc) (ls : Array Slot), va_P D vwCl (hotelW cy h ((nI n, fl, se, pr, re, go, cv), (sg, bu, wa, ho, we, sv, gv, po, ri))) H → va_D A (hotelW cy h ((nI n, fl, se, pr, re, go, cv), (sg, bu, wa, ho, we, sv, gv, po, ri))) → va_S A s.heap H locs → lv_has ls 2 [(1, .int (nI i)), (0, .ref (h 0))] → W p l e rm_X1_letOut s m args below meth c H locs 0 0 Q (F0 m 2 ls []) := by
    intro k
    induction k with
    | zero =>
      intro i cv sv gv hi hk hv
      exact absurd hk (by omega)
    | succ k ih =>
      intro i cv sv gv hi hk hv H locs ls hP hD hS hl
      refine lv_iload_n hx hb dX1_letOut_2 rfl (lv_at hl 0 rfl) ?_
      refine lv_aload_n hx hb dX1_letOut_3 rfl (lv_at hl 1 rfl) ?_
      refine va_get (ci := 0) (v := .int (nI n)) (C := RX1) (T := TX1) (N := 16) hx hb hts hin_X1 hown hK hP 0 rfl rfl 1 (by decide) (hts (.fieldLink RX1 49 "ButtonGuests$Hotel" "guests" "I") (by decide +kernel)) (fun _ h9 => h9) rfl dX1_letOut_4 ?_
      refine lv_icmp_ge (tgt := 63) hx hb dX1_letOut_7 (by decide) (fun c_1 => ?_) (fun c_1 => ?_)
      · have c_1 : n ≤ i := (nI_leI (a := n) (b := i) (by omega) (by omega)).mp c_1
        exact hret _ _ H locs ((nI n, fl, se, pr, re, go, cv), (sg, bu, wa, ho, we, sv, gv, po, ri)) dX1_letOut_63 hP hD hS (by have q := lpN_end c_1 hv; simp only [hOut, ← q])
      · have c_1 : ¬ n ≤ i := fun q => c_1 ((nI_leI (a := n) (b := i) (by omega) (by omega)).mpr q)
        refine lv_aload_n hx hb dX1_letOut_10 rfl (lv_at hl 1 rfl) ?_
        refine va_get (ci := 0) (v := .ref (h 6)) (C := RX1) (T := TX1) (N := 16) hx hb hts hin_X1 hown hK hP 0 rfl rfl 12 (by decide) (hts (.fieldLink RX1 27 "ButtonGuests$Hotel" "state" "[I") (by decide +kernel)) (fun _ h9 => h9) rfl dX1_letOut_11 ?_
        refine lv_iload_n hx hb dX1_letOut_14 rfl (lv_at hl 0 rfl) ?_
        refine zz_iald hx hb hK hP 6 0 i rfl rfl rfl ⟨by omega, Nat.le_of_ble_eq_true rfl⟩ dX1_letOut_15 ?_
        refine lv_iconst (v := 1) hx hb dX1_letOut_16 (by decide) ?_
        refine lv_icmp_ne (tgt := 57) hx hb dX1_letOut_17 (by decide) (fun c_2 => ?_) (fun c_2 => ?_)
        · have c_2 : ¬ (sv i) = 1 := c_2
          refine lv_iinc (v := nI (i + 1)) (lv' := [(1, .int (nI (i + 1))), (0, .ref (h 0))]) hx hb dX1_letOut_57 hl (k := 0) rfl (nI_add (i) 1) (by decide) rfl (fun ls hl => ?_)
          refine lv_goto (tgt := 2) hx hb dX1_letOut_60 (by decide) ?_
          exact ih (i + 1) _ _ _ (by omega) (by omega) (lpN_next (by omega) hv (by simp only [sOut, if_neg c_1, if_neg c_2])) _ _ _ hP hD hS (lv_sub hl [0, 1] rfl)
        · have c_2 : (sv i) = 1 := c_2
          refine lv_aload_n hx hb dX1_letOut_20 rfl (lv_at hl 1 rfl) ?_
          refine va_get (ci := 0) (v := .ref (h 4)) (C := RX1) (T := TX1) (N := 16) hx hb hts hin_X1 hown hK hP 0 rfl rfl 10 (by decide) (hts (.fieldLink RX1 21 "ButtonGuests$Hotel" "home" "[I") (by decide +kernel)) (fun _ h9 => h9) rfl dX1_letOut_21 ?_
          refine lv_iload_n hx hb dX1_letOut_24 rfl (lv_at hl 0 rfl) ?_
          refine zz_iald hx hb hK hP 4 0 i rfl rfl rfl ⟨by omega, Nat.le_of_ble_eq_true rfl⟩ dX1_letOut_25 ?_
          refine lv_aload_n hx hb dX1_letOut_26 rfl (lv_at hl 1 rfl) ?_
          refine va_get (ci := 0) (v := .int fl) (C := RX1) (T := TX1) (N := 16) hx hb hts hin_X1 hown hK hP 0 rfl rfl 2 (by decide) (hts (.fieldLink RX1 53 "ButtonGuests$Hotel" "floor" "I") (by decide +kernel)) (fun _ h9 => h9) rfl dX1_letOut_27 ?_
          refine lv_icmp_ne (tgt := 57) hx hb dX1_letOut_30 (by decide) (fun c_3 => ?_) (fun c_3 => ?_)
          · have c_3 : ¬ (ho i) = fl := c_3
            refine lv_iinc (v := nI (i + 1)) (lv' := [(1, .int (nI (i + 1))), (0, .ref (h 0))]) hx hb dX1_letOut_57 hl (k := 0) rfl (nI_add (i) 1) (by decide) rfl (fun ls hl => ?_)
            refine lv_goto (tgt := 2) hx hb dX1_letOut_60 (by decide) ?_
            exact ih (i + 1) _ _ _ (by omega) (by omega) (lpN_next (by omega) hv (by simp only [sOut, if_neg c_1, if_pos c_2, if_neg c_3])) _ _ _ hP hD hS (lv_sub hl [0, 1] rfl)
          · have c_3 : (ho i) = fl := c_3
            refine lv_aload_n hx hb dX1_letOut_33 rfl (lv_at hl 1 rfl) ?_
            refine va_get (ci := 0) (v := .ref (h 6)) (C := RX1) (T := TX1) (N := 16) hx hb hts hin_X1 hown hK hP 0 rfl rfl 12 (by decide) (hts (.fieldLink RX1 27 "ButtonGuests$Hotel" "state" "[I") (by decide +kernel)) (fun _ h9 => h9) rfl dX1_letOut_34 ?_
            refine lv_iload_n hx hb dX1_letOut_37 rfl (lv_at hl 0 rfl) ?_
            refine lv_iconst (v := 2) hx hb dX1_letOut_38 (by decide) ?_
            refine zz_iast hx hb hK hP hD hS 6 0 i rfl rfl rfl ⟨by omega, Nat.le_of_ble_eq_true rfl⟩ dX1_letOut_39 (fun H locs hP hD hS => ?_)
            have hP : va_P D vwCl (hotelW cy h ((nI n, fl, se, pr, re, go, cv), (sg, bu, wa, ho, we, (upd sv i 2), gv, po, ri))) H := hP
            have hD : va_D A (hotelW cy h ((nI n, fl, se, pr, re, go, cv), (sg, bu, wa, ho, we, (upd sv i 2), gv, po, ri))) := hD
            refine lv_aload_n hx hb dX1_letOut_40 rfl (lv_at hl 1 rfl) ?_
            refine va_get (ci := 0) (v := .ref (h 7)) (C := RX1) (T := TX1) (N := 16) hx hb hts hin_X1 hown hK hP 0 rfl rfl 13 (by decide) (hts (.fieldLink RX1 30 "ButtonGuests$Hotel" "grudges" "[I") (by decide +kernel)) (fun _ h9 => h9) rfl dX1_letOut_41 ?_
            refine lv_iload_n hx hb dX1_letOut_44 rfl (lv_at hl 0 rfl) ?_
            refine lv_iconst (v := 0) hx hb dX1_letOut_45 (by decide) ?_
            refine zz_iast hx hb hK hP hD hS 7 0 i rfl rfl rfl ⟨by omega, Nat.le_of_ble_eq_true rfl⟩ dX1_letOut_46 (fun H locs hP hD hS => ?_)
            have hP : va_P D vwCl (hotelW cy h ((nI n, fl, se, pr, re, go, cv), (sg, bu, wa, ho, we, (upd sv i 2), (upd gv i 0), po, ri))) H := hP
            have hD : va_D A (hotelW cy h ((nI n, fl, se, pr, re, go, cv), (sg, bu, wa, ho, we, (upd sv i 2), (upd gv i 0), po, ri))) := hD
            refine lv_aload_n hx hb dX1_letOut_47 rfl (lv_at hl 1 rfl) ?_
            refine lv_dup hx hb dX1_letOut_48 rfl ?_
            refine va_get (ci := 0) (v := .int cv) (C := RX1) (T := TX1) (N := 16) hx hb hts hin_X1 hown hK hP 0 rfl rfl 7 (by decide) (hts (.fieldLink RX1 68 "ButtonGuests$Hotel" "cameHome" "I") (by decide +kernel)) (fun _ h9 => h9) rfl dX1_letOut_49 ?_
            refine lv_iconst (v := 1) hx hb dX1_letOut_52 (by decide) ?_
            refine lv_iadd hx hb dX1_letOut_53 ?_
            refine va_put (ci := 0) (v := .int (cv + 1)) (ty := .int) (C := RX1) (T := TX1) (N := 16) hx hb hts hin_X1 tyX1 tyX1_ok nmX1 hown hK hP hD hS 0 rfl rfl 7 (by decide) (hts (.fieldLink RX1 68 "ButtonGuests$Hotel" "cameHome" "I") (by decide +kernel)) (fun _ h9 => h9) rfl (by decide +kernel) rfl rfl (Nat.le_of_ble_eq_true rfl) dX1_letOut_54 (fun H locs hP hD hS => ?_)
            have hP : va_P D vwCl (hotelW cy h ((nI n, fl, se, pr, re, go, cv + 1), (sg, bu, wa, ho, we, (upd sv i 2), (upd gv i 0), po, ri))) H := hP
            have hD : va_D A (hotelW cy h ((nI n, fl, se, pr, re, go, cv + 1), (sg, bu, wa, ho, we, (upd sv i 2), (upd gv i 0), po, ri))) := hD
            refine lv_iinc (v := nI (i + 1)) (lv' := [(1, .int (nI (i + 1))), (0, .ref (h 0))]) hx hb dX1_letOut_57 hl (k := 0) rfl (nI_add (i) 1) (by decide) rfl (fun ls hl => ?_)
            refine lv_goto (tgt := 2) hx hb dX1_letOut_60 (by decide) ?_
            exact ih (i + 1) _ _ _ (by omega) (by omega) (lpN_next (by omega) hv (by simp only [sOut, if_neg c_1, if_pos c_2, if_pos c_3])) _ _ _ hP hD hS (lv_sub hl [0, 1] rfl)
  exact loop (n + 1) 0 _ _ _ (Nat.zero_le _) (by omega) rfl _ _ _ hP hD hS (lv_sub hl [0, 1] rfl)
abbrev rm_X1_letIn : Room := { frames := 1, cells := 0, slots := 0, locals := 22 }
set_option maxHeartbeats 4000000 in
set_option maxRecDepth 100000 in
theorem c_X1_letIn (l : Launch) (D : va_G) (cy : Nat → ClassId) (h : Nat → Nat) (n : Nat) (hn : n ≤ 4) (x : HS) (hg : x.1.1 = nI n) (sz : Nat) : Met l yX1_letIn wsX1_letIn rm_X1_letIn (wrP D cy [.ref (h 0)] (hotelW cy h x) sz) (va_Qv (fun u : HS => u = hIn n x) (wrB D (va_A (hotelW cy h x) sz) (fun u => hotelW cy h u)) (va_A (hotelW cy h x) sz)) 0 0 (va_A (hotelW cy h x) sz) := by
  obtain ⟨⟨gu, fl, se, pr, re, go, ch⟩, ⟨sg, bu, wa, ho, we, st, gr, po, ri⟩⟩ := x
  obtain rfl : gu = nI n := hg
  refine Mwv (cc := cX1_letIn) (maxL := 3) (by decide) rfl (Nat.le_of_ble_eq_true rfl) ?_
  intro p e s m args below meth c Q ls A hsz hinit hF hK hP hD hA hl hret
  obtain ⟨hx, hb, hml, hown, hts⟩ := id hF
  have hown : s.vm.findClass RX1 = some m.cls := hown
  have hin_X1 : ∀ w ∈ u_ws RX1 TX1 16, w ∈ wsX1_letIn := by decide +kernel
  have hl : lv_has ls 3 [(0, .ref (h 0))] := hl
  suffices key : ∀ (H : Heap) (locs : List Loc), va_P D vwCl (hotelW cy h ((nI n, fl, se, pr, re, go, ch), (sg, bu, wa, ho, we, st, gr, po, ri))) H → va_D A (hotelW cy h ((nI n, fl, se, pr, re, go, ch), (sg, bu, wa, ho, we, st, gr, po, ri))) → va_S A s.heap H locs → W p l e rm_X1_letIn s m args below meth c H locs 0 0 Q (F0 m 0 ls []) from key s.heap [] hP hD va_S.rf
  intro H locs hP hD hS
  refine lv_aload_n hx hb dX1_letIn_0 rfl (lv_at hl 0 rfl) ?_
  refine rd_V (As := []) (rest := []) hF (c_X1_weightOfRiders l D cy h n hn ((nI n, fl, se, pr, re, go, ch), (sg, bu, wa, ho, we, st, gr, po, ri)) rfl ) (cwV 0 hts gX1_letIn_X1_weightOfRiders rfl rfl rfl (by decide +kernel) ⟨Nat.le_of_ble_eq_true rfl, Nat.le_of_ble_eq_true rfl⟩) hK hP 0 0 rfl rfl rfl rfl hl.1 rfl (Nat.le_of_ble_eq_true rfl) dX1_letIn_1 ⟨Nat.le_of_ble_eq_true rfl, Nat.le_of_ble_eq_true rfl⟩ ?_
  refine lv_istore_n (lv' := [(1, .int (hWR n ((nI n, fl, se, pr, re, go, ch), (sg, bu, wa, ho, we, st, gr, po, ri)))), (0, .ref (h 0))]) hx hb dX1_letIn_4 rfl hl (by decide) rfl (fun ls hl => ?_)
  refine lv_iconst (v := 0) hx hb dX1_letIn_5 (by decide) ?_
  refine lv_istore_n (lv' := [(2, .int 0), (1, .int (hWR n ((nI n, fl, se, pr, re, go, ch), (sg, bu, wa, ho, we, st, gr, po, ri)))), (0, .ref (h 0))]) hx hb dX1_letIn_6 rfl hl (by decide) rfl (fun ls hl => ?_)
  have loop : ∀ (k i : Nat) (rv : Int32) (sv gv : Nat → Int32), i ≤ n → n + 1 ≤ i + k → lpN (sIn fl (sg 0) wa we) (n - i) i (rv, sv, gv) = lpN (sIn fl (sg 0) wa we) n 0 (lpN (sWR st we) n 0 0, st, gr) → ∀ (H : Heap) (locs : List Loc) (ls : Array Slot), va_P D vwCl (hotelW cy h ((nI n, fl, se, pr, re, go, ch), (sg, bu, wa, ho, we, sv, gv, po, ri))) H → va_D A (hotelW cy h ((nI n, fl, se, pr, re, go, ch), (sg, bu, wa, ho, we, sv, gv, po, ri))) → va_S A s.heap H locs → lv_has ls 3 [(2, .int (nI i)), (1, .int rv), (0, .ref (h 0))] → W p l e rm_X1_letIn s m args below meth c H locs 0 0 Q (F0 m 7 ls []) := by
    intro k
    induction k with
    | zero =>
      intro i rv sv gv hi hk hv
      exact absurd hk (by omega)
    | succ k ih =>
      intro i rv sv gv hi hk hv H locs ls hP hD hS hl
      refine lv_iload_n hx hb dX1_letIn_7 rfl (lv_at hl 0 rfl) ?_
      refine lv_aload_n hx hb dX1_letIn_8 rfl (lv_at hl 2 rfl) ?_
      refine va_get (ci := 0) (v := .int (nI n)) (C := RX1) (T := TX1) (N := 16) hx hb hts hin_X1 hown hK hP 0 rfl rfl 1 (by decide) (hts (.fieldLink RX1 49 "ButtonGuests$Hotel" "guests" "I") (by decide +kernel)) (fun _ h9 => h9) rfl dX1_letIn_9 ?_
      refine lv_icmp_ge (tgt := 94) hx hb dX1_letIn_12 (by decide) (fun c_1 => ?_) (fun c_1 => ?_)
      · have c_1 : n ≤ i := (nI_leI (a := n) (b := i) (by omega) (by omega)).mp c_1
        exact hret _ _ H locs ((nI n, fl, se, pr, re, go, ch), (sg, bu, wa, ho, we, sv, gv, po, ri)) dX1_letIn_94 hP hD hS (by have q := lpN_end c_1 hv; simp only [hIn, ← q])
      · have c_1 : ¬ n ≤ i := fun q => c_1 ((nI_leI (a := n) (b := i) (by omega) (by omega)).mpr q)
        refine lv_aload_n hx hb dX1_letIn_15 rfl (lv_at hl 2 rfl) ?_
        refine va_get (ci := 0) (v := .ref (h 6)) (C := RX1) (T := TX1) (N := 16) hx hb hts hin_X1 hown hK hP 0 rfl rfl 12 (by decide) (hts (.fieldLink RX1 27 "ButtonGuests$Hotel" "state" "[I") (by decide +kernel)) (fun _ h9 => h9) rfl dX1_letIn_16 ?_
        refine lv_iload_n hx hb dX1_letIn_19 rfl (lv_at hl 0 rfl) ?_
        refine zz_iald hx hb hK hP 6 0 i rfl rfl rfl ⟨by omega, Nat.le_of_ble_eq_true rfl⟩ dX1_letIn_20 ?_
        refine lv_if_ne (tgt := 88) hx hb dX1_letIn_21 (by decide) (fun c_2 => ?_) (fun c_2 => ?_)
        · have c_2 : ¬ (sv i) = 0 := c_2
          refine lv_iinc (v := nI (i + 1)) (lv' := [(2, .int (nI (i + 1))), (1, .int rv), (0, .ref (h 0))]) hx hb dX1_letIn_88 hl (k := 0) rfl (nI_add (i) 1) (by decide) rfl (fun ls hl => ?_)
          refine lv_goto (tgt := 7) hx hb dX1_letIn_91 (by decide) ?_
          exact ih (i + 1) _ _ _ (by omega) (by omega) (lpN_next (by omega) hv (by simp only [sIn, if_neg c_1, if_neg c_2])) _ _ _ hP hD hS (lv_sub hl [0, 1, 2] rfl)
        · have c_2 : (sv i) = 0 := c_2
          refine lv_aload_n hx hb dX1_letIn_24 rfl (lv_at hl 2 rfl) ?_
          refine va_get (ci := 0) (v := .ref (h 3)) (C := RX1) (T := TX1) (N := 16) hx hb hts hin_X1 hown hK hP 0 rfl rfl 9 (by decide) (hts (.fieldLink RX1 18 "ButtonGuests$Hotel" "waitingFloor" "[I") (by decide +kernel)) (fun _ h9 => h9) rfl dX1_letIn_25 ?_
          refine lv_iload_n hx hb dX1_letIn_28 rfl (lv_at hl 0 rfl) ?_
          refine zz_iald hx hb hK hP 3 0 i rfl rfl rfl ⟨by omega, Nat.le_of_ble_eq_true rfl⟩ dX1_letIn_29 ?_
          refine lv_aload_n hx hb dX1_letIn_30 rfl (lv_at hl 2 rfl) ?_
          refine va_get (ci := 0) (v := .int fl) (C := RX1) (T := TX1) (N := 16) hx hb hts hin_X1 hown hK hP 0 rfl rfl 2 (by decide) (hts (.fieldLink RX1 53 "ButtonGuests$Hotel" "floor" "I") (by decide +kernel)) (fun _ h9 => h9) rfl dX1_letIn_31 ?_
          refine lv_icmp_eq (tgt := 40) hx hb dX1_letIn_34 (by decide) (fun c_3 => ?_) (fun c_3 => ?_)
          · have c_3 : (wa i) = fl := c_3
            refine lv_iload_n hx hb dX1_letIn_40 rfl (lv_at hl 1 rfl) ?_
            refine lv_aload_n hx hb dX1_letIn_41 rfl (lv_at hl 2 rfl) ?_
            refine va_get (ci := 0) (v := .ref (h 5)) (C := RX1) (T := TX1) (N := 16) hx hb hts hin_X1 hown hK hP 0 rfl rfl 11 (by decide) (hts (.fieldLink RX1 24 "ButtonGuests$Hotel" "weight" "[I") (by decide +kernel)) (fun _ h9 => h9) rfl dX1_letIn_42 ?_
            refine lv_iload_n hx hb dX1_letIn_45 rfl (lv_at hl 0 rfl) ?_
            refine zz_iald hx hb hK hP 5 0 i rfl rfl rfl ⟨by omega, Nat.le_of_ble_eq_true rfl⟩ dX1_letIn_46 ?_
            refine lv_iadd hx hb dX1_letIn_47 ?_
            refine lv_aload_n hx hb dX1_letIn_48 rfl (lv_at hl 2 rfl) ?_
            refine va_get (ci := 0) (v := .ref (h 1)) (C := RX1) (T := TX1) (N := 16) hx hb hts hin_X1 hown hK hP 0 rfl rfl 0 (by decide) (hts (.fieldLink RX1 9 "ButtonGuests$Hotel" "settings" "[I") (by decide +kernel)) (fun _ h9 => h9) rfl dX1_letIn_49 ?_
            refine lv_iconst (v := 0) hx hb dX1_letIn_52 (by decide) ?_
            refine zz_iald hx hb hK hP 1 0 0 rfl rfl rfl ⟨by decide, Nat.le_of_ble_eq_true rfl⟩ dX1_letIn_53 ?_
            refine lv_icmp_gt (tgt := 83) hx hb dX1_letIn_54 (by decide) (fun c_4 => ?_) (fun c_4 => ?_)
            · have c_4 : (sg 0) < (rv + (we i)) := c_4
              refine lv_aload_n hx hb dX1_letIn_83 rfl (lv_at hl 2 rfl) ?_
              refine lv_iload_n hx hb dX1_letIn_84 rfl (lv_at hl 0 rfl) ?_
              refine wr_v (fun u => hotelW cy h u) (va_runV (As := [.int (nI i)]) (rest := []) hF (c_X1_addGrudge l D cy h n hn ((nI n, fl, se, pr, re, go, ch), (sg, bu, wa, ho, we, sv, gv, po, ri)) rfl H.size i (by omega)) (cwV 1 hts gX1_letIn_X1_addGrudge rfl rfl rfl (by decide +kernel) ⟨Nat.le_of_ble_eq_true rfl, Nat.le_of_ble_eq_true rfl⟩) (wr_preV hK hP hD (zz_all _) 0 0 rfl rfl rfl) rfl rfl hl.1 rfl (lv_room (Nat.le_of_ble_eq_true rfl)) dX1_letIn_85 ⟨Nat.le_of_ble_eq_true rfl, Nat.le_of_ble_eq_true rfl⟩) hP hD hS hA (zz_all _) (fun _ => zz_all _) (fun u_5 H locs e_6 hP hD hS => ?_)
              obtain rfl : u_5 = ((nI n, fl, se, pr, re, go, ch), (sg, bu, wa, ho, we, sv, (vAdd gv i), po, ri)) := e_6
              have hP : va_P D vwCl (hotelW cy h ((nI n, fl, se, pr, re, go, ch), (sg, bu, wa, ho, we, sv, (vAdd gv i), po, ri))) H := hP
              have hD : va_D A (hotelW cy h ((nI n, fl, se, pr, re, go, ch), (sg, bu, wa, ho, we, sv, (vAdd gv i), po, ri))) := hD
              refine lv_iinc (v := nI (i + 1)) (lv' := [(2, .int (nI (i + 1))), (1, .int rv), (0, .ref (h 0))]) hx hb dX1_letIn_88 hl (k := 0) rfl (nI_add (i) 1) (by decide) rfl (fun ls hl => ?_)
              refine lv_goto (tgt := 7) hx hb dX1_letIn_91 (by decide) ?_
              exact ih (i + 1) _ _ _ (by omega) (by omega) (lpN_next (by omega) hv (by simp only [sIn, if_neg c_1, if_pos c_2, if_pos c_3, if_pos c_4])) _ _ _ hP hD hS (lv_sub hl [0, 1, 2] rfl)
            · have c_4 : ¬ (sg 0) < (rv + (we i)) := c_4
              refine lv_iload_n hx hb dX1_letIn_57 rfl (lv_at hl 1 rfl) ?_
              refine lv_aload_n hx hb dX1_letIn_58 rfl (lv_at hl 2 rfl) ?_
              refine va_get (ci := 0) (v := .ref (h 5)) (C := RX1) (T := TX1) (N := 16) hx hb hts hin_X1 hown hK hP 0 rfl rfl 11 (by decide) (hts (.fieldLink RX1 24 "ButtonGuests$Hotel" "weight" "[I") (by decide +kernel)) (fun _ h9 => h9) rfl dX1_letIn_59 ?_
              refine lv_iload_n hx hb dX1_letIn_62 rfl (lv_at hl 0 rfl) ?_
              refine zz_iald hx hb hK hP 5 0 i rfl rfl rfl ⟨by omega, Nat.le_of_ble_eq_true rfl⟩ dX1_letIn_63 ?_
              refine lv_iadd hx hb dX1_letIn_64 ?_
              refine lv_istore_n (lv' := [(1, .int (rv + (we i))), (2, .int (nI i)), (0, .ref (h 0))]) hx hb dX1_letIn_65 rfl hl (by decide) rfl (fun ls hl => ?_)
              refine lv_aload_n hx hb dX1_letIn_66 rfl (lv_at hl 2 rfl) ?_
              refine va_get (ci := 0) (v := .ref (h 6)) (C := RX1) (T := TX1) (N := 16) hx hb hts hin_X1 hown hK hP 0 rfl rfl 12 (by decide) (hts (.fieldLink RX1 27 "ButtonGuests$Hotel" "state" "[I") (by decide +kernel)) (fun _ h9 => h9) rfl dX1_letIn_67 ?_
              refine lv_iload_n hx hb dX1_letIn_70 rfl (lv_at hl 1 rfl) ?_
              refine lv_iconst (v := 1) hx hb dX1_letIn_71 (by decide) ?_
              refine zz_iast hx hb hK hP hD hS 6 0 i rfl rfl rfl ⟨by omega, Nat.le_of_ble_eq_true rfl⟩ dX1_letIn_72 (fun H locs hP hD hS => ?_)
              have hP : va_P D vwCl (hotelW cy h ((nI n, fl, se, pr, re, go, ch), (sg, bu, wa, ho, we, (upd sv i 1), gv, po, ri))) H := hP
              have hD : va_D A (hotelW cy h ((nI n, fl, se, pr, re, go, ch), (sg, bu, wa, ho, we, (upd sv i 1), gv, po, ri))) := hD
              refine lv_aload_n hx hb dX1_letIn_73 rfl (lv_at hl 2 rfl) ?_
              refine va_get (ci := 0) (v := .ref (h 7)) (C := RX1) (T := TX1) (N := 16) hx hb hts hin_X1 hown hK hP 0 rfl rfl 13 (by decide) (hts (.fieldLink RX1 30 "ButtonGuests$Hotel" "grudges" "[I") (by decide +kernel)) (fun _ h9 => h9) rfl dX1_letIn_74 ?_
              refine lv_iload_n hx hb dX1_letIn_77 rfl (lv_at hl 1 rfl) ?_
              refine lv_iconst (v := 0) hx hb dX1_letIn_78 (by decide) ?_
              refine zz_iast hx hb hK hP hD hS 7 0 i rfl rfl rfl ⟨by omega, Nat.le_of_ble_eq_true rfl⟩ dX1_letIn_79 (fun H locs hP hD hS => ?_)
              have hP : va_P D vwCl (hotelW cy h ((nI n, fl, se, pr, re, go, ch), (sg, bu, wa, ho, we, (upd sv i 1), (upd gv i 0), po, ri))) H := hP
              have hD : va_D A (hotelW cy h ((nI n, fl, se, pr, re, go, ch), (sg, bu, wa, ho, we, (upd sv i 1), (upd gv i 0), po, ri))) := hD
              refine lv_goto (tgt := 88) hx hb dX1_letIn_80 (by decide) ?_
              refine lv_iinc (v := nI (i + 1)) (lv' := [(2, .int (nI (i + 1))), (1, .int (rv + (we i))), (0, .ref (h 0))]) hx hb dX1_letIn_88 hl (k := 1) rfl (nI_add (i) 1) (by decide) rfl (fun ls hl => ?_)
              refine lv_goto (tgt := 7) hx hb dX1_letIn_91 (by decide) ?_
              exact ih (i + 1) _ _ _ (by omega) (by omega) (lpN_next (by omega) hv (by simp only [sIn, if_neg c_1, if_pos c_2, if_pos c_3, if_neg c_4])) _ _ _ hP hD hS (lv_sub hl [0, 1, 2] rfl)
          · have c_3 : ¬ (wa i) = fl := c_3
            refine lv_goto (tgt := 88) hx hb dX1_letIn_37 (by decide) ?_
            refine lv_iinc (v := nI (i + 1)) (lv' := [(2, .int (nI (i + 1))), (1, .int rv), (0, .ref (h 0))]) hx hb dX1_letIn_88 hl (k := 0) rfl (nI_add (i) 1) (by decide) rfl (fun ls hl => ?_)
            refine lv_goto (tgt := 7) hx hb dX1_letIn_91 (by decide) ?_
            exact ih (i + 1) _ _ _ (by omega) (by omega) (lpN_next (by omega) hv (by simp only [sIn, if_neg c_1, if_pos c_2, if_neg c_3])) _ _ _ hP hD hS (lv_sub hl [0, 1, 2] rfl)
  exact loop (n + 1) 0 _ _ _ (Nat.zero_le _) (by omega) rfl _ _ _ hP hD hS (lv_sub hl [0, 1, 2] rfl)
abbrev rm_X1_travelTo : Room := { frames := 1, cells := 0, slots := 0, locals := 21 }
set_option maxHeartbeats 4000000 in
set_option maxRecDepth 100000 in
theorem c_X1_travelTo (l : Launch) (D : va_G) (cy : Nat → ClassId) (h : Nat → Nat) (n : Nat) (hn : n ≤ 4) (x : HS) (hg : x.1.1 = nI n) (sz : Nat) (t : Int32) : Met l yX1_travelTo wsX1_travelTo rm_X1_travelTo (wrP D cy [.ref (h 0), .int t] (hotelW cy h x) sz) (va_Qv (fun u : HS => u = hTv n t x) (wrB D (va_A (hotelW cy h x) sz) (fun u => hotelW cy h u)) (va_A (hotelW cy h x) sz)) 0 0 (va_A (hotelW cy h x) sz) := by
  obtain ⟨⟨gu, fl, se, pr, re, go, ch⟩, ⟨sg, bu, wa, ho, we, st, gr, po, ri⟩⟩ := x
  obtain rfl : gu = nI n := hg
  refine Mwv (cc := cX1_travelTo) (maxL := 7) (by decide) rfl (Nat.le_of_ble_eq_true rfl) ?_
  intro p e s m args below meth c Q ls A hsz hinit hF hK hP hD hA hl hret
  obtain ⟨hx, hb, hml, hown, hts⟩ := id hF
  have hown : s.vm.findClass RX1 = some m.cls := hown
  have hin_X1 : ∀ w ∈ u_ws RX1 TX1 16, w ∈ wsX1_travelTo := by decide +kernel
  have hl : lv_has ls 7 [(0, .ref (h 0)), (1, .int t)] := hl
  suffices key : ∀ (H : Heap) (locs : List Loc), va_P D vwCl (hotelW cy h ((nI n, fl, se, pr, re, go, ch), (sg, bu, wa, ho, we, st, gr, po, ri))) H → va_D A (hotelW cy h ((nI n, fl, se, pr, re, go, ch), (sg, bu, wa, ho, we, st, gr, po, ri))) → va_S A s.heap H locs → W p l e rm_X1_travelTo s m args below meth c H locs 0 0 Q (F0 m 0 ls []) from key s.heap [] hP hD va_S.rf
  intro H locs hP hD hS
  have join1 : ∀ (H : Heap) (locs : List Loc) (ls : Array Slot), va_P D vwCl (hotelW cy h ((nI n, fl, se, pr, re, go, ch), (sg, bu, wa, ho, we, st, gr, po, ri))) H → va_D A (hotelW cy h ((nI n, fl, se, pr, re, go, ch), (sg, bu, wa, ho, we, st, gr, po, ri))) → va_S A s.heap H locs → lv_has ls 7 [(0, .ref (h 0)), (1, .int t)] → W p l e rm_X1_travelTo s m args below meth c H locs 0 0 Q (F0 m 16 ls [.int (vLo t fl)]) := by
    intro H locs ls hP hD hS hl
    refine lv_istore_n (lv' := [(2, .int (vLo t fl)), (0, .ref (h 0)), (1, .int t)]) hx hb dX1_travelTo_16 rfl hl (by decide) rfl (fun ls hl => ?_)
    have join2 : ∀ (H : Heap) (locs : List Loc) (ls : Array Slot), va_P D vwCl (hotelW cy h ((nI n, fl, se, pr, re, go, ch), (sg, bu, wa, ho, we, st, gr, po, ri))) H → va_D A (hotelW cy h ((nI n, fl, se, pr, re, go, ch), (sg, bu, wa, ho, we, st, gr, po, ri))) → va_S A s.heap H locs → lv_has ls 7 [(2, .int (vLo t fl)), (0, .ref (h 0)), (1, .int t)] → W p l e rm_X1_travelTo s m args below meth c H locs 0 0 Q (F0 m 33 ls [.int (vHi t fl)]) := by
      intro H locs ls hP hD hS hl
      refine lv_istore_n (lv' := [(3, .int (vHi t fl)), (2, .int (vLo t fl)), (0, .ref (h 0)), (1, .int t)]) hx hb dX1_travelTo_33 rfl hl (by decide) rfl (fun ls hl => ?_)
      refine lv_iload_n hx hb dX1_travelTo_34 rfl (lv_at hl 0 rfl) ?_
      refine lv_iload_n hx hb dX1_travelTo_35 rfl (lv_at hl 1 rfl) ?_
      refine lv_isub hx hb dX1_travelTo_36 ?_
      refine lv_istore (lv' := [(4, .int ((vHi t fl) - (vLo t fl))), (3, .int (vHi t fl)), (2, .int (vLo t fl)), (0, .ref (h 0)), (1, .int t)]) hx hb dX1_travelTo_37 hl (by decide) rfl (fun ls hl => ?_)
      refine lv_iconst (v := 0) hx hb dX1_travelTo_39 (by decide) ?_
      refine lv_istore (lv' := [(5, .int 0), (4, .int ((vHi t fl) - (vLo t fl))), (3, .int (vHi t fl)), (2, .int (vLo t fl)), (0, .ref (h 0)), (1, .int t)]) hx hb dX1_travelTo_40 hl (by decide) rfl (fun ls hl => ?_)
      have loop : ∀ (k i : Nat) (gv rv : Nat → Int32), i ≤ n → n + 1 ≤ i + k → lpN (sTv (vLo t fl) (vHi t fl) (vHi t fl - vLo t fl) st ho wa) (n - i) i (gv, rv) = lpN (sTv (vLo t fl) (vHi t fl) (vHi t fl - vLo t fl) st ho wa) n 0 (gr, ri) → ∀ (H : Heap) (locs : List Loc) (ls : Array Slot), va_P D vwCl (hotelW cy h ((nI n, fl, se, pr, re, go, ch), (sg, bu, wa, ho, we, st, gv, po, rv))) H → va_D A (hotelW cy h ((nI n, fl, se, pr, re, go, ch), (sg, bu, wa, ho, we, st, gv, po, rv))) → va_S A s.heap H locs → lv_has ls 7 [(5, .int (nI i)), (4, .int ((vHi t fl) - (vLo t fl))), (3, .int (vHi t fl)), (2, .int (vLo t fl)), (0, .ref (h 0)), (1, .int t)] → W p l e rm_X1_travelTo s m args below meth c H locs 0 0 Q (F0 m 42 ls []) := by
        intro k
        induction k with
        | zero =>
          intro i gv rv hi hk hv
          exact absurd hk (by omega)
        | succ k ih =>
          intro i gv rv hi hk hv H locs ls hP hD hS hl
          refine lv_iload hx hb dX1_travelTo_42 (lv_at hl 0 rfl) ?_
          refine lv_aload_n hx hb dX1_travelTo_44 rfl (lv_at hl 4 rfl) ?_
          refine va_get (ci := 0) (v := .int (nI n)) (C := RX1) (T := TX1) (N := 16) hx hb hts hin_X1 hown hK hP 0 rfl rfl 1 (by decide) (hts (.fieldLink RX1 49 "ButtonGuests$Hotel" "guests" "I") (by decide +kernel)) (fun _ h9 => h9) rfl dX1_travelTo_45 ?_
          refine lv_icmp_ge (tgt := 106) hx hb dX1_travelTo_48 (by decide) (fun c_1 => ?_) (fun c_1 => ?_)
          · have c_1 : n ≤ i := (nI_leI (a := n) (b := i) (by omega) (by omega)).mp c_1
            refine lv_aload_n hx hb dX1_travelTo_106 rfl (lv_at hl 4 rfl) ?_
            refine lv_dup hx hb dX1_travelTo_107 rfl ?_
            refine va_get (ci := 0) (v := .int se) (C := RX1) (T := TX1) (N := 16) hx hb hts hin_X1 hown hK hP 0 rfl rfl 3 (by decide) (hts (.fieldLink RX1 56 "ButtonGuests$Hotel" "seconds" "I") (by decide +kernel)) (fun _ h9 => h9) rfl dX1_travelTo_108 ?_
            refine lv_iload hx hb dX1_travelTo_111 (lv_at hl 1 rfl) ?_
            refine lv_aload_n hx hb dX1_travelTo_113 rfl (lv_at hl 4 rfl) ?_
            refine va_get (ci := 0) (v := .ref (h 1)) (C := RX1) (T := TX1) (N := 16) hx hb hts hin_X1 hown hK hP 0 rfl rfl 0 (by decide) (hts (.fieldLink RX1 9 "ButtonGuests$Hotel" "settings" "[I") (by decide +kernel)) (fun _ h9 => h9) rfl dX1_travelTo_114 ?_
            refine lv_iconst (v := 2) hx hb dX1_travelTo_117 (by decide) ?_
            refine zz_iald hx hb hK hP 1 0 2 rfl rfl rfl ⟨by decide, Nat.le_of_ble_eq_true rfl⟩ dX1_travelTo_118 ?_
            refine lv_imul hx hb dX1_travelTo_119 ?_
            refine lv_iconst (v := 5) hx hb dX1_travelTo_120 (by decide) ?_
            refine lv_iadd hx hb dX1_travelTo_121 ?_
            refine lv_iadd hx hb dX1_travelTo_122 ?_
            refine va_put (ci := 0) (v := .int (se + ((((vHi t fl) - (vLo t fl)) * (sg 2)) + 5))) (ty := .int) (C := RX1) (T := TX1) (N := 16) hx hb hts hin_X1 tyX1 tyX1_ok nmX1 hown hK hP hD hS 0 rfl rfl 3 (by decide) (hts (.fieldLink RX1 56 "ButtonGuests$Hotel" "seconds" "I") (by decide +kernel)) (fun _ h9 => h9) rfl (by decide +kernel) rfl rfl (Nat.le_of_ble_eq_true rfl) dX1_travelTo_123 (fun H locs hP hD hS => ?_)
            have hP : va_P D vwCl (hotelW cy h ((nI n, fl, se + ((((vHi t fl) - (vLo t fl)) * (sg 2)) + 5), pr, re, go, ch), (sg, bu, wa, ho, we, st, gv, po, rv))) H := hP
            have hD : va_D A (hotelW cy h ((nI n, fl, se + ((((vHi t fl) - (vLo t fl)) * (sg 2)) + 5), pr, re, go, ch), (sg, bu, wa, ho, we, st, gv, po, rv))) := hD
            refine lv_aload_n hx hb dX1_travelTo_126 rfl (lv_at hl 4 rfl) ?_
            refine lv_dup hx hb dX1_travelTo_127 rfl ?_
            refine va_get (ci := 0) (v := .int go) (C := RX1) (T := TX1) (N := 16) hx hb hts hin_X1 hown hK hP 0 rfl rfl 6 (by decide) (hts (.fieldLink RX1 65 "ButtonGuests$Hotel" "floorsGone" "I") (by decide +kernel)) (fun _ h9 => h9) rfl dX1_travelTo_128 ?_
            refine lv_iload hx hb dX1_travelTo_131 (lv_at hl 1 rfl) ?_
            refine lv_iadd hx hb dX1_travelTo_133 ?_
            refine va_put (ci := 0) (v := .int (go + ((vHi t fl) - (vLo t fl)))) (ty := .int) (C := RX1) (T := TX1) (N := 16) hx hb hts hin_X1 tyX1 tyX1_ok nmX1 hown hK hP hD hS 0 rfl rfl 6 (by decide) (hts (.fieldLink RX1 65 "ButtonGuests$Hotel" "floorsGone" "I") (by decide +kernel)) (fun _ h9 => h9) rfl (by decide +kernel) rfl rfl (Nat.le_of_ble_eq_true rfl) dX1_travelTo_134 (fun H locs hP hD hS => ?_)
            have hP : va_P D vwCl (hotelW cy h ((nI n, fl, se + ((((vHi t fl) - (vLo t fl)) * (sg 2)) + 5), pr, re, go + ((vHi t fl) - (vLo t fl)), ch), (sg, bu, wa, ho, we, st, gv, po, rv))) H := hP
            have hD : va_D A (hotelW cy h ((nI n, fl, se + ((((vHi t fl) - (vLo t fl)) * (sg 2)) + 5), pr, re, go + ((vHi t fl) - (vLo t fl)), ch), (sg, bu, wa, ho, we, st, gv, po, rv))) := hD
            refine lv_aload_n hx hb dX1_travelTo_137 rfl (lv_at hl 4 rfl) ?_
            refine lv_iload_n hx hb dX1_travelTo_138 rfl (lv_at hl 5 rfl) ?_
            refine va_put (ci := 0) (v := .int t) (ty := .int) (C := RX1) (T := TX1) (N := 16) hx hb hts hin_X1 tyX1 tyX1_ok nmX1 hown hK hP hD hS 0 rfl rfl 2 (by decide) (hts (.fieldLink RX1 53 "ButtonGuests$Hotel" "floor" "I") (by decide +kernel)) (fun _ h9 => h9) rfl (by decide +kernel) rfl rfl (Nat.le_of_ble_eq_true rfl) dX1_travelTo_139 (fun H locs hP hD hS => ?_)
            have hP : va_P D vwCl (hotelW cy h ((nI n, t, se + ((((vHi t fl) - (vLo t fl)) * (sg 2)) + 5), pr, re, go + ((vHi t fl) - (vLo t fl)), ch), (sg, bu, wa, ho, we, st, gv, po, rv))) H := hP
            have hD : va_D A (hotelW cy h ((nI n, t, se + ((((vHi t fl) - (vLo t fl)) * (sg 2)) + 5), pr, re, go + ((vHi t fl) - (vLo t fl)), ch), (sg, bu, wa, ho, we, st, gv, po, rv))) := hD
            exact hret _ _ H locs ((nI n, t, se + ((((vHi t fl) - (vLo t fl)) * (sg 2)) + 5), pr, re, go + ((vHi t fl) - (vLo t fl)), ch), (sg, bu, wa, ho, we, st, gv, po, rv)) dX1_travelTo_142 hP hD hS (by have q := lpN_end c_1 hv; simp only [hTv, ← q])
          · have c_1 : ¬ n ≤ i := fun q => c_1 ((nI_leI (a := n) (b := i) (by omega) (by omega)).mpr q)
            refine lv_aload_n hx hb dX1_travelTo_51 rfl (lv_at hl 4 rfl) ?_
            refine lv_iload hx hb dX1_travelTo_52 (lv_at hl 0 rfl) ?_
            refine rd_V (As := [.int (nI i)]) (rest := []) hF (c_X1_hopedStop l D cy h n hn ((nI n, fl, se, pr, re, go, ch), (sg, bu, wa, ho, we, st, gv, po, rv)) rfl i (by omega)) (cwV 1 hts gX1_travelTo_X1_hopedStop rfl rfl rfl (by decide +kernel) ⟨Nat.le_of_ble_eq_true rfl, Nat.le_of_ble_eq_true rfl⟩) hK hP 0 0 rfl rfl rfl rfl hl.1 rfl (Nat.le_of_ble_eq_true rfl) dX1_travelTo_54 ⟨Nat.le_of_ble_eq_true rfl, Nat.le_of_ble_eq_true rfl⟩ ?_
            refine lv_istore (lv' := [(6, .int (vHope st ho wa i)), (5, .int (nI i)), (4, .int ((vHi t fl) - (vLo t fl))), (3, .int (vHi t fl)), (2, .int (vLo t fl)), (0, .ref (h 0)), (1, .int t)]) hx hb dX1_travelTo_57 hl (by decide) rfl (fun ls hl => ?_)
            refine lv_iload_n hx hb dX1_travelTo_59 rfl (lv_at hl 4 rfl) ?_
            refine lv_iload hx hb dX1_travelTo_60 (lv_at hl 0 rfl) ?_
            refine lv_icmp_ge (tgt := 77) hx hb dX1_travelTo_62 (by decide) (fun c_2 => ?_) (fun c_2 => ?_)
            · have c_2 : (vHope st ho wa i) ≤ (vLo t fl) := c_2
              refine lv_aload_n hx hb dX1_travelTo_77 rfl (lv_at hl 5 rfl) ?_
              refine va_get (ci := 0) (v := .ref (h 6)) (C := RX1) (T := TX1) (N := 16) hx hb hts hin_X1 hown hK hP 0 rfl rfl 12 (by decide) (hts (.fieldLink RX1 27 "ButtonGuests$Hotel" "state" "[I") (by decide +kernel)) (fun _ h9 => h9) rfl dX1_travelTo_78 ?_
              refine lv_iload hx hb dX1_travelTo_81 (lv_at hl 1 rfl) ?_
              refine zz_iald hx hb hK hP 6 0 i rfl rfl rfl ⟨by omega, Nat.le_of_ble_eq_true rfl⟩ dX1_travelTo_83 ?_
              refine lv_iconst (v := 1) hx hb dX1_travelTo_84 (by decide) ?_
              refine lv_icmp_ne (tgt := 100) hx hb dX1_travelTo_85 (by decide) (fun c_3 => ?_) (fun c_3 => ?_)
              · have c_3 : ¬ (st i) = 1 := c_3
                refine lv_iinc (v := nI (i + 1)) (lv' := [(5, .int (nI (i + 1))), (6, .int (vHope st ho wa i)), (4, .int ((vHi t fl) - (vLo t fl))), (3, .int (vHi t fl)), (2, .int (vLo t fl)), (0, .ref (h 0)), (1, .int t)]) hx hb dX1_travelTo_100 hl (k := 1) rfl (nI_add (i) 1) (by decide) rfl (fun ls hl => ?_)
                refine lv_goto (tgt := 42) hx hb dX1_travelTo_103 (by decide) ?_
                exact ih (i + 1) _ _ (by omega) (by omega) (lpN_next (by omega) hv (by simp only [sTv, if_neg c_1, if_pos c_2, if_neg c_3])) _ _ _ hP hD hS (lv_sub hl [0, 2, 3, 4, 5, 6] rfl)
              · have c_3 : (st i) = 1 := c_3
                refine lv_aload_n hx hb dX1_travelTo_88 rfl (lv_at hl 5 rfl) ?_
                refine va_get (ci := 0) (v := .ref (h 9)) (C := RX1) (T := TX1) (N := 16) hx hb hts hin_X1 hown hK hP 0 rfl rfl 15 (by decide) (hts (.fieldLink RX1 36 "ButtonGuests$Hotel" "ridden" "[I") (by decide +kernel)) (fun _ h9 => h9) rfl dX1_travelTo_89 ?_
                refine lv_iload hx hb dX1_travelTo_92 (lv_at hl 1 rfl) ?_
                refine lv_dup2_11 hx hb dX1_travelTo_94 rfl rfl ?_
                refine zz_iald hx hb hK hP 9 0 i rfl rfl rfl ⟨by omega, Nat.le_of_ble_eq_true rfl⟩ dX1_travelTo_95 ?_
                refine lv_iload hx hb dX1_travelTo_96 (lv_at hl 2 rfl) ?_
                refine lv_iadd hx hb dX1_travelTo_98 ?_
                refine zz_iast hx hb hK hP hD hS 9 0 i rfl rfl rfl ⟨by omega, Nat.le_of_ble_eq_true rfl⟩ dX1_travelTo_99 (fun H locs hP hD hS => ?_)
                have hP : va_P D vwCl (hotelW cy h ((nI n, fl, se, pr, re, go, ch), (sg, bu, wa, ho, we, st, gv, po, (upd rv i ((rv i) + ((vHi t fl) - (vLo t fl))))))) H := hP
                have hD : va_D A (hotelW cy h ((nI n, fl, se, pr, re, go, ch), (sg, bu, wa, ho, we, st, gv, po, (upd rv i ((rv i) + ((vHi t fl) - (vLo t fl))))))) := hD
                refine lv_iinc (v := nI (i + 1)) (lv' := [(5, .int (nI (i + 1))), (6, .int (vHope st ho wa i)), (4, .int ((vHi t fl) - (vLo t fl))), (3, .int (vHi t fl)), (2, .int (vLo t fl)), (0, .ref (h 0)), (1, .int t)]) hx hb dX1_travelTo_100 hl (k := 1) rfl (nI_add (i) 1) (by decide) rfl (fun ls hl => ?_)
                refine lv_goto (tgt := 42) hx hb dX1_travelTo_103 (by decide) ?_
                exact ih (i + 1) _ _ (by omega) (by omega) (lpN_next (by omega) hv (by simp only [sTv, if_neg c_1, if_pos c_2, if_pos c_3])) _ _ _ hP hD hS (lv_sub hl [0, 2, 3, 4, 5, 6] rfl)
            · have c_2 : ¬ (vHope st ho wa i) ≤ (vLo t fl) := c_2
              refine lv_iload hx hb dX1_travelTo_65 (lv_at hl 0 rfl) ?_
              refine lv_iload_n hx hb dX1_travelTo_67 rfl (lv_at hl 3 rfl) ?_
              refine lv_icmp_ge (tgt := 77) hx hb dX1_travelTo_68 (by decide) (fun c_4 => ?_) (fun c_4 => ?_)
              · have c_4 : (vHi t fl) ≤ (vHope st ho wa i) := c_4
                refine lv_aload_n hx hb dX1_travelTo_77 rfl (lv_at hl 5 rfl) ?_
                refine va_get (ci := 0) (v := .ref (h 6)) (C := RX1) (T := TX1) (N := 16) hx hb hts hin_X1 hown hK hP 0 rfl rfl 12 (by decide) (hts (.fieldLink RX1 27 "ButtonGuests$Hotel" "state" "[I") (by decide +kernel)) (fun _ h9 => h9) rfl dX1_travelTo_78 ?_
                refine lv_iload hx hb dX1_travelTo_81 (lv_at hl 1 rfl) ?_
                refine zz_iald hx hb hK hP 6 0 i rfl rfl rfl ⟨by omega, Nat.le_of_ble_eq_true rfl⟩ dX1_travelTo_83 ?_
                refine lv_iconst (v := 1) hx hb dX1_travelTo_84 (by decide) ?_
                refine lv_icmp_ne (tgt := 100) hx hb dX1_travelTo_85 (by decide) (fun c_5 => ?_) (fun c_5 => ?_)
                · have c_5 : ¬ (st i) = 1 := c_5
                  refine lv_iinc (v := nI (i + 1)) (lv' := [(5, .int (nI (i + 1))), (6, .int (vHope st ho wa i)), (4, .int ((vHi t fl) - (vLo t fl))), (3, .int (vHi t fl)), (2, .int (vLo t fl)), (0, .ref (h 0)), (1, .int t)]) hx hb dX1_travelTo_100 hl (k := 1) rfl (nI_add (i) 1) (by decide) rfl (fun ls hl => ?_)
                  refine lv_goto (tgt := 42) hx hb dX1_travelTo_103 (by decide) ?_
                  exact ih (i + 1) _ _ (by omega) (by omega) (lpN_next (by omega) hv (by simp only [sTv, if_neg c_1, if_neg c_2, if_pos c_4, if_neg c_5])) _ _ _ hP hD hS (lv_sub hl [0, 2, 3, 4, 5, 6] rfl)
                · have c_5 : (st i) = 1 := c_5
                  refine lv_aload_n hx hb dX1_travelTo_88 rfl (lv_at hl 5 rfl) ?_
                  refine va_get (ci := 0) (v := .ref (h 9)) (C := RX1) (T := TX1) (N := 16) hx hb hts hin_X1 hown hK hP 0 rfl rfl 15 (by decide) (hts (.fieldLink RX1 36 "ButtonGuests$Hotel" "ridden" "[I") (by decide +kernel)) (fun _ h9 => h9) rfl dX1_travelTo_89 ?_
                  refine lv_iload hx hb dX1_travelTo_92 (lv_at hl 1 rfl) ?_
                  refine lv_dup2_11 hx hb dX1_travelTo_94 rfl rfl ?_
                  refine zz_iald hx hb hK hP 9 0 i rfl rfl rfl ⟨by omega, Nat.le_of_ble_eq_true rfl⟩ dX1_travelTo_95 ?_
                  refine lv_iload hx hb dX1_travelTo_96 (lv_at hl 2 rfl) ?_
                  refine lv_iadd hx hb dX1_travelTo_98 ?_
                  refine zz_iast hx hb hK hP hD hS 9 0 i rfl rfl rfl ⟨by omega, Nat.le_of_ble_eq_true rfl⟩ dX1_travelTo_99 (fun H locs hP hD hS => ?_)
                  have hP : va_P D vwCl (hotelW cy h ((nI n, fl, se, pr, re, go, ch), (sg, bu, wa, ho, we, st, gv, po, (upd rv i ((rv i) + ((vHi t fl) - (vLo t fl))))))) H := hP
                  have hD : va_D A (hotelW cy h ((nI n, fl, se, pr, re, go, ch), (sg, bu, wa, ho, we, st, gv, po, (upd rv i ((rv i) + ((vHi t fl) - (vLo t fl))))))) := hD
                  refine lv_iinc (v := nI (i + 1)) (lv' := [(5, .int (nI (i + 1))), (6, .int (vHope st ho wa i)), (4, .int ((vHi t fl) - (vLo t fl))), (3, .int (vHi t fl)), (2, .int (vLo t fl)), (0, .ref (h 0)), (1, .int t)]) hx hb dX1_travelTo_100 hl (k := 1) rfl (nI_add (i) 1) (by decide) rfl (fun ls hl => ?_)
                  refine lv_goto (tgt := 42) hx hb dX1_travelTo_103 (by decide) ?_
                  exact ih (i + 1) _ _ (by omega) (by omega) (lpN_next (by omega) hv (by simp only [sTv, if_neg c_1, if_neg c_2, if_pos c_4, if_pos c_5])) _ _ _ hP hD hS (lv_sub hl [0, 2, 3, 4, 5, 6] rfl)
              · have c_4 : ¬ (vHi t fl) ≤ (vHope st ho wa i) := c_4
                refine lv_aload_n hx hb dX1_travelTo_71 rfl (lv_at hl 5 rfl) ?_
                refine lv_iload hx hb dX1_travelTo_72 (lv_at hl 1 rfl) ?_
                refine wr_v (fun u => hotelW cy h u) (va_runV (As := [.int (nI i)]) (rest := []) hF (c_X1_addGrudge l D cy h n hn ((nI n, fl, se, pr, re, go, ch), (sg, bu, wa, ho, we, st, gv, po, rv)) rfl H.size i (by omega)) (cwV 1 hts gX1_travelTo_X1_addGrudge rfl rfl rfl (by decide +kernel) ⟨Nat.le_of_ble_eq_true rfl, Nat.le_of_ble_eq_true rfl⟩) (wr_preV hK hP hD (zz_all _) 0 0 rfl rfl rfl) rfl rfl hl.1 rfl (lv_room (Nat.le_of_ble_eq_true rfl)) dX1_travelTo_74 ⟨Nat.le_of_ble_eq_true rfl, Nat.le_of_ble_eq_true rfl⟩) hP hD hS hA (zz_all _) (fun _ => zz_all _) (fun u_6 H locs e_7 hP hD hS => ?_)
                obtain rfl : u_6 = ((nI n, fl, se, pr, re, go, ch), (sg, bu, wa, ho, we, st, (vAdd gv i), po, rv)) := e_7
                have hP : va_P D vwCl (hotelW cy h ((nI n, fl, se, pr, re, go, ch), (sg, bu, wa, ho, we, st, (vAdd gv i), po, rv))) H := hP
                have hD : va_D A (hotelW cy h ((nI n, fl, se, pr, re, go, ch), (sg, bu, wa, ho, we, st, (vAdd gv i), po, rv))) := hD
                refine lv_aload_n hx hb dX1_travelTo_77 rfl (lv_at hl 5 rfl) ?_
                refine va_get (ci := 0) (v := .ref (h 6)) (C := RX1) (T := TX1) (N := 16) hx hb hts hin_X1 hown hK hP 0 rfl rfl 12 (by decide) (hts (.fieldLink RX1 27 "ButtonGuests$Hotel" "state" "[I") (by decide +kernel)) (fun _ h9 => h9) rfl dX1_travelTo_78 ?_
                refine lv_iload hx hb dX1_travelTo_81 (lv_at hl 1 rfl) ?_
                refine zz_iald hx hb hK hP 6 0 i rfl rfl rfl ⟨by omega, Nat.le_of_ble_eq_true rfl⟩ dX1_travelTo_83 ?_
                refine lv_iconst (v := 1) hx hb dX1_travelTo_84 (by decide) ?_
                refine lv_icmp_ne (tgt := 100) hx hb dX1_travelTo_85 (by decide) (fun c_8 => ?_) (fun c_8 => ?_)
                · have c_8 : ¬ (st i) = 1 := c_8
                  refine lv_iinc (v := nI (i + 1)) (lv' := [(5, .int (nI (i + 1))), (6, .int (vHope st ho wa i)), (4, .int ((vHi t fl) - (vLo t fl))), (3, .int (vHi t fl)), (2, .int (vLo t fl)), (0, .ref (h 0)), (1, .int t)]) hx hb dX1_travelTo_100 hl (k := 1) rfl (nI_add (i) 1) (by decide) rfl (fun ls hl => ?_)
                  refine lv_goto (tgt := 42) hx hb dX1_travelTo_103 (by decide) ?_
                  exact ih (i + 1) _ _ (by omega) (by omega) (lpN_next (by omega) hv (by simp only [sTv, if_neg c_1, if_neg c_2, if_neg c_4, if_neg c_8])) _ _ _ hP hD hS (lv_sub hl [0, 2, 3, 4, 5, 6] rfl)
                · have c_8 : (st i) = 1 := c_8
                  refine lv_aload_n hx hb dX1_travelTo_88 rfl (lv_at hl 5 rfl) ?_
                  refine va_get (ci := 0) (v := .ref (h 9)) (C := RX1) (T := TX1) (N := 16) hx hb hts hin_X1 hown hK hP 0 rfl rfl 15 (by decide) (hts (.fieldLink RX1 36 "ButtonGuests$Hotel" "ridden" "[I") (by decide +kernel)) (fun _ h9 => h9) rfl dX1_travelTo_89 ?_
                  refine lv_iload hx hb dX1_travelTo_92 (lv_at hl 1 rfl) ?_
                  refine lv_dup2_11 hx hb dX1_travelTo_94 rfl rfl ?_
                  refine zz_iald hx hb hK hP 9 0 i rfl rfl rfl ⟨by omega, Nat.le_of_ble_eq_true rfl⟩ dX1_travelTo_95 ?_
                  refine lv_iload hx hb dX1_travelTo_96 (lv_at hl 2 rfl) ?_
                  refine lv_iadd hx hb dX1_travelTo_98 ?_
                  refine zz_iast hx hb hK hP hD hS 9 0 i rfl rfl rfl ⟨by omega, Nat.le_of_ble_eq_true rfl⟩ dX1_travelTo_99 (fun H locs hP hD hS => ?_)
                  have hP : va_P D vwCl (hotelW cy h ((nI n, fl, se, pr, re, go, ch), (sg, bu, wa, ho, we, st, (vAdd gv i), po, (upd rv i ((rv i) + ((vHi t fl) - (vLo t fl))))))) H := hP
                  have hD : va_D A (hotelW cy h ((nI n, fl, se, pr, re, go, ch), (sg, bu, wa, ho, we, st, (vAdd gv i), po, (upd rv i ((rv i) + ((vHi t fl) - (vLo t fl))))))) := hD
                  refine lv_iinc (v := nI (i + 1)) (lv' := [(5, .int (nI (i + 1))), (6, .int (vHope st ho wa i)), (4, .int ((vHi t fl) - (vLo t fl))), (3, .int (vHi t fl)), (2, .int (vLo t fl)), (0, .ref (h 0)), (1, .int t)]) hx hb dX1_travelTo_100 hl (k := 1) rfl (nI_add (i) 1) (by decide) rfl (fun ls hl => ?_)
                  refine lv_goto (tgt := 42) hx hb dX1_travelTo_103 (by decide) ?_
                  exact ih (i + 1) _ _ (by omega) (by omega) (lpN_next (by omega) hv (by simp only [sTv, if_neg c_1, if_neg c_2, if_neg c_4, if_pos c_8])) _ _ _ hP hD hS (lv_sub hl [0, 2, 3, 4, 5, 6] rfl)
      exact loop (n + 1) 0 _ _ (Nat.zero_le _) (by omega) rfl _ _ _ hP hD hS (lv_sub hl [0, 1, 2, 3, 4, 5] rfl)
    refine lv_iload_n hx hb dX1_travelTo_17 rfl (lv_at hl 2 rfl) ?_
    refine lv_aload_n hx hb dX1_travelTo_18 rfl (lv_at hl 1 rfl) ?_
    refine va_get (ci := 0) (v := .int fl) (C := RX1) (T := TX1) (N := 16) hx hb hts hin_X1 hown hK hP 0 rfl rfl 2 (by decide) (hts (.fieldLink RX1 53 "ButtonGuests$Hotel" "floor" "I") (by decide +kernel)) (fun _ h9 => h9) rfl dX1_travelTo_19 ?_
    refine lv_icmp_ge (tgt := 32) hx hb dX1_travelTo_22 (by decide) (fun c_9 => ?_) (fun c_9 => ?_)
    · have c_9 : fl ≤ t := c_9
      refine lv_iload_n hx hb dX1_travelTo_32 rfl (lv_at hl 2 rfl) ?_
      exact zz_top (by simp only [vHi, if_pos c_9]) (join2 _ _ _ hP hD hS (lv_sub hl [0, 1, 2] rfl))
    · have c_9 : ¬ fl ≤ t := c_9
      refine lv_aload_n hx hb dX1_travelTo_25 rfl (lv_at hl 1 rfl) ?_
      refine va_get (ci := 0) (v := .int fl) (C := RX1) (T := TX1) (N := 16) hx hb hts hin_X1 hown hK hP 0 rfl rfl 2 (by decide) (hts (.fieldLink RX1 53 "ButtonGuests$Hotel" "floor" "I") (by decide +kernel)) (fun _ h9 => h9) rfl dX1_travelTo_26 ?_
      refine lv_goto (tgt := 33) hx hb dX1_travelTo_29 (by decide) ?_
      exact zz_top (by simp only [vHi, if_neg c_9]) (join2 _ _ _ hP hD hS (lv_sub hl [0, 1, 2] rfl))
  refine lv_iload_n hx hb dX1_travelTo_0 rfl (lv_at hl 1 rfl) ?_
  refine lv_aload_n hx hb dX1_travelTo_1 rfl (lv_at hl 0 rfl) ?_
  refine va_get (ci := 0) (v := .int fl) (C := RX1) (T := TX1) (N := 16) hx hb hts hin_X1 hown hK hP 0 rfl rfl 2 (by decide) (hts (.fieldLink RX1 53 "ButtonGuests$Hotel" "floor" "I") (by decide +kernel)) (fun _ h9 => h9) rfl dX1_travelTo_2 ?_
  refine lv_icmp_ge (tgt := 12) hx hb dX1_travelTo_5 (by decide) (fun c_10 => ?_) (fun c_10 => ?_)
  · have c_10 : fl ≤ t := c_10
    refine lv_aload_n hx hb dX1_travelTo_12 rfl (lv_at hl 0 rfl) ?_
    refine va_get (ci := 0) (v := .int fl) (C := RX1) (T := TX1) (N := 16) hx hb hts hin_X1 hown hK hP 0 rfl rfl 2 (by decide) (hts (.fieldLink RX1 53 "ButtonGuests$Hotel" "floor" "I") (by decide +kernel)) (fun _ h9 => h9) rfl dX1_travelTo_13 ?_
    exact zz_top (by simp only [vLo, if_pos c_10]) (join1 _ _ _ hP hD hS (lv_sub hl [0, 1] rfl))
  · have c_10 : ¬ fl ≤ t := c_10
    refine lv_iload_n hx hb dX1_travelTo_8 rfl (lv_at hl 1 rfl) ?_
    refine lv_goto (tgt := 16) hx hb dX1_travelTo_9 (by decide) ?_
    exact zz_top (by simp only [vLo, if_neg c_10]) (join1 _ _ _ hP hD hS (lv_sub hl [0, 1] rfl))
abbrev rm_X1_goFor : Room := { frames := 2, cells := 0, slots := 0, locals := 47 }
set_option maxHeartbeats 4000000 in
set_option maxRecDepth 100000 in
theorem c_X1_goFor (l : Launch) (D : va_G) (cy : Nat → ClassId) (h : Nat → Nat) (n : Nat) (hn : n ≤ 4) (x : HS) (hg : x.1.1 = nI n) (sz : Nat) (j : Nat) (hj : j < n) : Met l yX1_goFor wsX1_goFor rm_X1_goFor (wrP D cy [.ref (h 0), .int (nI j)] (hotelW cy h x) sz) (va_Qv (fun u : HS => u = hGo n j x) (wrB D (va_A (hotelW cy h x) sz) (fun u => hotelW cy h u)) (va_A (hotelW cy h x) sz)) 0 0 (va_A (hotelW cy h x) sz) := by
  obtain ⟨⟨gu, fl, se, pr, re, go, ch⟩, ⟨sg, bu, wa, ho, we, st, gr, po, ri⟩⟩ := x
  obtain rfl : gu = nI n := hg
  refine Mwv (cc := cX1_goFor) (maxL := 2) (by decide) rfl (Nat.le_of_ble_eq_true rfl) ?_
  intro p e s m args below meth c Q ls A hsz hinit hF hK hP hD hA hl hret
  obtain ⟨hx, hb, hml, hown, hts⟩ := id hF
  have hown : s.vm.findClass RX1 = some m.cls := hown
  have hin_X1 : ∀ w ∈ u_ws RX1 TX1 16, w ∈ wsX1_goFor := by decide +kernel
  have hl : lv_has ls 2 [(0, .ref (h 0)), (1, .int (nI j))] := hl
  suffices key : ∀ (H : Heap) (locs : List Loc), va_P D vwCl (hotelW cy h ((nI n, fl, se, pr, re, go, ch), (sg, bu, wa, ho, we, st, gr, po, ri))) H → va_D A (hotelW cy h ((nI n, fl, se, pr, re, go, ch), (sg, bu, wa, ho, we, st, gr, po, ri))) → va_S A s.heap H locs → W p l e rm_X1_goFor s m args below meth c H locs 0 0 Q (F0 m 0 ls []) from key s.heap [] hP hD va_S.rf
  intro H locs hP hD hS
  refine lv_aload_n hx hb dX1_goFor_0 rfl (lv_at hl 0 rfl) ?_
  refine lv_iload_n hx hb dX1_goFor_1 rfl (lv_at hl 1 rfl) ?_
  refine rd_V (As := [.int (nI j)]) (rest := []) hF (c_X1_isGuest l D cy h n hn ((nI n, fl, se, pr, re, go, ch), (sg, bu, wa, ho, we, st, gr, po, ri)) rfl (nI j)) (cwV 1 hts gX1_goFor_X1_isGuest rfl rfl rfl (by decide +kernel) ⟨Nat.le_of_ble_eq_true rfl, Nat.le_of_ble_eq_true rfl⟩) hK hP 0 0 rfl rfl rfl rfl hl.1 rfl (Nat.le_of_ble_eq_true rfl) dX1_goFor_2 ⟨Nat.le_of_ble_eq_true rfl, Nat.le_of_ble_eq_true rfl⟩ ?_
  refine lv_if_ne (tgt := 9) hx hb dX1_goFor_5 (by decide) (fun c_1 => ?_) (fun c_1 => ?_)
  · have c_1 := zb_ne.mp c_1
    refine lv_aload_n hx hb dX1_goFor_9 rfl (lv_at hl 0 rfl) ?_
    refine lv_dup hx hb dX1_goFor_10 rfl ?_
    refine va_get (ci := 0) (v := .int pr) (C := RX1) (T := TX1) (N := 16) hx hb hts hin_X1 hown hK hP 0 rfl rfl 4 (by decide) (hts (.fieldLink RX1 59 "ButtonGuests$Hotel" "presses" "I") (by decide +kernel)) (fun _ h9 => h9) rfl dX1_goFor_11 ?_
    refine lv_iconst (v := 1) hx hb dX1_goFor_14 (by decide) ?_
    refine lv_iadd hx hb dX1_goFor_15 ?_
    refine va_put (ci := 0) (v := .int (pr + 1)) (ty := .int) (C := RX1) (T := TX1) (N := 16) hx hb hts hin_X1 tyX1 tyX1_ok nmX1 hown hK hP hD hS 0 rfl rfl 4 (by decide) (hts (.fieldLink RX1 59 "ButtonGuests$Hotel" "presses" "I") (by decide +kernel)) (fun _ h9 => h9) rfl (by decide +kernel) rfl rfl (Nat.le_of_ble_eq_true rfl) dX1_goFor_16 (fun H locs hP hD hS => ?_)
    have hP : va_P D vwCl (hotelW cy h ((nI n, fl, se, pr + 1, re, go, ch), (sg, bu, wa, ho, we, st, gr, po, ri))) H := hP
    have hD : va_D A (hotelW cy h ((nI n, fl, se, pr + 1, re, go, ch), (sg, bu, wa, ho, we, st, gr, po, ri))) := hD
    refine lv_aload_n hx hb dX1_goFor_19 rfl (lv_at hl 0 rfl) ?_
    refine va_get (ci := 0) (v := .ref (h 8)) (C := RX1) (T := TX1) (N := 16) hx hb hts hin_X1 hown hK hP 0 rfl rfl 14 (by decide) (hts (.fieldLink RX1 33 "ButtonGuests$Hotel" "pressesOf" "[I") (by decide +kernel)) (fun _ h9 => h9) rfl dX1_goFor_20 ?_
    refine lv_iload_n hx hb dX1_goFor_23 rfl (lv_at hl 1 rfl) ?_
    refine lv_dup2_11 hx hb dX1_goFor_24 rfl rfl ?_
    refine zz_iald hx hb hK hP 8 0 j rfl rfl rfl ⟨by omega, Nat.le_of_ble_eq_true rfl⟩ dX1_goFor_25 ?_
    refine lv_iconst (v := 1) hx hb dX1_goFor_26 (by decide) ?_
    refine lv_iadd hx hb dX1_goFor_27 ?_
    refine zz_iast hx hb hK hP hD hS 8 0 j rfl rfl rfl ⟨by omega, Nat.le_of_ble_eq_true rfl⟩ dX1_goFor_28 (fun H locs hP hD hS => ?_)
    have hP : va_P D vwCl (hotelW cy h ((nI n, fl, se, pr + 1, re, go, ch), (sg, bu, wa, ho, we, st, gr, (upd po j ((po j) + 1)), ri))) H := hP
    have hD : va_D A (hotelW cy h ((nI n, fl, se, pr + 1, re, go, ch), (sg, bu, wa, ho, we, st, gr, (upd po j ((po j) + 1)), ri))) := hD
    refine lv_aload_n hx hb dX1_goFor_29 rfl (lv_at hl 0 rfl) ?_
    refine lv_aload_n hx hb dX1_goFor_30 rfl (lv_at hl 0 rfl) ?_
    refine va_get (ci := 0) (v := .ref (h 2)) (C := RX1) (T := TX1) (N := 16) hx hb hts hin_X1 hown hK hP 0 rfl rfl 8 (by decide) (hts (.fieldLink RX1 15 "ButtonGuests$Hotel" "button" "[I") (by decide +kernel)) (fun _ h9 => h9) rfl dX1_goFor_31 ?_
    refine lv_iload_n hx hb dX1_goFor_34 rfl (lv_at hl 1 rfl) ?_
    refine zz_iald hx hb hK hP 2 0 j rfl rfl rfl ⟨by omega, Nat.le_of_ble_eq_true rfl⟩ dX1_goFor_35 ?_
    refine wr_v (fun u => hotelW cy h u) (va_runV (As := [.int (bu j)]) (rest := []) hF (c_X1_travelTo l D cy h n hn ((nI n, fl, se, pr + 1, re, go, ch), (sg, bu, wa, ho, we, st, gr, (upd po j ((po j) + 1)), ri)) rfl H.size (bu j)) (cwV 1 hts gX1_goFor_X1_travelTo rfl rfl rfl (by decide +kernel) ⟨Nat.le_of_ble_eq_true rfl, Nat.le_of_ble_eq_true rfl⟩) (wr_preV hK hP hD (zz_all _) 0 0 rfl rfl rfl) rfl rfl hl.1 rfl (lv_room (Nat.le_of_ble_eq_true rfl)) dX1_goFor_36 ⟨Nat.le_of_ble_eq_true rfl, Nat.le_of_ble_eq_true rfl⟩) hP hD hS hA (zz_all _) (fun _ => zz_all _) (fun u_2 H locs e_3 hP hD hS => ?_)
    have hg_4 : u_2.1.1 = nI n := by rw [e_3]; exact rfl
    have hP : va_P D vwCl (hotelW cy h u_2) H := hP
    have hD : va_D A (hotelW cy h u_2) := hD
    refine lv_aload_n hx hb dX1_goFor_39 rfl (lv_at hl 0 rfl) ?_
    refine wr_v (fun u => hotelW cy h u) (va_runV (As := []) (rest := []) hF (c_X1_letOut l D cy h n hn u_2 hg_4 H.size ) (cwV 0 hts gX1_goFor_X1_letOut rfl rfl rfl (by decide +kernel) ⟨Nat.le_of_ble_eq_true rfl, Nat.le_of_ble_eq_true rfl⟩) (wr_preV hK hP hD (zz_all _) 0 0 rfl rfl rfl) rfl rfl hl.1 rfl (lv_room (Nat.le_of_ble_eq_true rfl)) dX1_goFor_40 ⟨Nat.le_of_ble_eq_true rfl, Nat.le_of_ble_eq_true rfl⟩) hP hD hS hA (zz_all _) (fun _ => zz_all _) (fun u_5 H locs e_6 hP hD hS => ?_)
    have hg_7 : u_5.1.1 = nI n := by rw [e_6]; exact hg_4
    have hP : va_P D vwCl (hotelW cy h u_5) H := hP
    have hD : va_D A (hotelW cy h u_5) := hD
    refine lv_aload_n hx hb dX1_goFor_43 rfl (lv_at hl 0 rfl) ?_
    refine wr_v (fun u => hotelW cy h u) (va_runV (As := []) (rest := []) hF (c_X1_letIn l D cy h n hn u_5 hg_7 H.size ) (cwV 0 hts gX1_goFor_X1_letIn rfl rfl rfl (by decide +kernel) ⟨Nat.le_of_ble_eq_true rfl, Nat.le_of_ble_eq_true rfl⟩) (wr_preV hK hP hD (zz_all _) 0 0 rfl rfl rfl) rfl rfl hl.1 rfl (lv_room (Nat.le_of_ble_eq_true rfl)) dX1_goFor_44 ⟨Nat.le_of_ble_eq_true rfl, Nat.le_of_ble_eq_true rfl⟩) hP hD hS hA (zz_all _) (fun _ => zz_all _) (fun u_8 H locs e_9 hP hD hS => ?_)
    have hg_10 : u_8.1.1 = nI n := by rw [e_9]; exact hg_7
    have hP : va_P D vwCl (hotelW cy h u_8) H := hP
    have hD : va_D A (hotelW cy h u_8) := hD
    exact hret _ _ H locs u_8 dX1_goFor_47 hP hD hS (by subst e_9; subst e_6; subst e_3; rfl)
  · exact absurd (isG_nI hn hj) (zb_eq.mp c_1)
abbrev rm_X1_pressBy : Room := { frames := 3, cells := 0, slots := 0, locals := 68 }
set_option maxHeartbeats 4000000 in
set_option maxRecDepth 100000 in
theorem c_X1_pressBy (l : Launch) (D : va_G) (cy : Nat → ClassId) (h : Nat → Nat) (n : Nat) (hn : n ≤ 4) (x : HS) (hg : x.1.1 = nI n) (sz : Nat) (g : Int32) : Met l yX1_pressBy wsX1_pressBy rm_X1_pressBy (wrP D cy [.ref (h 0), .int g] (hotelW cy h x) sz) (va_Qi (fun (r : Int32) (u : HS) => r = hReas x g ∧ u = hPress n x g) (wrB D (va_A (hotelW cy h x) sz) (fun u => hotelW cy h u)) (va_A (hotelW cy h x) sz)) 0 0 (va_A (hotelW cy h x) sz) := by
  obtain ⟨⟨gu, fl, se, pr, re, go, ch⟩, ⟨sg, bu, wa, ho, we, st, gr, po, ri⟩⟩ := x
  obtain rfl : gu = nI n := hg
  refine Mwi (cc := cX1_pressBy) (maxL := 3) (ty := .int) (by decide) rfl (Nat.le_of_ble_eq_true rfl) (fun _ _ _ => rfl) ?_
  intro p e s m args below meth c Q ls A hsz hF hK hP hD hA hl hret
  obtain ⟨hx, hb, hml, hown, hts⟩ := id hF
  have hown : s.vm.findClass RX1 = some m.cls := hown
  have hin_X1 : ∀ w ∈ u_ws RX1 TX1 16, w ∈ wsX1_pressBy := by decide +kernel
  have hl : lv_has ls 3 [(0, .ref (h 0)), (1, .int g)] := hl
  suffices key : ∀ (H : Heap) (locs : List Loc), va_P D vwCl (hotelW cy h ((nI n, fl, se, pr, re, go, ch), (sg, bu, wa, ho, we, st, gr, po, ri))) H → va_D A (hotelW cy h ((nI n, fl, se, pr, re, go, ch), (sg, bu, wa, ho, we, st, gr, po, ri))) → va_S A s.heap H locs → W p l e rm_X1_pressBy s m args below meth c H locs 0 0 Q (F0 m 0 ls []) from key s.heap [] hP hD va_S.rf
  intro H locs hP hD hS
  refine lv_aload_n hx hb dX1_pressBy_0 rfl (lv_at hl 0 rfl) ?_
  refine lv_iload_n hx hb dX1_pressBy_1 rfl (lv_at hl 1 rfl) ?_
  refine rd_V (As := [.int g]) (rest := []) hF (c_X1_reasonOf l D cy h n hn ((nI n, fl, se, pr, re, go, ch), (sg, bu, wa, ho, we, st, gr, po, ri)) rfl g) (cwV 1 hts gX1_pressBy_X1_reasonOf rfl rfl rfl (by decide +kernel) ⟨Nat.le_of_ble_eq_true rfl, Nat.le_of_ble_eq_true rfl⟩) hK hP 0 0 rfl rfl rfl rfl hl.1 rfl (Nat.le_of_ble_eq_true rfl) dX1_pressBy_2 ⟨Nat.le_of_ble_eq_true rfl, Nat.le_of_ble_eq_true rfl⟩ ?_
  refine lv_istore_n (lv' := [(2, .int (hReas ((nI n, fl, se, pr, re, go, ch), (sg, bu, wa, ho, we, st, gr, po, ri)) g)), (0, .ref (h 0)), (1, .int g)]) hx hb dX1_pressBy_5 rfl hl (by decide) rfl (fun ls hl => ?_)
  refine lv_iload_n hx hb dX1_pressBy_6 rfl (lv_at hl 0 rfl) ?_
  refine lv_if_ne (tgt := 18) hx hb dX1_pressBy_7 (by decide) (fun c_1 => ?_) (fun c_1 => ?_)
  · have c_1 : ¬ (hReas ((nI n, fl, se, pr, re, go, ch), (sg, bu, wa, ho, we, st, gr, po, ri)) g) = 0 := c_1
    refine lv_iload_n hx hb dX1_pressBy_18 rfl (lv_at hl 0 rfl) ?_
    refine lv_iconst (v := (-1)) hx hb dX1_pressBy_19 (by decide) ?_
    refine lv_icmp_eq (tgt := 33) hx hb dX1_pressBy_20 (by decide) (fun c_2 => ?_) (fun c_2 => ?_)
    · have c_2 : (hReas ((nI n, fl, se, pr, re, go, ch), (sg, bu, wa, ho, we, st, gr, po, ri)) g) = ((-1)) := c_2
      refine lv_iload_n hx hb dX1_pressBy_33 rfl (lv_at hl 0 rfl) ?_
      exact hret _ _ H locs _ ((nI n, fl, se, pr, re, go, ch), (sg, bu, wa, ho, we, st, gr, po, ri)) dX1_pressBy_34 hP hD hS (⟨rfl, by simp only [hPress, hRef, if_neg c_1, if_pos c_2]⟩)
    · have c_2 : ¬ (hReas ((nI n, fl, se, pr, re, go, ch), (sg, bu, wa, ho, we, st, gr, po, ri)) g) = ((-1)) := c_2
      refine lv_aload_n hx hb dX1_pressBy_23 rfl (lv_at hl 1 rfl) ?_
      refine lv_dup hx hb dX1_pressBy_24 rfl ?_
      refine va_get (ci := 0) (v := .int re) (C := RX1) (T := TX1) (N := 16) hx hb hts hin_X1 hown hK hP 0 rfl rfl 5 (by decide) (hts (.fieldLink RX1 62 "ButtonGuests$Hotel" "refusals" "I") (by decide +kernel)) (fun _ h9 => h9) rfl dX1_pressBy_25 ?_
      refine lv_iconst (v := 1) hx hb dX1_pressBy_28 (by decide) ?_
      refine lv_iadd hx hb dX1_pressBy_29 ?_
      refine va_put (ci := 0) (v := .int (re + 1)) (ty := .int) (C := RX1) (T := TX1) (N := 16) hx hb hts hin_X1 tyX1 tyX1_ok nmX1 hown hK hP hD hS 0 rfl rfl 5 (by decide) (hts (.fieldLink RX1 62 "ButtonGuests$Hotel" "refusals" "I") (by decide +kernel)) (fun _ h9 => h9) rfl (by decide +kernel) rfl rfl (Nat.le_of_ble_eq_true rfl) dX1_pressBy_30 (fun H locs hP hD hS => ?_)
      have hP : va_P D vwCl (hotelW cy h ((nI n, fl, se, pr, re + 1, go, ch), (sg, bu, wa, ho, we, st, gr, po, ri))) H := hP
      have hD : va_D A (hotelW cy h ((nI n, fl, se, pr, re + 1, go, ch), (sg, bu, wa, ho, we, st, gr, po, ri))) := hD
      refine lv_iload_n hx hb dX1_pressBy_33 rfl (lv_at hl 0 rfl) ?_
      exact hret _ _ H locs _ ((nI n, fl, se, pr, re + 1, go, ch), (sg, bu, wa, ho, we, st, gr, po, ri)) dX1_pressBy_34 hP hD hS (⟨rfl, by simp only [hPress, hRef, if_neg c_1, if_neg c_2]⟩)
  · have c_1 : (hReas ((nI n, fl, se, pr, re, go, ch), (sg, bu, wa, ho, we, st, gr, po, ri)) g) = 0 := c_1
    obtain ⟨jg, hjg, rfl⟩ := hReas_g (x := ((nI n, fl, se, pr, re, go, ch), (sg, bu, wa, ho, we, st, gr, po, ri))) hn rfl c_1
    refine lv_aload_n hx hb dX1_pressBy_10 rfl (lv_at hl 1 rfl) ?_
    refine lv_iload_n hx hb dX1_pressBy_11 rfl (lv_at hl 2 rfl) ?_
    refine wr_v (fun u => hotelW cy h u) (va_runV (As := [.int (nI jg)]) (rest := []) hF (c_X1_goFor l D cy h n hn ((nI n, fl, se, pr, re, go, ch), (sg, bu, wa, ho, we, st, gr, po, ri)) rfl H.size jg (by omega)) (cwV 1 hts gX1_pressBy_X1_goFor rfl rfl rfl (by decide +kernel) ⟨Nat.le_of_ble_eq_true rfl, Nat.le_of_ble_eq_true rfl⟩) (wr_preV hK hP hD (zz_all _) 0 0 rfl rfl rfl) rfl rfl hl.1 rfl (lv_room (Nat.le_of_ble_eq_true rfl)) dX1_pressBy_12 ⟨Nat.le_of_ble_eq_true rfl, Nat.le_of_ble_eq_true rfl⟩) hP hD hS hA (zz_all _) (fun _ => zz_all _) (fun u_3 H locs e_4 hP hD hS => ?_)
    have hg_5 : u_3.1.1 = nI n := by rw [e_4]; exact rfl
    have hP : va_P D vwCl (hotelW cy h u_3) H := hP
    have hD : va_D A (hotelW cy h u_3) := hD
    refine lv_goto (tgt := 33) hx hb dX1_pressBy_15 (by decide) ?_
    refine lv_iload_n hx hb dX1_pressBy_33 rfl (lv_at hl 0 rfl) ?_
    exact hret _ _ H locs _ u_3 dX1_pressBy_34 hP hD hS (⟨rfl, by simp only [hPress, if_pos c_1, nI_clamp (show jg < 2 ^ 31 by omega)]; exact e_4⟩)
abbrev rm_X1_goIfWilling : Room := { frames := 3, cells := 0, slots := 0, locals := 68 }
set_option maxHeartbeats 4000000 in
set_option maxRecDepth 100000 in
theorem c_X1_goIfWilling (l : Launch) (D : va_G) (cy : Nat → ClassId) (h : Nat → Nat) (n : Nat) (hn : n ≤ 4) (x : HS) (hg : x.1.1 = nI n) (sz : Nat) (g : Int32) : Met l yX1_goIfWilling wsX1_goIfWilling rm_X1_goIfWilling (wrP D cy [.ref (h 0), .int g] (hotelW cy h x) sz) (va_Qi (fun (r : Int32) (u : HS) => r = zb (hReas x g = 0) ∧ u = hWill n x g) (wrB D (va_A (hotelW cy h x) sz) (fun u => hotelW cy h u)) (va_A (hotelW cy h x) sz)) 0 0 (va_A (hotelW cy h x) sz) := by
  obtain ⟨⟨gu, fl, se, pr, re, go, ch⟩, ⟨sg, bu, wa, ho, we, st, gr, po, ri⟩⟩ := x
  obtain rfl : gu = nI n := hg
  refine Mwi (cc := cX1_goIfWilling) (maxL := 2) (ty := .boolean) (by decide) rfl (Nat.le_of_ble_eq_true rfl) (fun _ _ q => by rw [q.1]; exact zb_nar) ?_
  intro p e s m args below meth c Q ls A hsz hF hK hP hD hA hl hret
  obtain ⟨hx, hb, hml, hown, hts⟩ := id hF
  have hown : s.vm.findClass RX1 = some m.cls := hown
  have hl : lv_has ls 2 [(0, .ref (h 0)), (1, .int g)] := hl
  suffices key : ∀ (H : Heap) (locs : List Loc), va_P D vwCl (hotelW cy h ((nI n, fl, se, pr, re, go, ch), (sg, bu, wa, ho, we, st, gr, po, ri))) H → va_D A (hotelW cy h ((nI n, fl, se, pr, re, go, ch), (sg, bu, wa, ho, we, st, gr, po, ri))) → va_S A s.heap H locs → W p l e rm_X1_goIfWilling s m args below meth c H locs 0 0 Q (F0 m 0 ls []) from key s.heap [] hP hD va_S.rf
  intro H locs hP hD hS
  refine lv_aload_n hx hb dX1_goIfWilling_0 rfl (lv_at hl 0 rfl) ?_
  refine lv_iload_n hx hb dX1_goIfWilling_1 rfl (lv_at hl 1 rfl) ?_
  refine rd_V (As := [.int g]) (rest := []) hF (c_X1_reasonOf l D cy h n hn ((nI n, fl, se, pr, re, go, ch), (sg, bu, wa, ho, we, st, gr, po, ri)) rfl g) (cwV 1 hts gX1_goIfWilling_X1_reasonOf rfl rfl rfl (by decide +kernel) ⟨Nat.le_of_ble_eq_true rfl, Nat.le_of_ble_eq_true rfl⟩) hK hP 0 0 rfl rfl rfl rfl hl.1 rfl (Nat.le_of_ble_eq_true rfl) dX1_goIfWilling_2 ⟨Nat.le_of_ble_eq_true rfl, Nat.le_of_ble_eq_true rfl⟩ ?_
  refine lv_if_eq (tgt := 10) hx hb dX1_goIfWilling_5 (by decide) (fun c_1 => ?_) (fun c_1 => ?_)
  · have c_1 : (hReas ((nI n, fl, se, pr, re, go, ch), (sg, bu, wa, ho, we, st, gr, po, ri)) g) = 0 := c_1
    obtain ⟨jg, hjg, rfl⟩ := hReas_g (x := ((nI n, fl, se, pr, re, go, ch), (sg, bu, wa, ho, we, st, gr, po, ri))) hn rfl c_1
    refine lv_aload_n hx hb dX1_goIfWilling_10 rfl (lv_at hl 0 rfl) ?_
    refine lv_iload_n hx hb dX1_goIfWilling_11 rfl (lv_at hl 1 rfl) ?_
    refine wr_v (fun u => hotelW cy h u) (va_runV (As := [.int (nI jg)]) (rest := []) hF (c_X1_goFor l D cy h n hn ((nI n, fl, se, pr, re, go, ch), (sg, bu, wa, ho, we, st, gr, po, ri)) rfl H.size jg (by omega)) (cwV 1 hts gX1_goIfWilling_X1_goFor rfl rfl rfl (by decide +kernel) ⟨Nat.le_of_ble_eq_true rfl, Nat.le_of_ble_eq_true rfl⟩) (wr_preV hK hP hD (zz_all _) 0 0 rfl rfl rfl) rfl rfl hl.1 rfl (lv_room (Nat.le_of_ble_eq_true rfl)) dX1_goIfWilling_12 ⟨Nat.le_of_ble_eq_true rfl, Nat.le_of_ble_eq_true rfl⟩) hP hD hS hA (zz_all _) (fun _ => zz_all _) (fun u_2 H locs e_3 hP hD hS => ?_)
    have hg_4 : u_2.1.1 = nI n := by rw [e_3]; exact rfl
    have hP : va_P D vwCl (hotelW cy h u_2) H := hP
    have hD : va_D A (hotelW cy h u_2) := hD
    refine lv_iconst (v := 1) hx hb dX1_goIfWilling_15 (by decide) ?_
    exact hret _ _ H locs _ u_2 dX1_goIfWilling_16 hP hD hS (⟨zb_t c_1, by simp only [hWill, if_pos c_1, nI_clamp (show jg < 2 ^ 31 by omega)]; exact e_3⟩)
  · have c_1 : ¬ (hReas ((nI n, fl, se, pr, re, go, ch), (sg, bu, wa, ho, we, st, gr, po, ri)) g) = 0 := c_1
    refine lv_iconst (v := 0) hx hb dX1_goIfWilling_8 (by decide) ?_
    exact hret _ _ H locs _ ((nI n, fl, se, pr, re, go, ch), (sg, bu, wa, ho, we, st, gr, po, ri)) dX1_goIfWilling_9 hP hD hS (⟨zb_f c_1, by simp only [hWill, if_neg c_1]⟩)
abbrev rm_X1_takePosition : Room := { frames := 0, cells := 0, slots := 0, locals := 0 }
set_option maxHeartbeats 4000000 in
set_option maxRecDepth 100000 in
theorem c_X1_takePosition (l : Launch) (D : va_G) (cy : Nat → ClassId) (h : Nat → Nat) (n : Nat) (hn : n ≤ 4) (x : HS) (hg : x.1.1 = nI n) (sz : Nat) (v : Int32) : Met l yX1_takePosition wsX1_takePosition rm_X1_takePosition (wrP D cy [.ref (h 0), .int v] (hotelW cy h x) sz) (va_Qv (fun u : HS => u = hTake n v x) (wrB D (va_A (hotelW cy h x) sz) (fun u => hotelW cy h u)) (va_A (hotelW cy h x) sz)) 0 0 (va_A (hotelW cy h x) sz) := by
  obtain ⟨⟨gu, fl, se, pr, re, go, ch⟩, ⟨sg, bu, wa, ho, we, st, gr, po, ri⟩⟩ := x
  obtain rfl : gu = nI n := hg
  refine Mwv (cc := cX1_takePosition) (maxL := 4) (by decide) rfl (Nat.le_of_ble_eq_true rfl) ?_
  intro p e s m args below meth c Q ls A hsz hinit hF hK hP hD hA hl hret
  obtain ⟨hx, hb, hml, hown, hts⟩ := id hF
  have hown : s.vm.findClass RX1 = some m.cls := hown
  have hin_X1 : ∀ w ∈ u_ws RX1 TX1 16, w ∈ wsX1_takePosition := by decide +kernel
  have hl : lv_has ls 4 [(0, .ref (h 0)), (1, .int v)] := hl
  suffices key : ∀ (H : Heap) (locs : List Loc), va_P D vwCl (hotelW cy h ((nI n, fl, se, pr, re, go, ch), (sg, bu, wa, ho, we, st, gr, po, ri))) H → va_D A (hotelW cy h ((nI n, fl, se, pr, re, go, ch), (sg, bu, wa, ho, we, st, gr, po, ri))) → va_S A s.heap H locs → W p l e rm_X1_takePosition s m args below meth c H locs 0 0 Q (F0 m 0 ls []) from key s.heap [] hP hD va_S.rf
  intro H locs hP hD hS
  refine lv_aload_n hx hb dX1_takePosition_0 rfl (lv_at hl 0 rfl) ?_
  refine lv_iload_n hx hb dX1_takePosition_1 rfl (lv_at hl 1 rfl) ?_
  refine lv_bipush (v := 7) hx hb dX1_takePosition_2 (by decide) ?_
  refine lv_iand hx hb dX1_takePosition_4 ?_
  refine va_put (ci := 0) (v := .int (v &&& 7)) (ty := .int) (C := RX1) (T := TX1) (N := 16) hx hb hts hin_X1 tyX1 tyX1_ok nmX1 hown hK hP hD hS 0 rfl rfl 2 (by decide) (hts (.fieldLink RX1 53 "ButtonGuests$Hotel" "floor" "I") (by decide +kernel)) (fun _ h9 => h9) rfl (by decide +kernel) rfl rfl (Nat.le_of_ble_eq_true rfl) dX1_takePosition_5 (fun H locs hP hD hS => ?_)
  have hP : va_P D vwCl (hotelW cy h ((nI n, v &&& 7, se, pr, re, go, ch), (sg, bu, wa, ho, we, st, gr, po, ri))) H := hP
  have hD : va_D A (hotelW cy h ((nI n, v &&& 7, se, pr, re, go, ch), (sg, bu, wa, ho, we, st, gr, po, ri))) := hD
  refine lv_iconst (v := 0) hx hb dX1_takePosition_8 (by decide) ?_
  refine lv_istore_n (lv' := [(2, .int 0), (0, .ref (h 0)), (1, .int v)]) hx hb dX1_takePosition_9 rfl hl (by decide) rfl (fun ls hl => ?_)
  have loop : ∀ (k i : Nat) (sv gv : Nat → Int32), i ≤ n → n + 1 ≤ i + k → lpN (sTk v) (n - i) i (sv, gv) = lpN (sTk v) n 0 (st, gr) → ∀ (H : Heap) (locs : List Loc) (ls : Array Slot), va_P D vwCl (hotelW cy h ((nI n, v &&& 7, se, pr, re, go, ch), (sg, bu, wa, ho, we, sv, gv, po, ri))) H → va_D A (hotelW cy h ((nI n, v &&& 7, se, pr, re, go, ch), (sg, bu, wa, ho, we, sv, gv, po, ri))) → va_S A s.heap H locs → lv_has ls 4 [(2, .int (nI i)), (0, .ref (h 0)), (1, .int v)] → W p l e rm_X1_takePosition s m args below meth c H locs 0 0 Q (F0 m 10 ls []) := by
    intro k
    induction k with
    | zero =>
      intro i sv gv hi hk hv
      exact absurd hk (by omega)
    | succ k ih =>
      intro i sv gv hi hk hv H locs ls hP hD hS hl
      refine lv_iload_n hx hb dX1_takePosition_10 rfl (lv_at hl 0 rfl) ?_
      refine lv_aload_n hx hb dX1_takePosition_11 rfl (lv_at hl 1 rfl) ?_
      refine va_get (ci := 0) (v := .int (nI n)) (C := RX1) (T := TX1) (N := 16) hx hb hts hin_X1 hown hK hP 0 rfl rfl 1 (by decide) (hts (.fieldLink RX1 49 "ButtonGuests$Hotel" "guests" "I") (by decide +kernel)) (fun _ h9 => h9) rfl dX1_takePosition_12 ?_
      refine lv_icmp_ge (tgt := 54) hx hb dX1_takePosition_15 (by decide) (fun c_1 => ?_) (fun c_1 => ?_)
      · have c_1 : n ≤ i := (nI_leI (a := n) (b := i) (by omega) (by omega)).mp c_1
        exact hret _ _ H locs ((nI n, v &&& 7, se, pr, re, go, ch), (sg, bu, wa, ho, we, sv, gv, po, ri)) dX1_takePosition_54 hP hD hS (by have q := lpN_end c_1 hv; simp only [hTake, ← q])
      · have c_1 : ¬ n ≤ i := fun q => c_1 ((nI_leI (a := n) (b := i) (by omega) (by omega)).mpr q)
        refine lv_iload_n hx hb dX1_takePosition_18 rfl (lv_at hl 2 rfl) ?_
        refine lv_iconst (v := 3) hx hb dX1_takePosition_19 (by decide) ?_
        refine lv_bipush (v := 6) hx hb dX1_takePosition_20 (by decide) ?_
        refine lv_iload_n hx hb dX1_takePosition_22 rfl (lv_at hl 0 rfl) ?_
        refine lv_imul hx hb dX1_takePosition_23 ?_
        refine lv_iadd hx hb dX1_takePosition_24 ?_
        refine lv_ishr hx hb dX1_takePosition_25 ?_
        refine lv_istore_n (lv' := [(3, .int (v >>> ((3 + (6 * (nI i))) &&& 31))), (2, .int (nI i)), (0, .ref (h 0)), (1, .int v)]) hx hb dX1_takePosition_26 rfl hl (by decide) rfl (fun ls hl => ?_)
        refine lv_aload_n hx hb dX1_takePosition_27 rfl (lv_at hl 2 rfl) ?_
        refine va_get (ci := 0) (v := .ref (h 6)) (C := RX1) (T := TX1) (N := 16) hx hb hts hin_X1 hown hK hP 0 rfl rfl 12 (by decide) (hts (.fieldLink RX1 27 "ButtonGuests$Hotel" "state" "[I") (by decide +kernel)) (fun _ h9 => h9) rfl dX1_takePosition_28 ?_
        refine lv_iload_n hx hb dX1_takePosition_31 rfl (lv_at hl 1 rfl) ?_
        refine lv_iload_n hx hb dX1_takePosition_32 rfl (lv_at hl 0 rfl) ?_
        refine lv_iconst (v := 4) hx hb dX1_takePosition_33 (by decide) ?_
        refine lv_ishr hx hb dX1_takePosition_34 ?_
        refine lv_iconst (v := 3) hx hb dX1_takePosition_35 (by decide) ?_
        refine lv_iand hx hb dX1_takePosition_36 ?_
        refine zz_iast hx hb hK hP hD hS 6 0 i rfl rfl rfl ⟨by omega, Nat.le_of_ble_eq_true rfl⟩ dX1_takePosition_37 (fun H locs hP hD hS => ?_)
        have hP : va_P D vwCl (hotelW cy h ((nI n, v &&& 7, se, pr, re, go, ch), (sg, bu, wa, ho, we, (upd sv i (((v >>> ((3 + (6 * (nI i))) &&& 31)) >>> (4 &&& 31)) &&& 3)), gv, po, ri))) H := hP
        have hD : va_D A (hotelW cy h ((nI n, v &&& 7, se, pr, re, go, ch), (sg, bu, wa, ho, we, (upd sv i (((v >>> ((3 + (6 * (nI i))) &&& 31)) >>> (4 &&& 31)) &&& 3)), gv, po, ri))) := hD
        refine lv_aload_n hx hb dX1_takePosition_38 rfl (lv_at hl 2 rfl) ?_
        refine va_get (ci := 0) (v := .ref (h 7)) (C := RX1) (T := TX1) (N := 16) hx hb hts hin_X1 hown hK hP 0 rfl rfl 13 (by decide) (hts (.fieldLink RX1 30 "ButtonGuests$Hotel" "grudges" "[I") (by decide +kernel)) (fun _ h9 => h9) rfl dX1_takePosition_39 ?_
        refine lv_iload_n hx hb dX1_takePosition_42 rfl (lv_at hl 1 rfl) ?_
        refine lv_iload_n hx hb dX1_takePosition_43 rfl (lv_at hl 0 rfl) ?_
        refine lv_bipush (v := 15) hx hb dX1_takePosition_44 (by decide) ?_
        refine lv_iand hx hb dX1_takePosition_46 ?_
        refine zz_iast hx hb hK hP hD hS 7 0 i rfl rfl rfl ⟨by omega, Nat.le_of_ble_eq_true rfl⟩ dX1_takePosition_47 (fun H locs hP hD hS => ?_)
        have hP : va_P D vwCl (hotelW cy h ((nI n, v &&& 7, se, pr, re, go, ch), (sg, bu, wa, ho, we, (upd sv i (((v >>> ((3 + (6 * (nI i))) &&& 31)) >>> (4 &&& 31)) &&& 3)), (upd gv i ((v >>> ((3 + (6 * (nI i))) &&& 31)) &&& 15)), po, ri))) H := hP
        have hD : va_D A (hotelW cy h ((nI n, v &&& 7, se, pr, re, go, ch), (sg, bu, wa, ho, we, (upd sv i (((v >>> ((3 + (6 * (nI i))) &&& 31)) >>> (4 &&& 31)) &&& 3)), (upd gv i ((v >>> ((3 + (6 * (nI i))) &&& 31)) &&& 15)), po, ri))) := hD
        refine lv_iinc (v := nI (i + 1)) (lv' := [(2, .int (nI (i + 1))), (3, .int (v >>> ((3 + (6 * (nI i))) &&& 31))), (0, .ref (h 0)), (1, .int v)]) hx hb dX1_takePosition_48 hl (k := 1) rfl (nI_add (i) 1) (by decide) rfl (fun ls hl => ?_)
        refine lv_goto (tgt := 10) hx hb dX1_takePosition_51 (by decide) ?_
        exact ih (i + 1) _ _ (by omega) (by omega) (lpN_next (by omega) hv (by simp only [sTk, if_neg c_1])) _ _ _ hP hD hS (lv_sub hl [0, 2, 3] rfl)
  exact loop (n + 1) 0 _ _ (Nat.zero_le _) (by omega) rfl _ _ _ hP hD hS (lv_sub hl [0, 1, 2] rfl)
abbrev rm_X1_moveGuest : Room := { frames := 1, cells := 0, slots := 0, locals := 21 }
set_option maxHeartbeats 4000000 in
set_option maxRecDepth 100000 in
theorem c_X1_moveGuest (l : Launch) (D : va_G) (cy : Nat → ClassId) (h : Nat → Nat) (n : Nat) (hn : n ≤ 4) (x : HS) (hg : x.1.1 = nI n) (sz : Nat) (a b : Nat) (ha : a < n) (hb9 : b < n) : Met l yX1_moveGuest wsX1_moveGuest rm_X1_moveGuest (wrP D cy [.ref (h 0), .int (nI a), .int (nI b)] (hotelW cy h x) sz) (va_Qv (fun u : HS => u = hMove a b x) (wrB D (va_A (hotelW cy h x) sz) (fun u => hotelW cy h u)) (va_A (hotelW cy h x) sz)) 0 0 (va_A (hotelW cy h x) sz) := by
  obtain ⟨⟨gu, fl, se, pr, re, go, ch⟩, ⟨sg, bu, wa, ho, we, st, gr, po, ri⟩⟩ := x
  obtain rfl : gu = nI n := hg
  refine Mwv (cc := cX1_moveGuest) (maxL := 3) (by decide) rfl (Nat.le_of_ble_eq_true rfl) ?_
  intro p e s m args below meth c Q ls A hsz hinit hF hK hP hD hA hl hret
  obtain ⟨hx, hb, hml, hown, hts⟩ := id hF
  have hown : s.vm.findClass RX1 = some m.cls := hown
  have hin_X1 : ∀ w ∈ u_ws RX1 TX1 16, w ∈ wsX1_moveGuest := by decide +kernel
  have hl : lv_has ls 3 [(0, .ref (h 0)), (1, .int (nI a)), (2, .int (nI b))] := hl
  suffices key : ∀ (H : Heap) (locs : List Loc), va_P D vwCl (hotelW cy h ((nI n, fl, se, pr, re, go, ch), (sg, bu, wa, ho, we, st, gr, po, ri))) H → va_D A (hotelW cy h ((nI n, fl, se, pr, re, go, ch), (sg, bu, wa, ho, we, st, gr, po, ri))) → va_S A s.heap H locs → W p l e rm_X1_moveGuest s m args below meth c H locs 0 0 Q (F0 m 0 ls []) from key s.heap [] hP hD va_S.rf
  intro H locs hP hD hS
  refine lv_aload_n hx hb dX1_moveGuest_0 rfl (lv_at hl 0 rfl) ?_
  refine lv_iload_n hx hb dX1_moveGuest_1 rfl (lv_at hl 1 rfl) ?_
  refine rd_V (As := [.int (nI a)]) (rest := []) hF (c_X1_isGuest l D cy h n hn ((nI n, fl, se, pr, re, go, ch), (sg, bu, wa, ho, we, st, gr, po, ri)) rfl (nI a)) (cwV 1 hts gX1_moveGuest_X1_isGuest rfl rfl rfl (by decide +kernel) ⟨Nat.le_of_ble_eq_true rfl, Nat.le_of_ble_eq_true rfl⟩) hK hP 0 0 rfl rfl rfl rfl hl.1 rfl (Nat.le_of_ble_eq_true rfl) dX1_moveGuest_2 ⟨Nat.le_of_ble_eq_true rfl, Nat.le_of_ble_eq_true rfl⟩ ?_
  refine lv_if_eq (tgt := 16) hx hb dX1_moveGuest_5 (by decide) (fun c_1 => ?_) (fun c_1 => ?_)
  · exact absurd (isG_nI hn ha) (zb_eq.mp c_1)
  · have c_1 := zb_ne.mp c_1
    refine lv_aload_n hx hb dX1_moveGuest_8 rfl (lv_at hl 0 rfl) ?_
    refine lv_iload_n hx hb dX1_moveGuest_9 rfl (lv_at hl 2 rfl) ?_
    refine rd_V (As := [.int (nI b)]) (rest := []) hF (c_X1_isGuest l D cy h n hn ((nI n, fl, se, pr, re, go, ch), (sg, bu, wa, ho, we, st, gr, po, ri)) rfl (nI b)) (cwV 1 hts gX1_moveGuest_X1_isGuest rfl rfl rfl (by decide +kernel) ⟨Nat.le_of_ble_eq_true rfl, Nat.le_of_ble_eq_true rfl⟩) hK hP 0 0 rfl rfl rfl rfl hl.1 rfl (Nat.le_of_ble_eq_true rfl) dX1_moveGuest_10 ⟨Nat.le_of_ble_eq_true rfl, Nat.le_of_ble_eq_true rfl⟩ ?_
    refine lv_if_ne (tgt := 17) hx hb dX1_moveGuest_13 (by decide) (fun c_2 => ?_) (fun c_2 => ?_)
    · have c_2 := zb_ne.mp c_2
      refine lv_aload_n hx hb dX1_moveGuest_17 rfl (lv_at hl 0 rfl) ?_
      refine va_get (ci := 0) (v := .ref (h 2)) (C := RX1) (T := TX1) (N := 16) hx hb hts hin_X1 hown hK hP 0 rfl rfl 8 (by decide) (hts (.fieldLink RX1 15 "ButtonGuests$Hotel" "button" "[I") (by decide +kernel)) (fun _ h9 => h9) rfl dX1_moveGuest_18 ?_
      refine lv_iload_n hx hb dX1_moveGuest_21 rfl (lv_at hl 2 rfl) ?_
      refine lv_aload_n hx hb dX1_moveGuest_22 rfl (lv_at hl 0 rfl) ?_
      refine va_get (ci := 0) (v := .ref (h 2)) (C := RX1) (T := TX1) (N := 16) hx hb hts hin_X1 hown hK hP 0 rfl rfl 8 (by decide) (hts (.fieldLink RX1 15 "ButtonGuests$Hotel" "button" "[I") (by decide +kernel)) (fun _ h9 => h9) rfl dX1_moveGuest_23 ?_
      refine lv_iload_n hx hb dX1_moveGuest_26 rfl (lv_at hl 1 rfl) ?_
      refine zz_iald hx hb hK hP 2 0 a rfl rfl rfl ⟨by omega, Nat.le_of_ble_eq_true rfl⟩ dX1_moveGuest_27 ?_
      refine zz_iast hx hb hK hP hD hS 2 0 b rfl rfl rfl ⟨by omega, Nat.le_of_ble_eq_true rfl⟩ dX1_moveGuest_28 (fun H locs hP hD hS => ?_)
      have hP : va_P D vwCl (hotelW cy h ((nI n, fl, se, pr, re, go, ch), (sg, (upd bu b (bu a)), wa, ho, we, st, gr, po, ri))) H := hP
      have hD : va_D A (hotelW cy h ((nI n, fl, se, pr, re, go, ch), (sg, (upd bu b (bu a)), wa, ho, we, st, gr, po, ri))) := hD
      refine lv_aload_n hx hb dX1_moveGuest_29 rfl (lv_at hl 0 rfl) ?_
      refine va_get (ci := 0) (v := .ref (h 3)) (C := RX1) (T := TX1) (N := 16) hx hb hts hin_X1 hown hK hP 0 rfl rfl 9 (by decide) (hts (.fieldLink RX1 18 "ButtonGuests$Hotel" "waitingFloor" "[I") (by decide +kernel)) (fun _ h9 => h9) rfl dX1_moveGuest_30 ?_
      refine lv_iload_n hx hb dX1_moveGuest_33 rfl (lv_at hl 2 rfl) ?_
      refine lv_aload_n hx hb dX1_moveGuest_34 rfl (lv_at hl 0 rfl) ?_
      refine va_get (ci := 0) (v := .ref (h 3)) (C := RX1) (T := TX1) (N := 16) hx hb hts hin_X1 hown hK hP 0 rfl rfl 9 (by decide) (hts (.fieldLink RX1 18 "ButtonGuests$Hotel" "waitingFloor" "[I") (by decide +kernel)) (fun _ h9 => h9) rfl dX1_moveGuest_35 ?_
      refine lv_iload_n hx hb dX1_moveGuest_38 rfl (lv_at hl 1 rfl) ?_
      refine zz_iald hx hb hK hP 3 0 a rfl rfl rfl ⟨by omega, Nat.le_of_ble_eq_true rfl⟩ dX1_moveGuest_39 ?_
      refine zz_iast hx hb hK hP hD hS 3 0 b rfl rfl rfl ⟨by omega, Nat.le_of_ble_eq_true rfl⟩ dX1_moveGuest_40 (fun H locs hP hD hS => ?_)
      have hP : va_P D vwCl (hotelW cy h ((nI n, fl, se, pr, re, go, ch), (sg, (upd bu b (bu a)), (upd wa b (wa a)), ho, we, st, gr, po, ri))) H := hP
      have hD : va_D A (hotelW cy h ((nI n, fl, se, pr, re, go, ch), (sg, (upd bu b (bu a)), (upd wa b (wa a)), ho, we, st, gr, po, ri))) := hD
      refine lv_aload_n hx hb dX1_moveGuest_41 rfl (lv_at hl 0 rfl) ?_
      refine va_get (ci := 0) (v := .ref (h 4)) (C := RX1) (T := TX1) (N := 16) hx hb hts hin_X1 hown hK hP 0 rfl rfl 10 (by decide) (hts (.fieldLink RX1 21 "ButtonGuests$Hotel" "home" "[I") (by decide +kernel)) (fun _ h9 => h9) rfl dX1_moveGuest_42 ?_
      refine lv_iload_n hx hb dX1_moveGuest_45 rfl (lv_at hl 2 rfl) ?_
      refine lv_aload_n hx hb dX1_moveGuest_46 rfl (lv_at hl 0 rfl) ?_
      refine va_get (ci := 0) (v := .ref (h 4)) (C := RX1) (T := TX1) (N := 16) hx hb hts hin_X1 hown hK hP 0 rfl rfl 10 (by decide) (hts (.fieldLink RX1 21 "ButtonGuests$Hotel" "home" "[I") (by decide +kernel)) (fun _ h9 => h9) rfl dX1_moveGuest_47 ?_
      refine lv_iload_n hx hb dX1_moveGuest_50 rfl (lv_at hl 1 rfl) ?_
      refine zz_iald hx hb hK hP 4 0 a rfl rfl rfl ⟨by omega, Nat.le_of_ble_eq_true rfl⟩ dX1_moveGuest_51 ?_
      refine zz_iast hx hb hK hP hD hS 4 0 b rfl rfl rfl ⟨by omega, Nat.le_of_ble_eq_true rfl⟩ dX1_moveGuest_52 (fun H locs hP hD hS => ?_)
      have hP : va_P D vwCl (hotelW cy h ((nI n, fl, se, pr, re, go, ch), (sg, (upd bu b (bu a)), (upd wa b (wa a)), (upd ho b (ho a)), we, st, gr, po, ri))) H := hP
      have hD : va_D A (hotelW cy h ((nI n, fl, se, pr, re, go, ch), (sg, (upd bu b (bu a)), (upd wa b (wa a)), (upd ho b (ho a)), we, st, gr, po, ri))) := hD
      refine lv_aload_n hx hb dX1_moveGuest_53 rfl (lv_at hl 0 rfl) ?_
      refine va_get (ci := 0) (v := .ref (h 5)) (C := RX1) (T := TX1) (N := 16) hx hb hts hin_X1 hown hK hP 0 rfl rfl 11 (by decide) (hts (.fieldLink RX1 24 "ButtonGuests$Hotel" "weight" "[I") (by decide +kernel)) (fun _ h9 => h9) rfl dX1_moveGuest_54 ?_
      refine lv_iload_n hx hb dX1_moveGuest_57 rfl (lv_at hl 2 rfl) ?_
      refine lv_aload_n hx hb dX1_moveGuest_58 rfl (lv_at hl 0 rfl) ?_
      refine va_get (ci := 0) (v := .ref (h 5)) (C := RX1) (T := TX1) (N := 16) hx hb hts hin_X1 hown hK hP 0 rfl rfl 11 (by decide) (hts (.fieldLink RX1 24 "ButtonGuests$Hotel" "weight" "[I") (by decide +kernel)) (fun _ h9 => h9) rfl dX1_moveGuest_59 ?_
      refine lv_iload_n hx hb dX1_moveGuest_62 rfl (lv_at hl 1 rfl) ?_
      refine zz_iald hx hb hK hP 5 0 a rfl rfl rfl ⟨by omega, Nat.le_of_ble_eq_true rfl⟩ dX1_moveGuest_63 ?_
      refine zz_iast hx hb hK hP hD hS 5 0 b rfl rfl rfl ⟨by omega, Nat.le_of_ble_eq_true rfl⟩ dX1_moveGuest_64 (fun H locs hP hD hS => ?_)
      have hP : va_P D vwCl (hotelW cy h ((nI n, fl, se, pr, re, go, ch), (sg, (upd bu b (bu a)), (upd wa b (wa a)), (upd ho b (ho a)), (upd we b (we a)), st, gr, po, ri))) H := hP
      have hD : va_D A (hotelW cy h ((nI n, fl, se, pr, re, go, ch), (sg, (upd bu b (bu a)), (upd wa b (wa a)), (upd ho b (ho a)), (upd we b (we a)), st, gr, po, ri))) := hD
      refine lv_aload_n hx hb dX1_moveGuest_65 rfl (lv_at hl 0 rfl) ?_
      refine va_get (ci := 0) (v := .ref (h 6)) (C := RX1) (T := TX1) (N := 16) hx hb hts hin_X1 hown hK hP 0 rfl rfl 12 (by decide) (hts (.fieldLink RX1 27 "ButtonGuests$Hotel" "state" "[I") (by decide +kernel)) (fun _ h9 => h9) rfl dX1_moveGuest_66 ?_
      refine lv_iload_n hx hb dX1_moveGuest_69 rfl (lv_at hl 2 rfl) ?_
      refine lv_aload_n hx hb dX1_moveGuest_70 rfl (lv_at hl 0 rfl) ?_
      refine va_get (ci := 0) (v := .ref (h 6)) (C := RX1) (T := TX1) (N := 16) hx hb hts hin_X1 hown hK hP 0 rfl rfl 12 (by decide) (hts (.fieldLink RX1 27 "ButtonGuests$Hotel" "state" "[I") (by decide +kernel)) (fun _ h9 => h9) rfl dX1_moveGuest_71 ?_
      refine lv_iload_n hx hb dX1_moveGuest_74 rfl (lv_at hl 1 rfl) ?_
      refine zz_iald hx hb hK hP 6 0 a rfl rfl rfl ⟨by omega, Nat.le_of_ble_eq_true rfl⟩ dX1_moveGuest_75 ?_
      refine zz_iast hx hb hK hP hD hS 6 0 b rfl rfl rfl ⟨by omega, Nat.le_of_ble_eq_true rfl⟩ dX1_moveGuest_76 (fun H locs hP hD hS => ?_)
      have hP : va_P D vwCl (hotelW cy h ((nI n, fl, se, pr, re, go, ch), (sg, (upd bu b (bu a)), (upd wa b (wa a)), (upd ho b (ho a)), (upd we b (we a)), (upd st b (st a)), gr, po, ri))) H := hP
      have hD : va_D A (hotelW cy h ((nI n, fl, se, pr, re, go, ch), (sg, (upd bu b (bu a)), (upd wa b (wa a)), (upd ho b (ho a)), (upd we b (we a)), (upd st b (st a)), gr, po, ri))) := hD
      refine lv_aload_n hx hb dX1_moveGuest_77 rfl (lv_at hl 0 rfl) ?_
      refine va_get (ci := 0) (v := .ref (h 7)) (C := RX1) (T := TX1) (N := 16) hx hb hts hin_X1 hown hK hP 0 rfl rfl 13 (by decide) (hts (.fieldLink RX1 30 "ButtonGuests$Hotel" "grudges" "[I") (by decide +kernel)) (fun _ h9 => h9) rfl dX1_moveGuest_78 ?_
      refine lv_iload_n hx hb dX1_moveGuest_81 rfl (lv_at hl 2 rfl) ?_
      refine lv_aload_n hx hb dX1_moveGuest_82 rfl (lv_at hl 0 rfl) ?_
      refine va_get (ci := 0) (v := .ref (h 7)) (C := RX1) (T := TX1) (N := 16) hx hb hts hin_X1 hown hK hP 0 rfl rfl 13 (by decide) (hts (.fieldLink RX1 30 "ButtonGuests$Hotel" "grudges" "[I") (by decide +kernel)) (fun _ h9 => h9) rfl dX1_moveGuest_83 ?_
      refine lv_iload_n hx hb dX1_moveGuest_86 rfl (lv_at hl 1 rfl) ?_
      refine zz_iald hx hb hK hP 7 0 a rfl rfl rfl ⟨by omega, Nat.le_of_ble_eq_true rfl⟩ dX1_moveGuest_87 ?_
      refine zz_iast hx hb hK hP hD hS 7 0 b rfl rfl rfl ⟨by omega, Nat.le_of_ble_eq_true rfl⟩ dX1_moveGuest_88 (fun H locs hP hD hS => ?_)
      have hP : va_P D vwCl (hotelW cy h ((nI n, fl, se, pr, re, go, ch), (sg, (upd bu b (bu a)), (upd wa b (wa a)), (upd ho b (ho a)), (upd we b (we a)), (upd st b (st a)), (upd gr b (gr a)), po, ri))) H := hP
      have hD : va_D A (hotelW cy h ((nI n, fl, se, pr, re, go, ch), (sg, (upd bu b (bu a)), (upd wa b (wa a)), (upd ho b (ho a)), (upd we b (we a)), (upd st b (st a)), (upd gr b (gr a)), po, ri))) := hD
      refine lv_aload_n hx hb dX1_moveGuest_89 rfl (lv_at hl 0 rfl) ?_
      refine va_get (ci := 0) (v := .ref (h 8)) (C := RX1) (T := TX1) (N := 16) hx hb hts hin_X1 hown hK hP 0 rfl rfl 14 (by decide) (hts (.fieldLink RX1 33 "ButtonGuests$Hotel" "pressesOf" "[I") (by decide +kernel)) (fun _ h9 => h9) rfl dX1_moveGuest_90 ?_
      refine lv_iload_n hx hb dX1_moveGuest_93 rfl (lv_at hl 2 rfl) ?_
      refine lv_aload_n hx hb dX1_moveGuest_94 rfl (lv_at hl 0 rfl) ?_
      refine va_get (ci := 0) (v := .ref (h 8)) (C := RX1) (T := TX1) (N := 16) hx hb hts hin_X1 hown hK hP 0 rfl rfl 14 (by decide) (hts (.fieldLink RX1 33 "ButtonGuests$Hotel" "pressesOf" "[I") (by decide +kernel)) (fun _ h9 => h9) rfl dX1_moveGuest_95 ?_
      refine lv_iload_n hx hb dX1_moveGuest_98 rfl (lv_at hl 1 rfl) ?_
      refine zz_iald hx hb hK hP 8 0 a rfl rfl rfl ⟨by omega, Nat.le_of_ble_eq_true rfl⟩ dX1_moveGuest_99 ?_
      refine zz_iast hx hb hK hP hD hS 8 0 b rfl rfl rfl ⟨by omega, Nat.le_of_ble_eq_true rfl⟩ dX1_moveGuest_100 (fun H locs hP hD hS => ?_)
      have hP : va_P D vwCl (hotelW cy h ((nI n, fl, se, pr, re, go, ch), (sg, (upd bu b (bu a)), (upd wa b (wa a)), (upd ho b (ho a)), (upd we b (we a)), (upd st b (st a)), (upd gr b (gr a)), (upd po b (po a)), ri))) H := hP
      have hD : va_D A (hotelW cy h ((nI n, fl, se, pr, re, go, ch), (sg, (upd bu b (bu a)), (upd wa b (wa a)), (upd ho b (ho a)), (upd we b (we a)), (upd st b (st a)), (upd gr b (gr a)), (upd po b (po a)), ri))) := hD
      refine lv_aload_n hx hb dX1_moveGuest_101 rfl (lv_at hl 0 rfl) ?_
      refine va_get (ci := 0) (v := .ref (h 9)) (C := RX1) (T := TX1) (N := 16) hx hb hts hin_X1 hown hK hP 0 rfl rfl 15 (by decide) (hts (.fieldLink RX1 36 "ButtonGuests$Hotel" "ridden" "[I") (by decide +kernel)) (fun _ h9 => h9) rfl dX1_moveGuest_102 ?_
      refine lv_iload_n hx hb dX1_moveGuest_105 rfl (lv_at hl 2 rfl) ?_
      refine lv_aload_n hx hb dX1_moveGuest_106 rfl (lv_at hl 0 rfl) ?_
      refine va_get (ci := 0) (v := .ref (h 9)) (C := RX1) (T := TX1) (N := 16) hx hb hts hin_X1 hown hK hP 0 rfl rfl 15 (by decide) (hts (.fieldLink RX1 36 "ButtonGuests$Hotel" "ridden" "[I") (by decide +kernel)) (fun _ h9 => h9) rfl dX1_moveGuest_107 ?_
      refine lv_iload_n hx hb dX1_moveGuest_110 rfl (lv_at hl 1 rfl) ?_
      refine zz_iald hx hb hK hP 9 0 a rfl rfl rfl ⟨by omega, Nat.le_of_ble_eq_true rfl⟩ dX1_moveGuest_111 ?_
      refine zz_iast hx hb hK hP hD hS 9 0 b rfl rfl rfl ⟨by omega, Nat.le_of_ble_eq_true rfl⟩ dX1_moveGuest_112 (fun H locs hP hD hS => ?_)
      have hP : va_P D vwCl (hotelW cy h ((nI n, fl, se, pr, re, go, ch), (sg, (upd bu b (bu a)), (upd wa b (wa a)), (upd ho b (ho a)), (upd we b (we a)), (upd st b (st a)), (upd gr b (gr a)), (upd po b (po a)), (upd ri b (ri a))))) H := hP
      have hD : va_D A (hotelW cy h ((nI n, fl, se, pr, re, go, ch), (sg, (upd bu b (bu a)), (upd wa b (wa a)), (upd ho b (ho a)), (upd we b (we a)), (upd st b (st a)), (upd gr b (gr a)), (upd po b (po a)), (upd ri b (ri a))))) := hD
      exact hret _ _ H locs ((nI n, fl, se, pr, re, go, ch), (sg, (upd bu b (bu a)), (upd wa b (wa a)), (upd ho b (ho a)), (upd we b (we a)), (upd st b (st a)), (upd gr b (gr a)), (upd po b (po a)), (upd ri b (ri a)))) dX1_moveGuest_113 hP hD hS (rfl)
    · exact absurd (isG_nI hn hb9) (zb_eq.mp c_2)
abbrev rm_X1_admit : Room := { frames := 1, cells := 0, slots := 0, locals := 20 }
set_option maxHeartbeats 4000000 in
set_option maxRecDepth 100000 in
theorem c_X1_admit (l : Launch) (D : va_G) (cy : Nat → ClassId) (h : Nat → Nat) (n : Nat) (hn : n ≤ 4) (x : HS) (hg : x.1.1 = nI n) (sz : Nat) (b a z v : Int32) : Met l yX1_admit wsX1_admit rm_X1_admit (wrP D cy [.ref (h 0), .int b, .int a, .int z, .int v] (hotelW cy h x) sz) (va_Qi (fun (r : Int32) (u : HS) => r = (if okC n b a z v then nI n else -1) ∧ u = hAdm n b a z v x) (wrB D (va_A (hotelW cy h x) sz) (fun u => hotelW cy h u)) (va_A (hotelW cy h x) sz)) 0 0 (va_A (hotelW cy h x) sz) := by
  obtain ⟨⟨gu, fl, se, pr, re, go, ch⟩, ⟨sg, bu, wa, ho, we, st, gr, po, ri⟩⟩ := x
  obtain rfl : gu = nI n := hg
  refine Mwi (cc := cX1_admit) (maxL := 6) (ty := .int) (by decide) rfl (Nat.le_of_ble_eq_true rfl) (fun _ _ _ => rfl) ?_
  intro p e s m args below meth c Q ls A hsz hF hK hP hD hA hl hret
  obtain ⟨hx, hb, hml, hown, hts⟩ := id hF
  have hown : s.vm.findClass RX1 = some m.cls := hown
  have hin_X1 : ∀ w ∈ u_ws RX1 TX1 16, w ∈ wsX1_admit := by decide +kernel
  have hl : lv_has ls 6 [(0, .ref (h 0)), (1, .int b), (2, .int a), (3, .int z), (4, .int v)] := hl
  suffices key : ∀ (H : Heap) (locs : List Loc), va_P D vwCl (hotelW cy h ((nI n, fl, se, pr, re, go, ch), (sg, bu, wa, ho, we, st, gr, po, ri))) H → va_D A (hotelW cy h ((nI n, fl, se, pr, re, go, ch), (sg, bu, wa, ho, we, st, gr, po, ri))) → va_S A s.heap H locs → W p l e rm_X1_admit s m args below meth c H locs 0 0 Q (F0 m 0 ls []) from key s.heap [] hP hD va_S.rf
  intro H locs hP hD hS
  refine lv_iload_n hx hb dX1_admit_0 rfl (lv_at hl 1 rfl) ?_
  refine rd_S (As := [.int b]) (rest := []) hF (c_X1_isFloor l D cy b) (va_cwS 1 hts gX1_admit_X1_isFloor rfl rfl rfl (by decide +kernel) ⟨Nat.le_of_ble_eq_true rfl, Nat.le_of_ble_eq_true rfl⟩) hK (fun k q h => by simp at h) rfl hl.1 rfl (Nat.le_of_ble_eq_true rfl) dX1_admit_1 ⟨Nat.le_of_ble_eq_true rfl, Nat.le_of_ble_eq_true rfl⟩ ?_
  refine lv_if_eq (tgt := 21) hx hb dX1_admit_4 (by decide) (fun c_1 => ?_) (fun c_1 => ?_)
  · have c_1 := zb_eq.mp c_1
    refine lv_iconst (v := (-1)) hx hb dX1_admit_21 (by decide) ?_
    exact hret _ _ H locs _ ((nI n, fl, se, pr, re, go, ch), (sg, bu, wa, ho, we, st, gr, po, ri)) dX1_admit_22 hP hD hS (⟨by rw [if_neg (fun q => c_1 q.1)], by rw [hAdm, if_neg (fun q => c_1 q.1)]⟩)
  · have c_1 := zb_ne.mp c_1
    refine lv_iload_n hx hb dX1_admit_7 rfl (lv_at hl 2 rfl) ?_
    refine rd_S (As := [.int a]) (rest := []) hF (c_X1_isFloor l D cy a) (va_cwS 1 hts gX1_admit_X1_isFloor rfl rfl rfl (by decide +kernel) ⟨Nat.le_of_ble_eq_true rfl, Nat.le_of_ble_eq_true rfl⟩) hK (fun k q h => by simp at h) rfl hl.1 rfl (Nat.le_of_ble_eq_true rfl) dX1_admit_8 ⟨Nat.le_of_ble_eq_true rfl, Nat.le_of_ble_eq_true rfl⟩ ?_
    refine lv_if_eq (tgt := 21) hx hb dX1_admit_11 (by decide) (fun c_2 => ?_) (fun c_2 => ?_)
    · have c_2 := zb_eq.mp c_2
      refine lv_iconst (v := (-1)) hx hb dX1_admit_21 (by decide) ?_
      exact hret _ _ H locs _ ((nI n, fl, se, pr, re, go, ch), (sg, bu, wa, ho, we, st, gr, po, ri)) dX1_admit_22 hP hD hS (⟨by rw [if_neg (fun q => c_2 q.2.1)], by rw [hAdm, if_neg (fun q => c_2 q.2.1)]⟩)
    · have c_2 := zb_ne.mp c_2
      refine lv_iload_n hx hb dX1_admit_14 rfl (lv_at hl 3 rfl) ?_
      refine rd_S (As := [.int z]) (rest := []) hF (c_X1_isFloor l D cy z) (va_cwS 1 hts gX1_admit_X1_isFloor rfl rfl rfl (by decide +kernel) ⟨Nat.le_of_ble_eq_true rfl, Nat.le_of_ble_eq_true rfl⟩) hK (fun k q h => by simp at h) rfl hl.1 rfl (Nat.le_of_ble_eq_true rfl) dX1_admit_15 ⟨Nat.le_of_ble_eq_true rfl, Nat.le_of_ble_eq_true rfl⟩ ?_
      refine lv_if_ne (tgt := 23) hx hb dX1_admit_18 (by decide) (fun c_3 => ?_) (fun c_3 => ?_)
      · have c_3 := zb_ne.mp c_3
        refine lv_iload hx hb dX1_admit_23 (lv_at hl 4 rfl) ?_
        refine rd_S (As := [.int v]) (rest := []) hF (c_X1_isWeight l D cy v) (va_cwS 1 hts gX1_admit_X1_isWeight rfl rfl rfl (by decide +kernel) ⟨Nat.le_of_ble_eq_true rfl, Nat.le_of_ble_eq_true rfl⟩) hK (fun k q h => by simp at h) rfl hl.1 rfl (Nat.le_of_ble_eq_true rfl) dX1_admit_25 ⟨Nat.le_of_ble_eq_true rfl, Nat.le_of_ble_eq_true rfl⟩ ?_
        refine lv_if_eq (tgt := 38) hx hb dX1_admit_28 (by decide) (fun c_4 => ?_) (fun c_4 => ?_)
        · have c_4 := zb_eq.mp c_4
          refine lv_iconst (v := (-1)) hx hb dX1_admit_38 (by decide) ?_
          exact hret _ _ H locs _ ((nI n, fl, se, pr, re, go, ch), (sg, bu, wa, ho, we, st, gr, po, ri)) dX1_admit_39 hP hD hS (⟨by rw [if_neg (fun q => c_4 q.2.2.2.1)], by rw [hAdm, if_neg (fun q => c_4 q.2.2.2.1)]⟩)
        · have c_4 := zb_ne.mp c_4
          refine lv_aload_n hx hb dX1_admit_31 rfl (lv_at hl 0 rfl) ?_
          refine rd_V (As := []) (rest := []) hF (c_X1_isFull l D cy h n hn ((nI n, fl, se, pr, re, go, ch), (sg, bu, wa, ho, we, st, gr, po, ri)) rfl ) (cwV 0 hts gX1_admit_X1_isFull rfl rfl rfl (by decide +kernel) ⟨Nat.le_of_ble_eq_true rfl, Nat.le_of_ble_eq_true rfl⟩) hK hP 0 0 rfl rfl rfl rfl hl.1 rfl (Nat.le_of_ble_eq_true rfl) dX1_admit_32 ⟨Nat.le_of_ble_eq_true rfl, Nat.le_of_ble_eq_true rfl⟩ ?_
          refine lv_if_eq (tgt := 40) hx hb dX1_admit_35 (by decide) (fun c_5 => ?_) (fun c_5 => ?_)
          · have c_5 := zb_eq.mp c_5
            have hn4 : n < 4 := (nI_ltI (a := n) (b := 4) (by omega) (by omega)).mp (Classical.not_not.mp c_5)
            refine lv_aload_n hx hb dX1_admit_40 rfl (lv_at hl 0 rfl) ?_
            refine va_get (ci := 0) (v := .int (nI n)) (C := RX1) (T := TX1) (N := 16) hx hb hts hin_X1 hown hK hP 0 rfl rfl 1 (by decide) (hts (.fieldLink RX1 49 "ButtonGuests$Hotel" "guests" "I") (by decide +kernel)) (fun _ h9 => h9) rfl dX1_admit_41 ?_
            refine lv_istore (lv' := [(5, .int (nI n)), (0, .ref (h 0)), (1, .int b), (2, .int a), (3, .int z), (4, .int v)]) hx hb dX1_admit_44 hl (by decide) rfl (fun ls hl => ?_)
            refine lv_aload_n hx hb dX1_admit_46 rfl (lv_at hl 1 rfl) ?_
            refine lv_iload hx hb dX1_admit_47 (lv_at hl 0 rfl) ?_
            refine lv_iconst (v := 1) hx hb dX1_admit_49 (by decide) ?_
            refine lv_iadd hx hb dX1_admit_50 ?_
            refine va_put (ci := 0) (v := .int ((nI n) + 1)) (ty := .int) (C := RX1) (T := TX1) (N := 16) hx hb hts hin_X1 tyX1 tyX1_ok nmX1 hown hK hP hD hS 0 rfl rfl 1 (by decide) (hts (.fieldLink RX1 49 "ButtonGuests$Hotel" "guests" "I") (by decide +kernel)) (fun _ h9 => h9) rfl (by decide +kernel) rfl rfl (Nat.le_of_ble_eq_true rfl) dX1_admit_51 (fun H locs hP hD hS => ?_)
            have hP : va_P D vwCl (hotelW cy h (((nI n) + 1, fl, se, pr, re, go, ch), (sg, bu, wa, ho, we, st, gr, po, ri))) H := hP
            have hD : va_D A (hotelW cy h (((nI n) + 1, fl, se, pr, re, go, ch), (sg, bu, wa, ho, we, st, gr, po, ri))) := hD
            refine lv_aload_n hx hb dX1_admit_54 rfl (lv_at hl 1 rfl) ?_
            refine va_get (ci := 0) (v := .ref (h 2)) (C := RX1) (T := TX1) (N := 16) hx hb hts hin_X1 hown hK hP 0 rfl rfl 8 (by decide) (hts (.fieldLink RX1 15 "ButtonGuests$Hotel" "button" "[I") (by decide +kernel)) (fun _ h9 => h9) rfl dX1_admit_55 ?_
            refine lv_iload hx hb dX1_admit_58 (lv_at hl 0 rfl) ?_
            refine lv_iload_n hx hb dX1_admit_60 rfl (lv_at hl 2 rfl) ?_
            refine zz_iast hx hb hK hP hD hS 2 0 n rfl rfl rfl ⟨by omega, Nat.le_of_ble_eq_true rfl⟩ dX1_admit_61 (fun H locs hP hD hS => ?_)
            have hP : va_P D vwCl (hotelW cy h (((nI n) + 1, fl, se, pr, re, go, ch), (sg, (upd bu n b), wa, ho, we, st, gr, po, ri))) H := hP
            have hD : va_D A (hotelW cy h (((nI n) + 1, fl, se, pr, re, go, ch), (sg, (upd bu n b), wa, ho, we, st, gr, po, ri))) := hD
            refine lv_aload_n hx hb dX1_admit_62 rfl (lv_at hl 1 rfl) ?_
            refine va_get (ci := 0) (v := .ref (h 3)) (C := RX1) (T := TX1) (N := 16) hx hb hts hin_X1 hown hK hP 0 rfl rfl 9 (by decide) (hts (.fieldLink RX1 18 "ButtonGuests$Hotel" "waitingFloor" "[I") (by decide +kernel)) (fun _ h9 => h9) rfl dX1_admit_63 ?_
            refine lv_iload hx hb dX1_admit_66 (lv_at hl 0 rfl) ?_
            refine lv_iload_n hx hb dX1_admit_68 rfl (lv_at hl 3 rfl) ?_
            refine zz_iast hx hb hK hP hD hS 3 0 n rfl rfl rfl ⟨by omega, Nat.le_of_ble_eq_true rfl⟩ dX1_admit_69 (fun H locs hP hD hS => ?_)
            have hP : va_P D vwCl (hotelW cy h (((nI n) + 1, fl, se, pr, re, go, ch), (sg, (upd bu n b), (upd wa n a), ho, we, st, gr, po, ri))) H := hP
            have hD : va_D A (hotelW cy h (((nI n) + 1, fl, se, pr, re, go, ch), (sg, (upd bu n b), (upd wa n a), ho, we, st, gr, po, ri))) := hD
            refine lv_aload_n hx hb dX1_admit_70 rfl (lv_at hl 1 rfl) ?_
            refine va_get (ci := 0) (v := .ref (h 4)) (C := RX1) (T := TX1) (N := 16) hx hb hts hin_X1 hown hK hP 0 rfl rfl 10 (by decide) (hts (.fieldLink RX1 21 "ButtonGuests$Hotel" "home" "[I") (by decide +kernel)) (fun _ h9 => h9) rfl dX1_admit_71 ?_
            refine lv_iload hx hb dX1_admit_74 (lv_at hl 0 rfl) ?_
            refine lv_iload_n hx hb dX1_admit_76 rfl (lv_at hl 4 rfl) ?_
            refine zz_iast hx hb hK hP hD hS 4 0 n rfl rfl rfl ⟨by omega, Nat.le_of_ble_eq_true rfl⟩ dX1_admit_77 (fun H locs hP hD hS => ?_)
            have hP : va_P D vwCl (hotelW cy h (((nI n) + 1, fl, se, pr, re, go, ch), (sg, (upd bu n b), (upd wa n a), (upd ho n z), we, st, gr, po, ri))) H := hP
            have hD : va_D A (hotelW cy h (((nI n) + 1, fl, se, pr, re, go, ch), (sg, (upd bu n b), (upd wa n a), (upd ho n z), we, st, gr, po, ri))) := hD
            refine lv_aload_n hx hb dX1_admit_78 rfl (lv_at hl 1 rfl) ?_
            refine va_get (ci := 0) (v := .ref (h 5)) (C := RX1) (T := TX1) (N := 16) hx hb hts hin_X1 hown hK hP 0 rfl rfl 11 (by decide) (hts (.fieldLink RX1 24 "ButtonGuests$Hotel" "weight" "[I") (by decide +kernel)) (fun _ h9 => h9) rfl dX1_admit_79 ?_
            refine lv_iload hx hb dX1_admit_82 (lv_at hl 0 rfl) ?_
            refine lv_iload hx hb dX1_admit_84 (lv_at hl 5 rfl) ?_
            refine zz_iast hx hb hK hP hD hS 5 0 n rfl rfl rfl ⟨by omega, Nat.le_of_ble_eq_true rfl⟩ dX1_admit_86 (fun H locs hP hD hS => ?_)
            have hP : va_P D vwCl (hotelW cy h (((nI n) + 1, fl, se, pr, re, go, ch), (sg, (upd bu n b), (upd wa n a), (upd ho n z), (upd we n v), st, gr, po, ri))) H := hP
            have hD : va_D A (hotelW cy h (((nI n) + 1, fl, se, pr, re, go, ch), (sg, (upd bu n b), (upd wa n a), (upd ho n z), (upd we n v), st, gr, po, ri))) := hD
            refine lv_aload_n hx hb dX1_admit_87 rfl (lv_at hl 1 rfl) ?_
            refine va_get (ci := 0) (v := .ref (h 6)) (C := RX1) (T := TX1) (N := 16) hx hb hts hin_X1 hown hK hP 0 rfl rfl 12 (by decide) (hts (.fieldLink RX1 27 "ButtonGuests$Hotel" "state" "[I") (by decide +kernel)) (fun _ h9 => h9) rfl dX1_admit_88 ?_
            refine lv_iload hx hb dX1_admit_91 (lv_at hl 0 rfl) ?_
            refine lv_iload_n hx hb dX1_admit_93 rfl (lv_at hl 3 rfl) ?_
            refine lv_iload_n hx hb dX1_admit_94 rfl (lv_at hl 4 rfl) ?_
            refine lv_icmp_ne (tgt := 102) hx hb dX1_admit_95 (by decide) (fun c_6 => ?_) (fun c_6 => ?_)
            · have c_6 : ¬ a = z := c_6
              refine lv_iconst (v := 0) hx hb dX1_admit_102 (by decide) ?_
              refine zz_iast hx hb hK hP hD hS 6 0 n rfl rfl rfl ⟨by omega, Nat.le_of_ble_eq_true rfl⟩ dX1_admit_103 (fun H locs hP hD hS => ?_)
              have hP : va_P D vwCl (hotelW cy h (((nI n) + 1, fl, se, pr, re, go, ch), (sg, (upd bu n b), (upd wa n a), (upd ho n z), (upd we n v), (upd st n 0), gr, po, ri))) H := hP
              have hD : va_D A (hotelW cy h (((nI n) + 1, fl, se, pr, re, go, ch), (sg, (upd bu n b), (upd wa n a), (upd ho n z), (upd we n v), (upd st n 0), gr, po, ri))) := hD
              refine lv_aload_n hx hb dX1_admit_104 rfl (lv_at hl 1 rfl) ?_
              refine va_get (ci := 0) (v := .ref (h 7)) (C := RX1) (T := TX1) (N := 16) hx hb hts hin_X1 hown hK hP 0 rfl rfl 13 (by decide) (hts (.fieldLink RX1 30 "ButtonGuests$Hotel" "grudges" "[I") (by decide +kernel)) (fun _ h9 => h9) rfl dX1_admit_105 ?_
              refine lv_iload hx hb dX1_admit_108 (lv_at hl 0 rfl) ?_
              refine lv_iconst (v := 0) hx hb dX1_admit_110 (by decide) ?_
              refine zz_iast hx hb hK hP hD hS 7 0 n rfl rfl rfl ⟨by omega, Nat.le_of_ble_eq_true rfl⟩ dX1_admit_111 (fun H locs hP hD hS => ?_)
              have hP : va_P D vwCl (hotelW cy h (((nI n) + 1, fl, se, pr, re, go, ch), (sg, (upd bu n b), (upd wa n a), (upd ho n z), (upd we n v), (upd st n 0), (upd gr n 0), po, ri))) H := hP
              have hD : va_D A (hotelW cy h (((nI n) + 1, fl, se, pr, re, go, ch), (sg, (upd bu n b), (upd wa n a), (upd ho n z), (upd we n v), (upd st n 0), (upd gr n 0), po, ri))) := hD
              refine lv_aload_n hx hb dX1_admit_112 rfl (lv_at hl 1 rfl) ?_
              refine va_get (ci := 0) (v := .ref (h 8)) (C := RX1) (T := TX1) (N := 16) hx hb hts hin_X1 hown hK hP 0 rfl rfl 14 (by decide) (hts (.fieldLink RX1 33 "ButtonGuests$Hotel" "pressesOf" "[I") (by decide +kernel)) (fun _ h9 => h9) rfl dX1_admit_113 ?_
              refine lv_iload hx hb dX1_admit_116 (lv_at hl 0 rfl) ?_
              refine lv_iconst (v := 0) hx hb dX1_admit_118 (by decide) ?_
              refine zz_iast hx hb hK hP hD hS 8 0 n rfl rfl rfl ⟨by omega, Nat.le_of_ble_eq_true rfl⟩ dX1_admit_119 (fun H locs hP hD hS => ?_)
              have hP : va_P D vwCl (hotelW cy h (((nI n) + 1, fl, se, pr, re, go, ch), (sg, (upd bu n b), (upd wa n a), (upd ho n z), (upd we n v), (upd st n 0), (upd gr n 0), (upd po n 0), ri))) H := hP
              have hD : va_D A (hotelW cy h (((nI n) + 1, fl, se, pr, re, go, ch), (sg, (upd bu n b), (upd wa n a), (upd ho n z), (upd we n v), (upd st n 0), (upd gr n 0), (upd po n 0), ri))) := hD
              refine lv_aload_n hx hb dX1_admit_120 rfl (lv_at hl 1 rfl) ?_
              refine va_get (ci := 0) (v := .ref (h 9)) (C := RX1) (T := TX1) (N := 16) hx hb hts hin_X1 hown hK hP 0 rfl rfl 15 (by decide) (hts (.fieldLink RX1 36 "ButtonGuests$Hotel" "ridden" "[I") (by decide +kernel)) (fun _ h9 => h9) rfl dX1_admit_121 ?_
              refine lv_iload hx hb dX1_admit_124 (lv_at hl 0 rfl) ?_
              refine lv_iconst (v := 0) hx hb dX1_admit_126 (by decide) ?_
              refine zz_iast hx hb hK hP hD hS 9 0 n rfl rfl rfl ⟨by omega, Nat.le_of_ble_eq_true rfl⟩ dX1_admit_127 (fun H locs hP hD hS => ?_)
              have hP : va_P D vwCl (hotelW cy h (((nI n) + 1, fl, se, pr, re, go, ch), (sg, (upd bu n b), (upd wa n a), (upd ho n z), (upd we n v), (upd st n 0), (upd gr n 0), (upd po n 0), (upd ri n 0)))) H := hP
              have hD : va_D A (hotelW cy h (((nI n) + 1, fl, se, pr, re, go, ch), (sg, (upd bu n b), (upd wa n a), (upd ho n z), (upd we n v), (upd st n 0), (upd gr n 0), (upd po n 0), (upd ri n 0)))) := hD
              refine lv_iload hx hb dX1_admit_128 (lv_at hl 0 rfl) ?_
              exact hret _ _ H locs _ (((nI n) + 1, fl, se, pr, re, go, ch), (sg, (upd bu n b), (upd wa n a), (upd ho n z), (upd we n v), (upd st n 0), (upd gr n 0), (upd po n 0), (upd ri n 0))) dX1_admit_130 hP hD hS (⟨by rw [if_pos ⟨c_1, c_2, c_3, c_4, hn4⟩], by rw [hAdm, if_pos ⟨c_1, c_2, c_3, c_4, hn4⟩]; simp only [hCome, if_neg c_6]⟩)
            · have c_6 : a = z := c_6
              refine lv_iconst (v := 2) hx hb dX1_admit_98 (by decide) ?_
              refine lv_goto (tgt := 103) hx hb dX1_admit_99 (by decide) ?_
              refine zz_iast hx hb hK hP hD hS 6 0 n rfl rfl rfl ⟨by omega, Nat.le_of_ble_eq_true rfl⟩ dX1_admit_103 (fun H locs hP hD hS => ?_)
              have hP : va_P D vwCl (hotelW cy h (((nI n) + 1, fl, se, pr, re, go, ch), (sg, (upd bu n b), (upd wa n a), (upd ho n z), (upd we n v), (upd st n 2), gr, po, ri))) H := hP
              have hD : va_D A (hotelW cy h (((nI n) + 1, fl, se, pr, re, go, ch), (sg, (upd bu n b), (upd wa n a), (upd ho n z), (upd we n v), (upd st n 2), gr, po, ri))) := hD
              refine lv_aload_n hx hb dX1_admit_104 rfl (lv_at hl 1 rfl) ?_
              refine va_get (ci := 0) (v := .ref (h 7)) (C := RX1) (T := TX1) (N := 16) hx hb hts hin_X1 hown hK hP 0 rfl rfl 13 (by decide) (hts (.fieldLink RX1 30 "ButtonGuests$Hotel" "grudges" "[I") (by decide +kernel)) (fun _ h9 => h9) rfl dX1_admit_105 ?_
              refine lv_iload hx hb dX1_admit_108 (lv_at hl 0 rfl) ?_
              refine lv_iconst (v := 0) hx hb dX1_admit_110 (by decide) ?_
              refine zz_iast hx hb hK hP hD hS 7 0 n rfl rfl rfl ⟨by omega, Nat.le_of_ble_eq_true rfl⟩ dX1_admit_111 (fun H locs hP hD hS => ?_)
              have hP : va_P D vwCl (hotelW cy h (((nI n) + 1, fl, se, pr, re, go, ch), (sg, (upd bu n b), (upd wa n a), (upd ho n z), (upd we n v), (upd st n 2), (upd gr n 0), po, ri))) H := hP
              have hD : va_D A (hotelW cy h (((nI n) + 1, fl, se, pr, re, go, ch), (sg, (upd bu n b), (upd wa n a), (upd ho n z), (upd we n v), (upd st n 2), (upd gr n 0), po, ri))) := hD
              refine lv_aload_n hx hb dX1_admit_112 rfl (lv_at hl 1 rfl) ?_
              refine va_get (ci := 0) (v := .ref (h 8)) (C := RX1) (T := TX1) (N := 16) hx hb hts hin_X1 hown hK hP 0 rfl rfl 14 (by decide) (hts (.fieldLink RX1 33 "ButtonGuests$Hotel" "pressesOf" "[I") (by decide +kernel)) (fun _ h9 => h9) rfl dX1_admit_113 ?_
              refine lv_iload hx hb dX1_admit_116 (lv_at hl 0 rfl) ?_
              refine lv_iconst (v := 0) hx hb dX1_admit_118 (by decide) ?_
              refine zz_iast hx hb hK hP hD hS 8 0 n rfl rfl rfl ⟨by omega, Nat.le_of_ble_eq_true rfl⟩ dX1_admit_119 (fun H locs hP hD hS => ?_)
              have hP : va_P D vwCl (hotelW cy h (((nI n) + 1, fl, se, pr, re, go, ch), (sg, (upd bu n b), (upd wa n a), (upd ho n z), (upd we n v), (upd st n 2), (upd gr n 0), (upd po n 0), ri))) H := hP
              have hD : va_D A (hotelW cy h (((nI n) + 1, fl, se, pr, re, go, ch), (sg, (upd bu n b), (upd wa n a), (upd ho n z), (upd we n v), (upd st n 2), (upd gr n 0), (upd po n 0), ri))) := hD
              refine lv_aload_n hx hb dX1_admit_120 rfl (lv_at hl 1 rfl) ?_
              refine va_get (ci := 0) (v := .ref (h 9)) (C := RX1) (T := TX1) (N := 16) hx hb hts hin_X1 hown hK hP 0 rfl rfl 15 (by decide) (hts (.fieldLink RX1 36 "ButtonGuests$Hotel" "ridden" "[I") (by decide +kernel)) (fun _ h9 => h9) rfl dX1_admit_121 ?_
              refine lv_iload hx hb dX1_admit_124 (lv_at hl 0 rfl) ?_
              refine lv_iconst (v := 0) hx hb dX1_admit_126 (by decide) ?_
              refine zz_iast hx hb hK hP hD hS 9 0 n rfl rfl rfl ⟨by omega, Nat.le_of_ble_eq_true rfl⟩ dX1_admit_127 (fun H locs hP hD hS => ?_)
              have hP : va_P D vwCl (hotelW cy h (((nI n) + 1, fl, se, pr, re, go, ch), (sg, (upd bu n b), (upd wa n a), (upd ho n z), (upd we n v), (upd st n 2), (upd gr n 0), (upd po n 0), (upd ri n 0)))) H := hP
              have hD : va_D A (hotelW cy h (((nI n) + 1, fl, se, pr, re, go, ch), (sg, (upd bu n b), (upd wa n a), (upd ho n z), (upd we n v), (upd st n 2), (upd gr n 0), (upd po n 0), (upd ri n 0)))) := hD
              refine lv_iload hx hb dX1_admit_128 (lv_at hl 0 rfl) ?_
              exact hret _ _ H locs _ (((nI n) + 1, fl, se, pr, re, go, ch), (sg, (upd bu n b), (upd wa n a), (upd ho n z), (upd we n v), (upd st n 2), (upd gr n 0), (upd po n 0), (upd ri n 0))) dX1_admit_130 hP hD hS (⟨by rw [if_pos ⟨c_1, c_2, c_3, c_4, hn4⟩], by rw [hAdm, if_pos ⟨c_1, c_2, c_3, c_4, hn4⟩]; simp only [hCome, if_pos c_6]⟩)
          · have c_5 := zb_ne.mp c_5
            refine lv_iconst (v := (-1)) hx hb dX1_admit_38 (by decide) ?_
            exact hret _ _ H locs _ ((nI n, fl, se, pr, re, go, ch), (sg, bu, wa, ho, we, st, gr, po, ri)) dX1_admit_39 hP hD hS (⟨by rw [if_neg (fun q => c_5 (nI_lt (b := 4) q.2.2.2.2 (by decide)))], by rw [hAdm, if_neg (fun q => c_5 (nI_lt (b := 4) q.2.2.2.2 (by decide)))]⟩)
      · have c_3 := zb_eq.mp c_3
        refine lv_iconst (v := (-1)) hx hb dX1_admit_21 (by decide) ?_
        exact hret _ _ H locs _ ((nI n, fl, se, pr, re, go, ch), (sg, bu, wa, ho, we, st, gr, po, ri)) dX1_admit_22 hP hD hS (⟨by rw [if_neg (fun q => c_3 q.2.2.1)], by rw [hAdm, if_neg (fun q => c_3 q.2.2.1)]⟩)
