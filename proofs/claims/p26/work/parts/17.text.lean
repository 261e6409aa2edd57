abbrev rm_X1_dismiss : Room := { frames := 2, cells := 0, slots := 0, locals := 43 }
set_option maxHeartbeats 4000000 in
set_option maxRecDepth 100000 in
theorem c_X1_dismiss (l : Launch) (D : va_G) (cy : Nat → ClassId) (h : Nat → Nat) (n : Nat) (hn : n ≤ 4) (x : HS) (hg : x.1.1 = nI n) (sz : Nat) (g : Int32) : Met l yX1_dismiss wsX1_dismiss rm_X1_dismiss (wrP D cy [.ref (h 0), .int g] (hotelW cy h x) sz) (va_Qi (fun (r : Int32) (u : HS) => r = hGr x g ∧ u = hLeave n x g) (wrB D (va_A (hotelW cy h x) sz) (fun u => hotelW cy h u)) (va_A (hotelW cy h x) sz)) 0 0 (va_A (hotelW cy h x) sz) := by
  obtain ⟨⟨gu, fl, se, pr, re, go, ch⟩, ⟨sg, bu, wa, ho, we, st, gr, po, ri⟩⟩ := x
  obtain rfl : gu = nI n := hg
  refine Mwi (cc := cX1_dismiss) (maxL := 4) (ty := .int) (by decide) rfl (Nat.le_of_ble_eq_true rfl) (fun _ _ _ => rfl) ?_
  intro p e s m args below meth c Q ls A hsz hF hK hP hD hA hl hret
  obtain ⟨hx, hb, hml, hown, hts⟩ := id hF
  have hown : s.vm.findClass RX1 = some m.cls := hown
  have hin_X1 : ∀ w ∈ u_ws RX1 TX1 16, w ∈ wsX1_dismiss := by decide +kernel
  have hl : lv_has ls 4 [(0, .ref (h 0)), (1, .int g)] := hl
  suffices key : ∀ (H : Heap) (locs : List Loc), va_P D vwCl (hotelW cy h ((nI n, fl, se, pr, re, go, ch), (sg, bu, wa, ho, we, st, gr, po, ri))) H → va_D A (hotelW cy h ((nI n, fl, se, pr, re, go, ch), (sg, bu, wa, ho, we, st, gr, po, ri))) → va_S A s.heap H locs → W p l e rm_X1_dismiss s m args below meth c H locs 0 0 Q (F0 m 0 ls []) from key s.heap [] hP hD va_S.rf
  intro H locs hP hD hS
  refine lv_aload_n hx hb dX1_dismiss_0 rfl (lv_at hl 0 rfl) ?_
  refine lv_iload_n hx hb dX1_dismiss_1 rfl (lv_at hl 1 rfl) ?_
  refine rd_V (As := [.int g]) (rest := []) hF (c_X1_isGuest l D cy h n hn ((nI n, fl, se, pr, re, go, ch), (sg, bu, wa, ho, we, st, gr, po, ri)) rfl g) (cwV 1 hts gX1_dismiss_X1_isGuest rfl rfl rfl (by decide +kernel) ⟨Nat.le_of_ble_eq_true rfl, Nat.le_of_ble_eq_true rfl⟩) hK hP 0 0 rfl rfl rfl rfl hl.1 rfl (Nat.le_of_ble_eq_true rfl) dX1_dismiss_2 ⟨Nat.le_of_ble_eq_true rfl, Nat.le_of_ble_eq_true rfl⟩ ?_
  refine lv_if_ne (tgt := 10) hx hb dX1_dismiss_5 (by decide) (fun c_1 => ?_) (fun c_1 => ?_)
  · have c_1 := zb_ne.mp c_1
    obtain ⟨jg, hjg, rfl⟩ := isG_of hn c_1
    refine lv_aload_n hx hb dX1_dismiss_10 rfl (lv_at hl 0 rfl) ?_
    refine va_get (ci := 0) (v := .ref (h 7)) (C := RX1) (T := TX1) (N := 16) hx hb hts hin_X1 hown hK hP 0 rfl rfl 13 (by decide) (hts (.fieldLink RX1 30 "ButtonGuests$Hotel" "grudges" "[I") (by decide +kernel)) (fun _ h9 => h9) rfl dX1_dismiss_11 ?_
    refine lv_iload_n hx hb dX1_dismiss_14 rfl (lv_at hl 1 rfl) ?_
    refine zz_iald hx hb hK hP 7 0 jg rfl rfl rfl ⟨by omega, Nat.le_of_ble_eq_true rfl⟩ dX1_dismiss_15 ?_
    refine lv_istore_n (lv' := [(2, .int (gr jg)), (0, .ref (h 0)), (1, .int (nI jg))]) hx hb dX1_dismiss_16 rfl hl (by decide) rfl (fun ls hl => ?_)
    refine lv_iload_n hx hb dX1_dismiss_17 rfl (lv_at hl 2 rfl) ?_
    refine lv_iconst (v := 1) hx hb dX1_dismiss_18 (by decide) ?_
    refine lv_iadd hx hb dX1_dismiss_19 ?_
    refine zz_top (y := nI (jg + 1)) (nI_1 jg) ?_
    refine lv_istore_n (lv' := [(3, .int (nI (jg + 1))), (2, .int (gr jg)), (0, .ref (h 0)), (1, .int (nI jg))]) hx hb dX1_dismiss_20 rfl hl (by decide) rfl (fun ls hl => ?_)
    have loop : ∀ (k i : Nat) (y : HS), i + 1 ≤ n → n ≤ i + k → y.1.1 = nI n → lpN sMv (n - 1 - i) i y = lpN sMv (n - 1 - jg) jg ((nI n, fl, se, pr, re, go, ch), (sg, bu, wa, ho, we, st, gr, po, ri)) → ∀ (H : Heap) (locs : List Loc) (ls : Array Slot), va_P D vwCl (hotelW cy h y) H → va_D A (hotelW cy h y) → va_S A s.heap H locs → lv_has ls 4 [(3, .int (nI (i + 1))), (2, .int (gr jg)), (0, .ref (h 0)), (1, .int (nI jg))] → W p l e rm_X1_dismiss s m args below meth c H locs 0 0 Q (F0 m 21 ls []) := by
      intro k
      induction k with
      | zero =>
        intro i y hi hk hgy hv
        exact absurd hk (by omega)
      | succ k ih =>
        intro i y hi hk hgy hv H locs ls hP hD hS hl
        refine lv_iload_n hx hb dX1_dismiss_21 rfl (lv_at hl 0 rfl) ?_
        refine lv_aload_n hx hb dX1_dismiss_22 rfl (lv_at hl 2 rfl) ?_
        refine va_get (ci := 0) (v := .int y.1.1) (C := RX1) (T := TX1) (N := 16) hx hb hts hin_X1 hown hK hP 0 rfl rfl 1 (by decide) (hts (.fieldLink RX1 49 "ButtonGuests$Hotel" "guests" "I") (by decide +kernel)) (fun _ h9 => h9) rfl dX1_dismiss_23 ?_
        refine zz_top (y := nI n) hgy ?_
        refine lv_icmp_ge (tgt := 43) hx hb dX1_dismiss_26 (by decide) (fun c_2 => ?_) (fun c_2 => ?_)
        · have c_2 : n ≤ i + 1 := (nI_leI (a := n) (b := i + 1) (by omega) (by omega)).mp c_2
          refine lv_aload_n hx hb dX1_dismiss_43 rfl (lv_at hl 2 rfl) ?_
          refine lv_dup hx hb dX1_dismiss_44 rfl ?_
          refine va_get (ci := 0) (v := .int y.1.1) (C := RX1) (T := TX1) (N := 16) hx hb hts hin_X1 hown hK hP 0 rfl rfl 1 (by decide) (hts (.fieldLink RX1 49 "ButtonGuests$Hotel" "guests" "I") (by decide +kernel)) (fun _ h9 => h9) rfl dX1_dismiss_45 ?_
          refine lv_iconst (v := 1) hx hb dX1_dismiss_48 (by decide) ?_
          refine lv_isub hx hb dX1_dismiss_49 ?_
          refine va_put (ci := 0) (v := .int (y.1.1 - 1)) (ty := .int) (C := RX1) (T := TX1) (N := 16) hx hb hts hin_X1 tyX1 tyX1_ok nmX1 hown hK hP hD hS 0 rfl rfl 1 (by decide) (hts (.fieldLink RX1 49 "ButtonGuests$Hotel" "guests" "I") (by decide +kernel)) (fun _ h9 => h9) rfl (by decide +kernel) rfl rfl (Nat.le_of_ble_eq_true rfl) dX1_dismiss_50 (fun H locs hP hD hS => ?_)
          have hP : va_P D vwCl (hotelW cy h ((y.1.1 - 1, y.1.2.1, y.1.2.2.1, y.1.2.2.2.1, y.1.2.2.2.2.1, y.1.2.2.2.2.2.1, y.1.2.2.2.2.2.2), (y.2.1, y.2.2.1, y.2.2.2.1, y.2.2.2.2.1, y.2.2.2.2.2.1, y.2.2.2.2.2.2.1, y.2.2.2.2.2.2.2.1, y.2.2.2.2.2.2.2.2.1, y.2.2.2.2.2.2.2.2.2))) H := hP
          have hD : va_D A (hotelW cy h ((y.1.1 - 1, y.1.2.1, y.1.2.2.1, y.1.2.2.2.1, y.1.2.2.2.2.1, y.1.2.2.2.2.2.1, y.1.2.2.2.2.2.2), (y.2.1, y.2.2.1, y.2.2.2.1, y.2.2.2.2.1, y.2.2.2.2.2.1, y.2.2.2.2.2.2.1, y.2.2.2.2.2.2.2.1, y.2.2.2.2.2.2.2.2.1, y.2.2.2.2.2.2.2.2.2))) := hD
          refine lv_iload_n hx hb dX1_dismiss_53 rfl (lv_at hl 1 rfl) ?_
          exact hret _ _ H locs _ ((y.1.1 - 1, y.1.2.1, y.1.2.2.1, y.1.2.2.2.1, y.1.2.2.2.2.1, y.1.2.2.2.2.2.1, y.1.2.2.2.2.2.2), (y.2.1, y.2.2.1, y.2.2.2.1, y.2.2.2.2.1, y.2.2.2.2.2.1, y.2.2.2.2.2.2.1, y.2.2.2.2.2.2.2.1, y.2.2.2.2.2.2.2.2.1, y.2.2.2.2.2.2.2.2.2)) dX1_dismiss_54 hP hD hS (⟨by simp only [hGr, if_pos c_1, nI_clamp (show jg < 2 ^ 31 by omega)], by have q := lpN_end (show n - 1 ≤ i by omega) hv; simp only [hLeave, hDis, if_pos c_1, nI_clamp (show jg < 2 ^ 31 by omega)]; rw [← q]; rfl⟩)
        · have c_2 : ¬ n ≤ i + 1 := fun q => c_2 ((nI_leI (a := n) (b := i + 1) (by omega) (by omega)).mpr q)
          refine lv_aload_n hx hb dX1_dismiss_29 rfl (lv_at hl 2 rfl) ?_
          refine lv_iload_n hx hb dX1_dismiss_30 rfl (lv_at hl 0 rfl) ?_
          refine lv_iload_n hx hb dX1_dismiss_31 rfl (lv_at hl 0 rfl) ?_
          refine lv_iconst (v := 1) hx hb dX1_dismiss_32 (by decide) ?_
          refine lv_isub hx hb dX1_dismiss_33 ?_
          refine zz_top (y := nI i) (nI_pred i) ?_
          refine wr_v (fun u => hotelW cy h u) (va_runV (As := [.int (nI (i + 1)), .int (nI i)]) (rest := []) hF (c_X1_moveGuest l D cy h n hn y hgy H.size (i + 1) i (by omega) (by omega)) (cwV 2 hts gX1_dismiss_X1_moveGuest rfl rfl rfl (by decide +kernel) ⟨Nat.le_of_ble_eq_true rfl, Nat.le_of_ble_eq_true rfl⟩) (wr_preV hK hP hD (zz_all _) 0 0 rfl rfl rfl) rfl rfl hl.1 rfl (lv_room (Nat.le_of_ble_eq_true rfl)) dX1_dismiss_34 ⟨Nat.le_of_ble_eq_true rfl, Nat.le_of_ble_eq_true rfl⟩) hP hD hS hA (zz_all _) (fun _ => zz_all _) (fun u_3 H locs e_4 hP hD hS => ?_)
          have hg_5 : u_3.1.1 = nI n := by rw [e_4]; exact hgy
          have hP : va_P D vwCl (hotelW cy h u_3) H := hP
          have hD : va_D A (hotelW cy h u_3) := hD
          refine lv_iinc (v := nI (i + 1 + 1)) (lv' := [(3, .int (nI (i + 1 + 1))), (2, .int (gr jg)), (0, .ref (h 0)), (1, .int (nI jg))]) hx hb dX1_dismiss_37 hl (k := 0) rfl (nI_add (i + 1) 1) (by decide) rfl (fun ls hl => ?_)
          refine lv_goto (tgt := 21) hx hb dX1_dismiss_40 (by decide) ?_
          exact ih (i + 1) u_3 (by omega) (by omega) hg_5 (lpN_next (by omega) hv e_4.symm) _ _ _ hP hD hS (lv_sub hl [0, 1, 2, 3] rfl)
    exact loop n jg _ (by omega) (by omega) rfl rfl _ _ _ hP hD hS (lv_sub hl [0, 1, 2, 3] rfl)
  · have c_1 := zb_eq.mp c_1
    refine lv_iconst (v := (-1)) hx hb dX1_dismiss_8 (by decide) ?_
    exact hret _ _ H locs _ ((nI n, fl, se, pr, re, go, ch), (sg, bu, wa, ho, we, st, gr, po, ri)) dX1_dismiss_9 hP hD hS (⟨by simp only [hGr, if_neg c_1], by simp only [hLeave, if_neg c_1]⟩)
abbrev rm_X1_standingBehind : Room := { frames := 3, cells := 0, slots := 0, locals := 68 }
set_option maxHeartbeats 4000000 in
set_option maxRecDepth 100000 in
theorem c_X1_standingBehind (l : Launch) (D : va_G) (cy : Nat → ClassId) (h : Nat → Nat) (n : Nat) (hn : n ≤ 4) (x : HS) (hg : x.1.1 = nI n) (sz : Nat) (g : Int32) : Met l yX1_standingBehind wsX1_standingBehind rm_X1_standingBehind (wrP D cy [.ref (h 0), .int g] (hotelW cy h x) sz) (va_Qi (fun (r : Int32) (u : HS) => r = hStandR n x g ∧ u = hStand n x g) (wrB D (va_A (hotelW cy h x) sz) (fun u => hotelW cy h u)) (va_A (hotelW cy h x) sz)) 0 0 (va_A (hotelW cy h x) sz) := by
  obtain ⟨⟨gu, fl, se, pr, re, go, ch⟩, ⟨sg, bu, wa, ho, we, st, gr, po, ri⟩⟩ := x
  obtain rfl : gu = nI n := hg
  refine Mwi (cc := cX1_standingBehind) (maxL := 2) (ty := .int) (by decide) rfl (Nat.le_of_ble_eq_true rfl) (fun _ _ _ => rfl) ?_
  intro p e s m args below meth c Q ls A hsz hF hK hP hD hA hl hret
  obtain ⟨hx, hb, hml, hown, hts⟩ := id hF
  have hown : s.vm.findClass RX1 = some m.cls := hown
  have hin_X1 : ∀ w ∈ u_ws RX1 TX1 16, w ∈ wsX1_standingBehind := by decide +kernel
  have hl : lv_has ls 2 [(0, .ref (h 0)), (1, .int g)] := hl
  suffices key : ∀ (H : Heap) (locs : List Loc), va_P D vwCl (hotelW cy h ((nI n, fl, se, pr, re, go, ch), (sg, bu, wa, ho, we, st, gr, po, ri))) H → va_D A (hotelW cy h ((nI n, fl, se, pr, re, go, ch), (sg, bu, wa, ho, we, st, gr, po, ri))) → va_S A s.heap H locs → W p l e rm_X1_standingBehind s m args below meth c H locs 0 0 Q (F0 m 0 ls []) from key s.heap [] hP hD va_S.rf
  intro H locs hP hD hS
  refine lv_aload_n hx hb dX1_standingBehind_0 rfl (lv_at hl 0 rfl) ?_
  refine lv_iload_n hx hb dX1_standingBehind_1 rfl (lv_at hl 1 rfl) ?_
  refine rd_V (As := [.int g]) (rest := []) hF (c_X1_isGuest l D cy h n hn ((nI n, fl, se, pr, re, go, ch), (sg, bu, wa, ho, we, st, gr, po, ri)) rfl g) (cwV 1 hts gX1_standingBehind_X1_isGuest rfl rfl rfl (by decide +kernel) ⟨Nat.le_of_ble_eq_true rfl, Nat.le_of_ble_eq_true rfl⟩) hK hP 0 0 rfl rfl rfl rfl hl.1 rfl (Nat.le_of_ble_eq_true rfl) dX1_standingBehind_2 ⟨Nat.le_of_ble_eq_true rfl, Nat.le_of_ble_eq_true rfl⟩ ?_
  refine lv_if_eq (tgt := 21) hx hb dX1_standingBehind_5 (by decide) (fun c_1 => ?_) (fun c_1 => ?_)
  · have c_1 := zb_eq.mp c_1
    refine lv_iconst (v := 0) hx hb dX1_standingBehind_21 (by decide) ?_
    exact hret _ _ H locs _ ((nI n, fl, se, pr, re, go, ch), (sg, bu, wa, ho, we, st, gr, po, ri)) dX1_standingBehind_22 hP hD hS (⟨by simp only [hStandR, if_neg c_1], by simp only [hStand, if_neg c_1]⟩)
  · have c_1 := zb_ne.mp c_1
    obtain ⟨jg, hjg, rfl⟩ := isG_of hn c_1
    refine lv_aload_n hx hb dX1_standingBehind_8 rfl (lv_at hl 0 rfl) ?_
    refine va_get (ci := 0) (v := .int fl) (C := RX1) (T := TX1) (N := 16) hx hb hts hin_X1 hown hK hP 0 rfl rfl 2 (by decide) (hts (.fieldLink RX1 53 "ButtonGuests$Hotel" "floor" "I") (by decide +kernel)) (fun _ h9 => h9) rfl dX1_standingBehind_9 ?_
    refine lv_aload_n hx hb dX1_standingBehind_12 rfl (lv_at hl 0 rfl) ?_
    refine va_get (ci := 0) (v := .ref (h 2)) (C := RX1) (T := TX1) (N := 16) hx hb hts hin_X1 hown hK hP 0 rfl rfl 8 (by decide) (hts (.fieldLink RX1 15 "ButtonGuests$Hotel" "button" "[I") (by decide +kernel)) (fun _ h9 => h9) rfl dX1_standingBehind_13 ?_
    refine lv_iload_n hx hb dX1_standingBehind_16 rfl (lv_at hl 1 rfl) ?_
    refine zz_iald hx hb hK hP 2 0 jg rfl rfl rfl ⟨by omega, Nat.le_of_ble_eq_true rfl⟩ dX1_standingBehind_17 ?_
    refine lv_icmp_ne (tgt := 23) hx hb dX1_standingBehind_18 (by decide) (fun c_2 => ?_) (fun c_2 => ?_)
    · have c_2 : ¬ fl = (bu jg) := c_2
      refine lv_aload_n hx hb dX1_standingBehind_23 rfl (lv_at hl 0 rfl) ?_
      refine lv_iload_n hx hb dX1_standingBehind_24 rfl (lv_at hl 1 rfl) ?_
      refine wr_v (fun u => hotelW cy h u) (va_runV (As := [.int (nI jg)]) (rest := []) hF (c_X1_goFor l D cy h n hn ((nI n, fl, se, pr, re, go, ch), (sg, bu, wa, ho, we, st, gr, po, ri)) rfl H.size jg (by omega)) (cwV 1 hts gX1_standingBehind_X1_goFor rfl rfl rfl (by decide +kernel) ⟨Nat.le_of_ble_eq_true rfl, Nat.le_of_ble_eq_true rfl⟩) (wr_preV hK hP hD (zz_all _) 0 0 rfl rfl rfl) rfl rfl hl.1 rfl (lv_room (Nat.le_of_ble_eq_true rfl)) dX1_standingBehind_25 ⟨Nat.le_of_ble_eq_true rfl, Nat.le_of_ble_eq_true rfl⟩) hP hD hS hA (zz_all _) (fun _ => zz_all _) (fun u_3 H locs e_4 hP hD hS => ?_)
      have hg_5 : u_3.1.1 = nI n := by rw [e_4]; exact rfl
      have hP : va_P D vwCl (hotelW cy h u_3) H := hP
      have hD : va_D A (hotelW cy h u_3) := hD
      refine lv_aload_n hx hb dX1_standingBehind_28 rfl (lv_at hl 0 rfl) ?_
      refine lv_aload_n hx hb dX1_standingBehind_29 rfl (lv_at hl 0 rfl) ?_
      refine va_get (ci := 0) (v := .int u_3.1.2.1) (C := RX1) (T := TX1) (N := 16) hx hb hts hin_X1 hown hK hP 0 rfl rfl 2 (by decide) (hts (.fieldLink RX1 53 "ButtonGuests$Hotel" "floor" "I") (by decide +kernel)) (fun _ h9 => h9) rfl dX1_standingBehind_30 ?_
      refine lv_iconst (v := 0) hx hb dX1_standingBehind_33 (by decide) ?_
      refine rd_V (As := [.int u_3.1.2.1, .int 0]) (rest := []) hF (c_X1_floorSet l D cy h n hn u_3 hg_5 u_3.1.2.1 0) (cwV 2 hts gX1_standingBehind_X1_floorSet rfl rfl rfl (by decide +kernel) ⟨Nat.le_of_ble_eq_true rfl, Nat.le_of_ble_eq_true rfl⟩) hK hP 0 0 rfl rfl rfl rfl hl.1 rfl (Nat.le_of_ble_eq_true rfl) dX1_standingBehind_34 ⟨Nat.le_of_ble_eq_true rfl, Nat.le_of_ble_eq_true rfl⟩ ?_
      exact hret _ _ H locs _ u_3 dX1_standingBehind_37 hP hD hS (⟨by simp only [hStandR, if_pos c_1, if_neg c_2, nI_clamp (show jg < 2 ^ 31 by omega), ← e_4], by simp only [hStand, if_pos c_1, if_neg c_2, nI_clamp (show jg < 2 ^ 31 by omega), ← e_4]⟩)
    · have c_2 : fl = (bu jg) := c_2
      refine lv_iconst (v := 0) hx hb dX1_standingBehind_21 (by decide) ?_
      exact hret _ _ H locs _ ((nI n, fl, se, pr, re, go, ch), (sg, bu, wa, ho, we, st, gr, po, ri)) dX1_standingBehind_22 hP hD hS (⟨by simp only [hStandR, if_pos c_1, if_pos c_2, nI_clamp (show jg < 2 ^ 31 by omega)], by simp only [hStand, if_pos c_1, if_pos c_2, nI_clamp (show jg < 2 ^ 31 by omega)]⟩)
abbrev rm_X1_copyFrom : Room := { frames := 1, cells := 0, slots := 0, locals := 60 }
set_option maxHeartbeats 4000000 in
set_option maxRecDepth 100000 in
theorem c_X1_copyFrom (l : Launch) (D : va_G) (cy : Nat → ClassId) (h h2 : Nat → Nat) (x y : HS) (sz : Nat) : Met l yX1_copyFrom wsX1_copyFrom rm_X1_copyFrom (wrP D cy [.ref (h 0), .ref (h2 0)] (hotelW cy h x ++ hotelW cy h2 y) sz) (va_Qv (fun u : HS => u = y) (wrB D (va_A (hotelW cy h x ++ hotelW cy h2 y) sz) (fun u => hotelW cy h u ++ hotelW cy h2 y)) (va_A (hotelW cy h x ++ hotelW cy h2 y) sz)) 0 0 (va_A (hotelW cy h x ++ hotelW cy h2 y) sz) := by
  refine Mwv (cc := cX1_copyFrom) (maxL := 2) (by decide) rfl (Nat.le_of_ble_eq_true rfl) ?_
  intro p e s m args below meth c Q ls A hsz hinit hF hK hP hD hA hl hret
  obtain ⟨hx, hb, hml, hown, hts⟩ := id hF
  have hown : s.vm.findClass RX1 = some m.cls := hown
  have hin_X1 : ∀ w ∈ u_ws RX1 TX1 16, w ∈ wsX1_copyFrom := by decide +kernel
  have hl : lv_has ls 2 [(0, .ref (h 0)), (1, .ref (h2 0))] := hl
  suffices key : ∀ (H : Heap) (locs : List Loc), va_P D vwCl (hotelW cy h x ++ hotelW cy h2 y) H → va_D A (hotelW cy h x ++ hotelW cy h2 y) → va_S A s.heap H locs → W p l e rm_X1_copyFrom s m args below meth c H locs 0 0 Q (F0 m 0 ls []) from key s.heap [] hP hD va_S.rf
  intro H locs hP hD hS
  refine lv_aload_n hx hb dX1_copyFrom_0 rfl (lv_at hl 0 rfl) ?_
  refine lv_aload_n hx hb dX1_copyFrom_1 rfl (lv_at hl 1 rfl) ?_
  refine va_get (ci := 0) (v := .int y.1.1) (C := RX1) (T := TX1) (N := 16) hx hb hts hin_X1 hown hK hP 10 rfl rfl 1 (by decide) (hts (.fieldLink RX1 49 "ButtonGuests$Hotel" "guests" "I") (by decide +kernel)) (fun _ h9 => h9) rfl dX1_copyFrom_2 ?_
  refine va_put (ci := 0) (v := .int y.1.1) (ty := .int) (C := RX1) (T := TX1) (N := 16) hx hb hts hin_X1 tyX1 tyX1_ok nmX1 hown hK hP hD hS 0 rfl rfl 1 (by decide) (hts (.fieldLink RX1 49 "ButtonGuests$Hotel" "guests" "I") (by decide +kernel)) (fun _ h9 => h9) rfl (by decide +kernel) rfl rfl (Nat.le_of_ble_eq_true rfl) dX1_copyFrom_5 (fun H locs hP hD hS => ?_)
  have hP : va_P D vwCl (hotelW cy h ((y.1.1, x.1.2.1, x.1.2.2.1, x.1.2.2.2.1, x.1.2.2.2.2.1, x.1.2.2.2.2.2.1, x.1.2.2.2.2.2.2), (x.2.1, x.2.2.1, x.2.2.2.1, x.2.2.2.2.1, x.2.2.2.2.2.1, x.2.2.2.2.2.2.1, x.2.2.2.2.2.2.2.1, x.2.2.2.2.2.2.2.2.1, x.2.2.2.2.2.2.2.2.2)) ++ hotelW cy h2 y) H := hP
  have hD : va_D A (hotelW cy h ((y.1.1, x.1.2.1, x.1.2.2.1, x.1.2.2.2.1, x.1.2.2.2.2.1, x.1.2.2.2.2.2.1, x.1.2.2.2.2.2.2), (x.2.1, x.2.2.1, x.2.2.2.1, x.2.2.2.2.1, x.2.2.2.2.2.1, x.2.2.2.2.2.2.1, x.2.2.2.2.2.2.2.1, x.2.2.2.2.2.2.2.2.1, x.2.2.2.2.2.2.2.2.2)) ++ hotelW cy h2 y) := hD
  refine lv_aload_n hx hb dX1_copyFrom_8 rfl (lv_at hl 0 rfl) ?_
  refine lv_aload_n hx hb dX1_copyFrom_9 rfl (lv_at hl 1 rfl) ?_
  refine va_get (ci := 0) (v := .int y.1.2.1) (C := RX1) (T := TX1) (N := 16) hx hb hts hin_X1 hown hK hP 10 rfl rfl 2 (by decide) (hts (.fieldLink RX1 53 "ButtonGuests$Hotel" "floor" "I") (by decide +kernel)) (fun _ h9 => h9) rfl dX1_copyFrom_10 ?_
  refine va_put (ci := 0) (v := .int y.1.2.1) (ty := .int) (C := RX1) (T := TX1) (N := 16) hx hb hts hin_X1 tyX1 tyX1_ok nmX1 hown hK hP hD hS 0 rfl rfl 2 (by decide) (hts (.fieldLink RX1 53 "ButtonGuests$Hotel" "floor" "I") (by decide +kernel)) (fun _ h9 => h9) rfl (by decide +kernel) rfl rfl (Nat.le_of_ble_eq_true rfl) dX1_copyFrom_13 (fun H locs hP hD hS => ?_)
  have hP : va_P D vwCl (hotelW cy h ((y.1.1, y.1.2.1, x.1.2.2.1, x.1.2.2.2.1, x.1.2.2.2.2.1, x.1.2.2.2.2.2.1, x.1.2.2.2.2.2.2), (x.2.1, x.2.2.1, x.2.2.2.1, x.2.2.2.2.1, x.2.2.2.2.2.1, x.2.2.2.2.2.2.1, x.2.2.2.2.2.2.2.1, x.2.2.2.2.2.2.2.2.1, x.2.2.2.2.2.2.2.2.2)) ++ hotelW cy h2 y) H := hP
  have hD : va_D A (hotelW cy h ((y.1.1, y.1.2.1, x.1.2.2.1, x.1.2.2.2.1, x.1.2.2.2.2.1, x.1.2.2.2.2.2.1, x.1.2.2.2.2.2.2), (x.2.1, x.2.2.1, x.2.2.2.1, x.2.2.2.2.1, x.2.2.2.2.2.1, x.2.2.2.2.2.2.1, x.2.2.2.2.2.2.2.1, x.2.2.2.2.2.2.2.2.1, x.2.2.2.2.2.2.2.2.2)) ++ hotelW cy h2 y) := hD
  refine lv_aload_n hx hb dX1_copyFrom_16 rfl (lv_at hl 0 rfl) ?_
  refine lv_aload_n hx hb dX1_copyFrom_17 rfl (lv_at hl 1 rfl) ?_
  refine va_get (ci := 0) (v := .int y.1.2.2.1) (C := RX1) (T := TX1) (N := 16) hx hb hts hin_X1 hown hK hP 10 rfl rfl 3 (by decide) (hts (.fieldLink RX1 56 "ButtonGuests$Hotel" "seconds" "I") (by decide +kernel)) (fun _ h9 => h9) rfl dX1_copyFrom_18 ?_
  refine va_put (ci := 0) (v := .int y.1.2.2.1) (ty := .int) (C := RX1) (T := TX1) (N := 16) hx hb hts hin_X1 tyX1 tyX1_ok nmX1 hown hK hP hD hS 0 rfl rfl 3 (by decide) (hts (.fieldLink RX1 56 "ButtonGuests$Hotel" "seconds" "I") (by decide +kernel)) (fun _ h9 => h9) rfl (by decide +kernel) rfl rfl (Nat.le_of_ble_eq_true rfl) dX1_copyFrom_21 (fun H locs hP hD hS => ?_)
  have hP : va_P D vwCl (hotelW cy h ((y.1.1, y.1.2.1, y.1.2.2.1, x.1.2.2.2.1, x.1.2.2.2.2.1, x.1.2.2.2.2.2.1, x.1.2.2.2.2.2.2), (x.2.1, x.2.2.1, x.2.2.2.1, x.2.2.2.2.1, x.2.2.2.2.2.1, x.2.2.2.2.2.2.1, x.2.2.2.2.2.2.2.1, x.2.2.2.2.2.2.2.2.1, x.2.2.2.2.2.2.2.2.2)) ++ hotelW cy h2 y) H := hP
  have hD : va_D A (hotelW cy h ((y.1.1, y.1.2.1, y.1.2.2.1, x.1.2.2.2.1, x.1.2.2.2.2.1, x.1.2.2.2.2.2.1, x.1.2.2.2.2.2.2), (x.2.1, x.2.2.1, x.2.2.2.1, x.2.2.2.2.1, x.2.2.2.2.2.1, x.2.2.2.2.2.2.1, x.2.2.2.2.2.2.2.1, x.2.2.2.2.2.2.2.2.1, x.2.2.2.2.2.2.2.2.2)) ++ hotelW cy h2 y) := hD
  refine lv_aload_n hx hb dX1_copyFrom_24 rfl (lv_at hl 0 rfl) ?_
  refine lv_aload_n hx hb dX1_copyFrom_25 rfl (lv_at hl 1 rfl) ?_
  refine va_get (ci := 0) (v := .int y.1.2.2.2.1) (C := RX1) (T := TX1) (N := 16) hx hb hts hin_X1 hown hK hP 10 rfl rfl 4 (by decide) (hts (.fieldLink RX1 59 "ButtonGuests$Hotel" "presses" "I") (by decide +kernel)) (fun _ h9 => h9) rfl dX1_copyFrom_26 ?_
  refine va_put (ci := 0) (v := .int y.1.2.2.2.1) (ty := .int) (C := RX1) (T := TX1) (N := 16) hx hb hts hin_X1 tyX1 tyX1_ok nmX1 hown hK hP hD hS 0 rfl rfl 4 (by decide) (hts (.fieldLink RX1 59 "ButtonGuests$Hotel" "presses" "I") (by decide +kernel)) (fun _ h9 => h9) rfl (by decide +kernel) rfl rfl (Nat.le_of_ble_eq_true rfl) dX1_copyFrom_29 (fun H locs hP hD hS => ?_)
  have hP : va_P D vwCl (hotelW cy h ((y.1.1, y.1.2.1, y.1.2.2.1, y.1.2.2.2.1, x.1.2.2.2.2.1, x.1.2.2.2.2.2.1, x.1.2.2.2.2.2.2), (x.2.1, x.2.2.1, x.2.2.2.1, x.2.2.2.2.1, x.2.2.2.2.2.1, x.2.2.2.2.2.2.1, x.2.2.2.2.2.2.2.1, x.2.2.2.2.2.2.2.2.1, x.2.2.2.2.2.2.2.2.2)) ++ hotelW cy h2 y) H := hP
  have hD : va_D A (hotelW cy h ((y.1.1, y.1.2.1, y.1.2.2.1, y.1.2.2.2.1, x.1.2.2.2.2.1, x.1.2.2.2.2.2.1, x.1.2.2.2.2.2.2), (x.2.1, x.2.2.1, x.2.2.2.1, x.2.2.2.2.1, x.2.2.2.2.2.1, x.2.2.2.2.2.2.1, x.2.2.2.2.2.2.2.1, x.2.2.2.2.2.2.2.2.1, x.2.2.2.2.2.2.2.2.2)) ++ hotelW cy h2 y) := hD
  refine lv_aload_n hx hb dX1_copyFrom_32 rfl (lv_at hl 0 rfl) ?_
  refine lv_aload_n hx hb dX1_copyFrom_33 rfl (lv_at hl 1 rfl) ?_
  refine va_get (ci := 0) (v := .int y.1.2.2.2.2.1) (C := RX1) (T := TX1) (N := 16) hx hb hts hin_X1 hown hK hP 10 rfl rfl 5 (by decide) (hts (.fieldLink RX1 62 "ButtonGuests$Hotel" "refusals" "I") (by decide +kernel)) (fun _ h9 => h9) rfl dX1_copyFrom_34 ?_
  refine va_put (ci := 0) (v := .int y.1.2.2.2.2.1) (ty := .int) (C := RX1) (T := TX1) (N := 16) hx hb hts hin_X1 tyX1 tyX1_ok nmX1 hown hK hP hD hS 0 rfl rfl 5 (by decide) (hts (.fieldLink RX1 62 "ButtonGuests$Hotel" "refusals" "I") (by decide +kernel)) (fun _ h9 => h9) rfl (by decide +kernel) rfl rfl (Nat.le_of_ble_eq_true rfl) dX1_copyFrom_37 (fun H locs hP hD hS => ?_)
  have hP : va_P D vwCl (hotelW cy h ((y.1.1, y.1.2.1, y.1.2.2.1, y.1.2.2.2.1, y.1.2.2.2.2.1, x.1.2.2.2.2.2.1, x.1.2.2.2.2.2.2), (x.2.1, x.2.2.1, x.2.2.2.1, x.2.2.2.2.1, x.2.2.2.2.2.1, x.2.2.2.2.2.2.1, x.2.2.2.2.2.2.2.1, x.2.2.2.2.2.2.2.2.1, x.2.2.2.2.2.2.2.2.2)) ++ hotelW cy h2 y) H := hP
  have hD : va_D A (hotelW cy h ((y.1.1, y.1.2.1, y.1.2.2.1, y.1.2.2.2.1, y.1.2.2.2.2.1, x.1.2.2.2.2.2.1, x.1.2.2.2.2.2.2), (x.2.1, x.2.2.1, x.2.2.2.1, x.2.2.2.2.1, x.2.2.2.2.2.1, x.2.2.2.2.2.2.1, x.2.2.2.2.2.2.2.1, x.2.2.2.2.2.2.2.2.1, x.2.2.2.2.2.2.2.2.2)) ++ hotelW cy h2 y) := hD
  refine lv_aload_n hx hb dX1_copyFrom_40 rfl (lv_at hl 0 rfl) ?_
  refine lv_aload_n hx hb dX1_copyFrom_41 rfl (lv_at hl 1 rfl) ?_
  refine va_get (ci := 0) (v := .int y.1.2.2.2.2.2.1) (C := RX1) (T := TX1) (N := 16) hx hb hts hin_X1 hown hK hP 10 rfl rfl 6 (by decide) (hts (.fieldLink RX1 65 "ButtonGuests$Hotel" "floorsGone" "I") (by decide +kernel)) (fun _ h9 => h9) rfl dX1_copyFrom_42 ?_
  refine va_put (ci := 0) (v := .int y.1.2.2.2.2.2.1) (ty := .int) (C := RX1) (T := TX1) (N := 16) hx hb hts hin_X1 tyX1 tyX1_ok nmX1 hown hK hP hD hS 0 rfl rfl 6 (by decide) (hts (.fieldLink RX1 65 "ButtonGuests$Hotel" "floorsGone" "I") (by decide +kernel)) (fun _ h9 => h9) rfl (by decide +kernel) rfl rfl (Nat.le_of_ble_eq_true rfl) dX1_copyFrom_45 (fun H locs hP hD hS => ?_)
  have hP : va_P D vwCl (hotelW cy h ((y.1.1, y.1.2.1, y.1.2.2.1, y.1.2.2.2.1, y.1.2.2.2.2.1, y.1.2.2.2.2.2.1, x.1.2.2.2.2.2.2), (x.2.1, x.2.2.1, x.2.2.2.1, x.2.2.2.2.1, x.2.2.2.2.2.1, x.2.2.2.2.2.2.1, x.2.2.2.2.2.2.2.1, x.2.2.2.2.2.2.2.2.1, x.2.2.2.2.2.2.2.2.2)) ++ hotelW cy h2 y) H := hP
  have hD : va_D A (hotelW cy h ((y.1.1, y.1.2.1, y.1.2.2.1, y.1.2.2.2.1, y.1.2.2.2.2.1, y.1.2.2.2.2.2.1, x.1.2.2.2.2.2.2), (x.2.1, x.2.2.1, x.2.2.2.1, x.2.2.2.2.1, x.2.2.2.2.2.1, x.2.2.2.2.2.2.1, x.2.2.2.2.2.2.2.1, x.2.2.2.2.2.2.2.2.1, x.2.2.2.2.2.2.2.2.2)) ++ hotelW cy h2 y) := hD
  refine lv_aload_n hx hb dX1_copyFrom_48 rfl (lv_at hl 0 rfl) ?_
  refine lv_aload_n hx hb dX1_copyFrom_49 rfl (lv_at hl 1 rfl) ?_
  refine va_get (ci := 0) (v := .int y.1.2.2.2.2.2.2) (C := RX1) (T := TX1) (N := 16) hx hb hts hin_X1 hown hK hP 10 rfl rfl 7 (by decide) (hts (.fieldLink RX1 68 "ButtonGuests$Hotel" "cameHome" "I") (by decide +kernel)) (fun _ h9 => h9) rfl dX1_copyFrom_50 ?_
  refine va_put (ci := 0) (v := .int y.1.2.2.2.2.2.2) (ty := .int) (C := RX1) (T := TX1) (N := 16) hx hb hts hin_X1 tyX1 tyX1_ok nmX1 hown hK hP hD hS 0 rfl rfl 7 (by decide) (hts (.fieldLink RX1 68 "ButtonGuests$Hotel" "cameHome" "I") (by decide +kernel)) (fun _ h9 => h9) rfl (by decide +kernel) rfl rfl (Nat.le_of_ble_eq_true rfl) dX1_copyFrom_53 (fun H locs hP hD hS => ?_)
  have hP : va_P D vwCl (hotelW cy h ((y.1.1, y.1.2.1, y.1.2.2.1, y.1.2.2.2.1, y.1.2.2.2.2.1, y.1.2.2.2.2.2.1, y.1.2.2.2.2.2.2), (x.2.1, x.2.2.1, x.2.2.2.1, x.2.2.2.2.1, x.2.2.2.2.2.1, x.2.2.2.2.2.2.1, x.2.2.2.2.2.2.2.1, x.2.2.2.2.2.2.2.2.1, x.2.2.2.2.2.2.2.2.2)) ++ hotelW cy h2 y) H := hP
  have hD : va_D A (hotelW cy h ((y.1.1, y.1.2.1, y.1.2.2.1, y.1.2.2.2.1, y.1.2.2.2.2.1, y.1.2.2.2.2.2.1, y.1.2.2.2.2.2.2), (x.2.1, x.2.2.1, x.2.2.2.1, x.2.2.2.2.1, x.2.2.2.2.2.1, x.2.2.2.2.2.2.1, x.2.2.2.2.2.2.2.1, x.2.2.2.2.2.2.2.2.1, x.2.2.2.2.2.2.2.2.2)) ++ hotelW cy h2 y) := hD
  refine lv_aload_n hx hb dX1_copyFrom_56 rfl (lv_at hl 1 rfl) ?_
  refine va_get (ci := 0) (v := .ref (h2 1)) (C := RX1) (T := TX1) (N := 16) hx hb hts hin_X1 hown hK hP 10 rfl rfl 0 (by decide) (hts (.fieldLink RX1 9 "ButtonGuests$Hotel" "settings" "[I") (by decide +kernel)) (fun _ h9 => h9) rfl dX1_copyFrom_57 ?_
  refine lv_iconst (v := 0) hx hb dX1_copyFrom_60 (by decide) ?_
  refine lv_aload_n hx hb dX1_copyFrom_61 rfl (lv_at hl 0 rfl) ?_
  refine va_get (ci := 0) (v := .ref (h 1)) (C := RX1) (T := TX1) (N := 16) hx hb hts hin_X1 hown hK hP 0 rfl rfl 0 (by decide) (hts (.fieldLink RX1 9 "ButtonGuests$Hotel" "settings" "[I") (by decide +kernel)) (fun _ h9 => h9) rfl dX1_copyFrom_62 ?_
  refine lv_iconst (v := 0) hx hb dX1_copyFrom_65 (by decide) ?_
  refine lv_aload_n hx hb dX1_copyFrom_66 rfl (lv_at hl 0 rfl) ?_
  refine va_get (ci := 0) (v := .ref (h 1)) (C := RX1) (T := TX1) (N := 16) hx hb hts hin_X1 hown hK hP 0 rfl rfl 0 (by decide) (hts (.fieldLink RX1 9 "ButtonGuests$Hotel" "settings" "[I") (by decide +kernel)) (fun _ h9 => h9) rfl dX1_copyFrom_67 ?_
  refine va_alen (v := 3) hx hb hK hP 1 0 rfl rfl rfl dX1_copyFrom_70 ?_
  refine zz_copy hx hb (hml.trans hl.1.symm) hown (hts (.methodLink RX1 71 arraycopyName) (by decide +kernel)) (hts (.native arraycopyName) (by decide +kernel)) (hts (.static arraycopyName) (by decide +kernel)) (hts (.initialized "java/lang/System") (by decide +kernel)) hK hP hD hS 11 1 0 3 rfl rfl rfl rfl (by decide) (Nat.le_of_ble_eq_true rfl) (Nat.le_of_ble_eq_true rfl) dX1_copyFrom_71 (fun H locs hP hD hS => ?_)
  have hP : va_P D vwCl (hotelW cy h ((y.1.1, y.1.2.1, y.1.2.2.1, y.1.2.2.2.1, y.1.2.2.2.2.1, y.1.2.2.2.2.2.1, y.1.2.2.2.2.2.2), (y.2.1, x.2.2.1, x.2.2.2.1, x.2.2.2.2.1, x.2.2.2.2.2.1, x.2.2.2.2.2.2.1, x.2.2.2.2.2.2.2.1, x.2.2.2.2.2.2.2.2.1, x.2.2.2.2.2.2.2.2.2)) ++ hotelW cy h2 y) H := hP
  have hD : va_D A (hotelW cy h ((y.1.1, y.1.2.1, y.1.2.2.1, y.1.2.2.2.1, y.1.2.2.2.2.1, y.1.2.2.2.2.2.1, y.1.2.2.2.2.2.2), (y.2.1, x.2.2.1, x.2.2.2.1, x.2.2.2.2.1, x.2.2.2.2.2.1, x.2.2.2.2.2.2.1, x.2.2.2.2.2.2.2.1, x.2.2.2.2.2.2.2.2.1, x.2.2.2.2.2.2.2.2.2)) ++ hotelW cy h2 y) := hD
  refine lv_aload_n hx hb dX1_copyFrom_74 rfl (lv_at hl 1 rfl) ?_
  refine va_get (ci := 0) (v := .ref (h2 2)) (C := RX1) (T := TX1) (N := 16) hx hb hts hin_X1 hown hK hP 10 rfl rfl 8 (by decide) (hts (.fieldLink RX1 15 "ButtonGuests$Hotel" "button" "[I") (by decide +kernel)) (fun _ h9 => h9) rfl dX1_copyFrom_75 ?_
  refine lv_iconst (v := 0) hx hb dX1_copyFrom_78 (by decide) ?_
  refine lv_aload_n hx hb dX1_copyFrom_79 rfl (lv_at hl 0 rfl) ?_
  refine va_get (ci := 0) (v := .ref (h 2)) (C := RX1) (T := TX1) (N := 16) hx hb hts hin_X1 hown hK hP 0 rfl rfl 8 (by decide) (hts (.fieldLink RX1 15 "ButtonGuests$Hotel" "button" "[I") (by decide +kernel)) (fun _ h9 => h9) rfl dX1_copyFrom_80 ?_
  refine lv_iconst (v := 0) hx hb dX1_copyFrom_83 (by decide) ?_
  refine lv_iconst (v := 4) hx hb dX1_copyFrom_84 (by decide) ?_
  refine zz_copy hx hb (hml.trans hl.1.symm) hown (hts (.methodLink RX1 71 arraycopyName) (by decide +kernel)) (hts (.native arraycopyName) (by decide +kernel)) (hts (.static arraycopyName) (by decide +kernel)) (hts (.initialized "java/lang/System") (by decide +kernel)) hK hP hD hS 12 2 0 4 rfl rfl rfl rfl (by decide) (Nat.le_of_ble_eq_true rfl) (Nat.le_of_ble_eq_true rfl) dX1_copyFrom_85 (fun H locs hP hD hS => ?_)
  have hP : va_P D vwCl (hotelW cy h ((y.1.1, y.1.2.1, y.1.2.2.1, y.1.2.2.2.1, y.1.2.2.2.2.1, y.1.2.2.2.2.2.1, y.1.2.2.2.2.2.2), (y.2.1, y.2.2.1, x.2.2.2.1, x.2.2.2.2.1, x.2.2.2.2.2.1, x.2.2.2.2.2.2.1, x.2.2.2.2.2.2.2.1, x.2.2.2.2.2.2.2.2.1, x.2.2.2.2.2.2.2.2.2)) ++ hotelW cy h2 y) H := hP
  have hD : va_D A (hotelW cy h ((y.1.1, y.1.2.1, y.1.2.2.1, y.1.2.2.2.1, y.1.2.2.2.2.1, y.1.2.2.2.2.2.1, y.1.2.2.2.2.2.2), (y.2.1, y.2.2.1, x.2.2.2.1, x.2.2.2.2.1, x.2.2.2.2.2.1, x.2.2.2.2.2.2.1, x.2.2.2.2.2.2.2.1, x.2.2.2.2.2.2.2.2.1, x.2.2.2.2.2.2.2.2.2)) ++ hotelW cy h2 y) := hD
  refine lv_aload_n hx hb dX1_copyFrom_88 rfl (lv_at hl 1 rfl) ?_
  refine va_get (ci := 0) (v := .ref (h2 3)) (C := RX1) (T := TX1) (N := 16) hx hb hts hin_X1 hown hK hP 10 rfl rfl 9 (by decide) (hts (.fieldLink RX1 18 "ButtonGuests$Hotel" "waitingFloor" "[I") (by decide +kernel)) (fun _ h9 => h9) rfl dX1_copyFrom_89 ?_
  refine lv_iconst (v := 0) hx hb dX1_copyFrom_92 (by decide) ?_
  refine lv_aload_n hx hb dX1_copyFrom_93 rfl (lv_at hl 0 rfl) ?_
  refine va_get (ci := 0) (v := .ref (h 3)) (C := RX1) (T := TX1) (N := 16) hx hb hts hin_X1 hown hK hP 0 rfl rfl 9 (by decide) (hts (.fieldLink RX1 18 "ButtonGuests$Hotel" "waitingFloor" "[I") (by decide +kernel)) (fun _ h9 => h9) rfl dX1_copyFrom_94 ?_
  refine lv_iconst (v := 0) hx hb dX1_copyFrom_97 (by decide) ?_
  refine lv_iconst (v := 4) hx hb dX1_copyFrom_98 (by decide) ?_
  refine zz_copy hx hb (hml.trans hl.1.symm) hown (hts (.methodLink RX1 71 arraycopyName) (by decide +kernel)) (hts (.native arraycopyName) (by decide +kernel)) (hts (.static arraycopyName) (by decide +kernel)) (hts (.initialized "java/lang/System") (by decide +kernel)) hK hP hD hS 13 3 0 4 rfl rfl rfl rfl (by decide) (Nat.le_of_ble_eq_true rfl) (Nat.le_of_ble_eq_true rfl) dX1_copyFrom_99 (fun H locs hP hD hS => ?_)
  have hP : va_P D vwCl (hotelW cy h ((y.1.1, y.1.2.1, y.1.2.2.1, y.1.2.2.2.1, y.1.2.2.2.2.1, y.1.2.2.2.2.2.1, y.1.2.2.2.2.2.2), (y.2.1, y.2.2.1, y.2.2.2.1, x.2.2.2.2.1, x.2.2.2.2.2.1, x.2.2.2.2.2.2.1, x.2.2.2.2.2.2.2.1, x.2.2.2.2.2.2.2.2.1, x.2.2.2.2.2.2.2.2.2)) ++ hotelW cy h2 y) H := hP
  have hD : va_D A (hotelW cy h ((y.1.1, y.1.2.1, y.1.2.2.1, y.1.2.2.2.1, y.1.2.2.2.2.1, y.1.2.2.2.2.2.1, y.1.2.2.2.2.2.2), (y.2.1, y.2.2.1, y.2.2.2.1, x.2.2.2.2.1, x.2.2.2.2.2.1, x.2.2.2.2.2.2.1, x.2.2.2.2.2.2.2.1, x.2.2.2.2.2.2.2.2.1, x.2.2.2.2.2.2.2.2.2)) ++ hotelW cy h2 y) := hD
  refine lv_aload_n hx hb dX1_copyFrom_102 rfl (lv_at hl 1 rfl) ?_
  refine va_get (ci := 0) (v := .ref (h2 4)) (C := RX1) (T := TX1) (N := 16) hx hb hts hin_X1 hown hK hP 10 rfl rfl 10 (by decide) (hts (.fieldLink RX1 21 "ButtonGuests$Hotel" "home" "[I") (by decide +kernel)) (fun _ h9 => h9) rfl dX1_copyFrom_103 ?_
  refine lv_iconst (v := 0) hx hb dX1_copyFrom_106 (by decide) ?_
  refine lv_aload_n hx hb dX1_copyFrom_107 rfl (lv_at hl 0 rfl) ?_
  refine va_get (ci := 0) (v := .ref (h 4)) (C := RX1) (T := TX1) (N := 16) hx hb hts hin_X1 hown hK hP 0 rfl rfl 10 (by decide) (hts (.fieldLink RX1 21 "ButtonGuests$Hotel" "home" "[I") (by decide +kernel)) (fun _ h9 => h9) rfl dX1_copyFrom_108 ?_
  refine lv_iconst (v := 0) hx hb dX1_copyFrom_111 (by decide) ?_
  refine lv_iconst (v := 4) hx hb dX1_copyFrom_112 (by decide) ?_
  refine zz_copy hx hb (hml.trans hl.1.symm) hown (hts (.methodLink RX1 71 arraycopyName) (by decide +kernel)) (hts (.native arraycopyName) (by decide +kernel)) (hts (.static arraycopyName) (by decide +kernel)) (hts (.initialized "java/lang/System") (by decide +kernel)) hK hP hD hS 14 4 0 4 rfl rfl rfl rfl (by decide) (Nat.le_of_ble_eq_true rfl) (Nat.le_of_ble_eq_true rfl) dX1_copyFrom_113 (fun H locs hP hD hS => ?_)
  have hP : va_P D vwCl (hotelW cy h ((y.1.1, y.1.2.1, y.1.2.2.1, y.1.2.2.2.1, y.1.2.2.2.2.1, y.1.2.2.2.2.2.1, y.1.2.2.2.2.2.2), (y.2.1, y.2.2.1, y.2.2.2.1, y.2.2.2.2.1, x.2.2.2.2.2.1, x.2.2.2.2.2.2.1, x.2.2.2.2.2.2.2.1, x.2.2.2.2.2.2.2.2.1, x.2.2.2.2.2.2.2.2.2)) ++ hotelW cy h2 y) H := hP
  have hD : va_D A (hotelW cy h ((y.1.1, y.1.2.1, y.1.2.2.1, y.1.2.2.2.1, y.1.2.2.2.2.1, y.1.2.2.2.2.2.1, y.1.2.2.2.2.2.2), (y.2.1, y.2.2.1, y.2.2.2.1, y.2.2.2.2.1, x.2.2.2.2.2.1, x.2.2.2.2.2.2.1, x.2.2.2.2.2.2.2.1, x.2.2.2.2.2.2.2.2.1, x.2.2.2.2.2.2.2.2.2)) ++ hotelW cy h2 y) := hD
  refine lv_aload_n hx hb dX1_copyFrom_116 rfl (lv_at hl 1 rfl) ?_
  refine va_get (ci := 0) (v := .ref (h2 5)) (C := RX1) (T := TX1) (N := 16) hx hb hts hin_X1 hown hK hP 10 rfl rfl 11 (by decide) (hts (.fieldLink RX1 24 "ButtonGuests$Hotel" "weight" "[I") (by decide +kernel)) (fun _ h9 => h9) rfl dX1_copyFrom_117 ?_
  refine lv_iconst (v := 0) hx hb dX1_copyFrom_120 (by decide) ?_
  refine lv_aload_n hx hb dX1_copyFrom_121 rfl (lv_at hl 0 rfl) ?_
  refine va_get (ci := 0) (v := .ref (h 5)) (C := RX1) (T := TX1) (N := 16) hx hb hts hin_X1 hown hK hP 0 rfl rfl 11 (by decide) (hts (.fieldLink RX1 24 "ButtonGuests$Hotel" "weight" "[I") (by decide +kernel)) (fun _ h9 => h9) rfl dX1_copyFrom_122 ?_
  refine lv_iconst (v := 0) hx hb dX1_copyFrom_125 (by decide) ?_
  refine lv_iconst (v := 4) hx hb dX1_copyFrom_126 (by decide) ?_
  refine zz_copy hx hb (hml.trans hl.1.symm) hown (hts (.methodLink RX1 71 arraycopyName) (by decide +kernel)) (hts (.native arraycopyName) (by decide +kernel)) (hts (.static arraycopyName) (by decide +kernel)) (hts (.initialized "java/lang/System") (by decide +kernel)) hK hP hD hS 15 5 0 4 rfl rfl rfl rfl (by decide) (Nat.le_of_ble_eq_true rfl) (Nat.le_of_ble_eq_true rfl) dX1_copyFrom_127 (fun H locs hP hD hS => ?_)
  have hP : va_P D vwCl (hotelW cy h ((y.1.1, y.1.2.1, y.1.2.2.1, y.1.2.2.2.1, y.1.2.2.2.2.1, y.1.2.2.2.2.2.1, y.1.2.2.2.2.2.2), (y.2.1, y.2.2.1, y.2.2.2.1, y.2.2.2.2.1, y.2.2.2.2.2.1, x.2.2.2.2.2.2.1, x.2.2.2.2.2.2.2.1, x.2.2.2.2.2.2.2.2.1, x.2.2.2.2.2.2.2.2.2)) ++ hotelW cy h2 y) H := hP
  have hD : va_D A (hotelW cy h ((y.1.1, y.1.2.1, y.1.2.2.1, y.1.2.2.2.1, y.1.2.2.2.2.1, y.1.2.2.2.2.2.1, y.1.2.2.2.2.2.2), (y.2.1, y.2.2.1, y.2.2.2.1, y.2.2.2.2.1, y.2.2.2.2.2.1, x.2.2.2.2.2.2.1, x.2.2.2.2.2.2.2.1, x.2.2.2.2.2.2.2.2.1, x.2.2.2.2.2.2.2.2.2)) ++ hotelW cy h2 y) := hD
  refine lv_aload_n hx hb dX1_copyFrom_130 rfl (lv_at hl 1 rfl) ?_
  refine va_get (ci := 0) (v := .ref (h2 6)) (C := RX1) (T := TX1) (N := 16) hx hb hts hin_X1 hown hK hP 10 rfl rfl 12 (by decide) (hts (.fieldLink RX1 27 "ButtonGuests$Hotel" "state" "[I") (by decide +kernel)) (fun _ h9 => h9) rfl dX1_copyFrom_131 ?_
  refine lv_iconst (v := 0) hx hb dX1_copyFrom_134 (by decide) ?_
  refine lv_aload_n hx hb dX1_copyFrom_135 rfl (lv_at hl 0 rfl) ?_
  refine va_get (ci := 0) (v := .ref (h 6)) (C := RX1) (T := TX1) (N := 16) hx hb hts hin_X1 hown hK hP 0 rfl rfl 12 (by decide) (hts (.fieldLink RX1 27 "ButtonGuests$Hotel" "state" "[I") (by decide +kernel)) (fun _ h9 => h9) rfl dX1_copyFrom_136 ?_
  refine lv_iconst (v := 0) hx hb dX1_copyFrom_139 (by decide) ?_
  refine lv_iconst (v := 4) hx hb dX1_copyFrom_140 (by decide) ?_
  refine zz_copy hx hb (hml.trans hl.1.symm) hown (hts (.methodLink RX1 71 arraycopyName) (by decide +kernel)) (hts (.native arraycopyName) (by decide +kernel)) (hts (.static arraycopyName) (by decide +kernel)) (hts (.initialized "java/lang/System") (by decide +kernel)) hK hP hD hS 16 6 0 4 rfl rfl rfl rfl (by decide) (Nat.le_of_ble_eq_true rfl) (Nat.le_of_ble_eq_true rfl) dX1_copyFrom_141 (fun H locs hP hD hS => ?_)
  have hP : va_P D vwCl (hotelW cy h ((y.1.1, y.1.2.1, y.1.2.2.1, y.1.2.2.2.1, y.1.2.2.2.2.1, y.1.2.2.2.2.2.1, y.1.2.2.2.2.2.2), (y.2.1, y.2.2.1, y.2.2.2.1, y.2.2.2.2.1, y.2.2.2.2.2.1, y.2.2.2.2.2.2.1, x.2.2.2.2.2.2.2.1, x.2.2.2.2.2.2.2.2.1, x.2.2.2.2.2.2.2.2.2)) ++ hotelW cy h2 y) H := hP
  have hD : va_D A (hotelW cy h ((y.1.1, y.1.2.1, y.1.2.2.1, y.1.2.2.2.1, y.1.2.2.2.2.1, y.1.2.2.2.2.2.1, y.1.2.2.2.2.2.2), (y.2.1, y.2.2.1, y.2.2.2.1, y.2.2.2.2.1, y.2.2.2.2.2.1, y.2.2.2.2.2.2.1, x.2.2.2.2.2.2.2.1, x.2.2.2.2.2.2.2.2.1, x.2.2.2.2.2.2.2.2.2)) ++ hotelW cy h2 y) := hD
  refine lv_aload_n hx hb dX1_copyFrom_144 rfl (lv_at hl 1 rfl) ?_
  refine va_get (ci := 0) (v := .ref (h2 7)) (C := RX1) (T := TX1) (N := 16) hx hb hts hin_X1 hown hK hP 10 rfl rfl 13 (by decide) (hts (.fieldLink RX1 30 "ButtonGuests$Hotel" "grudges" "[I") (by decide +kernel)) (fun _ h9 => h9) rfl dX1_copyFrom_145 ?_
  refine lv_iconst (v := 0) hx hb dX1_copyFrom_148 (by decide) ?_
  refine lv_aload_n hx hb dX1_copyFrom_149 rfl (lv_at hl 0 rfl) ?_
  refine va_get (ci := 0) (v := .ref (h 7)) (C := RX1) (T := TX1) (N := 16) hx hb hts hin_X1 hown hK hP 0 rfl rfl 13 (by decide) (hts (.fieldLink RX1 30 "ButtonGuests$Hotel" "grudges" "[I") (by decide +kernel)) (fun _ h9 => h9) rfl dX1_copyFrom_150 ?_
  refine lv_iconst (v := 0) hx hb dX1_copyFrom_153 (by decide) ?_
  refine lv_iconst (v := 4) hx hb dX1_copyFrom_154 (by decide) ?_
  refine zz_copy hx hb (hml.trans hl.1.symm) hown (hts (.methodLink RX1 71 arraycopyName) (by decide +kernel)) (hts (.native arraycopyName) (by decide +kernel)) (hts (.static arraycopyName) (by decide +kernel)) (hts (.initialized "java/lang/System") (by decide +kernel)) hK hP hD hS 17 7 0 4 rfl rfl rfl rfl (by decide) (Nat.le_of_ble_eq_true rfl) (Nat.le_of_ble_eq_true rfl) dX1_copyFrom_155 (fun H locs hP hD hS => ?_)
  have hP : va_P D vwCl (hotelW cy h ((y.1.1, y.1.2.1, y.1.2.2.1, y.1.2.2.2.1, y.1.2.2.2.2.1, y.1.2.2.2.2.2.1, y.1.2.2.2.2.2.2), (y.2.1, y.2.2.1, y.2.2.2.1, y.2.2.2.2.1, y.2.2.2.2.2.1, y.2.2.2.2.2.2.1, y.2.2.2.2.2.2.2.1, x.2.2.2.2.2.2.2.2.1, x.2.2.2.2.2.2.2.2.2)) ++ hotelW cy h2 y) H := hP
  have hD : va_D A (hotelW cy h ((y.1.1, y.1.2.1, y.1.2.2.1, y.1.2.2.2.1, y.1.2.2.2.2.1, y.1.2.2.2.2.2.1, y.1.2.2.2.2.2.2), (y.2.1, y.2.2.1, y.2.2.2.1, y.2.2.2.2.1, y.2.2.2.2.2.1, y.2.2.2.2.2.2.1, y.2.2.2.2.2.2.2.1, x.2.2.2.2.2.2.2.2.1, x.2.2.2.2.2.2.2.2.2)) ++ hotelW cy h2 y) := hD
  refine lv_aload_n hx hb dX1_copyFrom_158 rfl (lv_at hl 1 rfl) ?_
  refine va_get (ci := 0) (v := .ref (h2 8)) (C := RX1) (T := TX1) (N := 16) hx hb hts hin_X1 hown hK hP 10 rfl rfl 14 (by decide) (hts (.fieldLink RX1 33 "ButtonGuests$Hotel" "pressesOf" "[I") (by decide +kernel)) (fun _ h9 => h9) rfl dX1_copyFrom_159 ?_
  refine lv_iconst (v := 0) hx hb dX1_copyFrom_162 (by decide) ?_
  refine lv_aload_n hx hb dX1_copyFrom_163 rfl (lv_at hl 0 rfl) ?_
  refine va_get (ci := 0) (v := .ref (h 8)) (C := RX1) (T := TX1) (N := 16) hx hb hts hin_X1 hown hK hP 0 rfl rfl 14 (by decide) (hts (.fieldLink RX1 33 "ButtonGuests$Hotel" "pressesOf" "[I") (by decide +kernel)) (fun _ h9 => h9) rfl dX1_copyFrom_164 ?_
  refine lv_iconst (v := 0) hx hb dX1_copyFrom_167 (by decide) ?_
  refine lv_iconst (v := 4) hx hb dX1_copyFrom_168 (by decide) ?_
  refine zz_copy hx hb (hml.trans hl.1.symm) hown (hts (.methodLink RX1 71 arraycopyName) (by decide +kernel)) (hts (.native arraycopyName) (by decide +kernel)) (hts (.static arraycopyName) (by decide +kernel)) (hts (.initialized "java/lang/System") (by decide +kernel)) hK hP hD hS 18 8 0 4 rfl rfl rfl rfl (by decide) (Nat.le_of_ble_eq_true rfl) (Nat.le_of_ble_eq_true rfl) dX1_copyFrom_169 (fun H locs hP hD hS => ?_)
  have hP : va_P D vwCl (hotelW cy h ((y.1.1, y.1.2.1, y.1.2.2.1, y.1.2.2.2.1, y.1.2.2.2.2.1, y.1.2.2.2.2.2.1, y.1.2.2.2.2.2.2), (y.2.1, y.2.2.1, y.2.2.2.1, y.2.2.2.2.1, y.2.2.2.2.2.1, y.2.2.2.2.2.2.1, y.2.2.2.2.2.2.2.1, y.2.2.2.2.2.2.2.2.1, x.2.2.2.2.2.2.2.2.2)) ++ hotelW cy h2 y) H := hP
  have hD : va_D A (hotelW cy h ((y.1.1, y.1.2.1, y.1.2.2.1, y.1.2.2.2.1, y.1.2.2.2.2.1, y.1.2.2.2.2.2.1, y.1.2.2.2.2.2.2), (y.2.1, y.2.2.1, y.2.2.2.1, y.2.2.2.2.1, y.2.2.2.2.2.1, y.2.2.2.2.2.2.1, y.2.2.2.2.2.2.2.1, y.2.2.2.2.2.2.2.2.1, x.2.2.2.2.2.2.2.2.2)) ++ hotelW cy h2 y) := hD
  refine lv_aload_n hx hb dX1_copyFrom_172 rfl (lv_at hl 1 rfl) ?_
  refine va_get (ci := 0) (v := .ref (h2 9)) (C := RX1) (T := TX1) (N := 16) hx hb hts hin_X1 hown hK hP 10 rfl rfl 15 (by decide) (hts (.fieldLink RX1 36 "ButtonGuests$Hotel" "ridden" "[I") (by decide +kernel)) (fun _ h9 => h9) rfl dX1_copyFrom_173 ?_
  refine lv_iconst (v := 0) hx hb dX1_copyFrom_176 (by decide) ?_
  refine lv_aload_n hx hb dX1_copyFrom_177 rfl (lv_at hl 0 rfl) ?_
  refine va_get (ci := 0) (v := .ref (h 9)) (C := RX1) (T := TX1) (N := 16) hx hb hts hin_X1 hown hK hP 0 rfl rfl 15 (by decide) (hts (.fieldLink RX1 36 "ButtonGuests$Hotel" "ridden" "[I") (by decide +kernel)) (fun _ h9 => h9) rfl dX1_copyFrom_178 ?_
  refine lv_iconst (v := 0) hx hb dX1_copyFrom_181 (by decide) ?_
  refine lv_iconst (v := 4) hx hb dX1_copyFrom_182 (by decide) ?_
  refine zz_copy hx hb (hml.trans hl.1.symm) hown (hts (.methodLink RX1 71 arraycopyName) (by decide +kernel)) (hts (.native arraycopyName) (by decide +kernel)) (hts (.static arraycopyName) (by decide +kernel)) (hts (.initialized "java/lang/System") (by decide +kernel)) hK hP hD hS 19 9 0 4 rfl rfl rfl rfl (by decide) (Nat.le_of_ble_eq_true rfl) (Nat.le_of_ble_eq_true rfl) dX1_copyFrom_183 (fun H locs hP hD hS => ?_)
  have hP : va_P D vwCl (hotelW cy h ((y.1.1, y.1.2.1, y.1.2.2.1, y.1.2.2.2.1, y.1.2.2.2.2.1, y.1.2.2.2.2.2.1, y.1.2.2.2.2.2.2), (y.2.1, y.2.2.1, y.2.2.2.1, y.2.2.2.2.1, y.2.2.2.2.2.1, y.2.2.2.2.2.2.1, y.2.2.2.2.2.2.2.1, y.2.2.2.2.2.2.2.2.1, y.2.2.2.2.2.2.2.2.2)) ++ hotelW cy h2 y) H := hP
  have hD : va_D A (hotelW cy h ((y.1.1, y.1.2.1, y.1.2.2.1, y.1.2.2.2.1, y.1.2.2.2.2.1, y.1.2.2.2.2.2.1, y.1.2.2.2.2.2.2), (y.2.1, y.2.2.1, y.2.2.2.1, y.2.2.2.2.1, y.2.2.2.2.2.1, y.2.2.2.2.2.2.1, y.2.2.2.2.2.2.2.1, y.2.2.2.2.2.2.2.2.1, y.2.2.2.2.2.2.2.2.2)) ++ hotelW cy h2 y) := hD
  exact hret _ _ H locs y dX1_copyFrom_186 hP hD hS (rfl)
abbrev rm_X2_isFull : Room := { frames := 0, cells := 0, slots := 0, locals := 0 }
set_option maxHeartbeats 4000000 in
set_option maxRecDepth 100000 in
theorem c_X2_isFull (l : Launch) (D : va_G) (cy : Nat → ClassId) (t : Nat → Nat) (z : Nat) (hz : z ≤ 120) (f : Nat → Int32) : Met l yX2_isFull wsX2_isFull rm_X2_isFull (rdP D cy [.ref (t 0)] (textW cy t (nI z) f)) (QcRead (zb (¬ z < 120))) 0 0 (fun _ => False) := by
  refine Mrd (cc := cX2_isFull) (maxL := 1) (ty := .boolean) (by decide) rfl (Nat.le_of_ble_eq_true rfl) zb_nar ?_
  intro p e s m args below meth c Q ls hF hK hP hl hret
  obtain ⟨hx, hb, hml, hown, hts⟩ := id hF
  have hown : s.vm.findClass RX2 = some m.cls := hown
  have hin_X2 : ∀ w ∈ u_ws RX2 TX2 2, w ∈ wsX2_isFull := by decide +kernel
  have hl : lv_has ls 1 [(0, .ref (t 0))] := hl
  refine lv_aload_n hx hb dX2_isFull_0 rfl (lv_at hl 0 rfl) ?_
  refine va_get (ci := 1) (v := .int (nI z)) (C := RX2) (T := TX2) (N := 2) hx hb hts hin_X2 hown hK hP 0 rfl rfl 1 (by decide) (hts (.fieldLink RX2 15 "ButtonGuests$HotelText" "length" "I") (by decide +kernel)) (fun _ h9 => h9) rfl dX2_isFull_1 ?_
  refine lv_aload_n hx hb dX2_isFull_4 rfl (lv_at hl 0 rfl) ?_
  refine va_get (ci := 1) (v := .ref (t 1)) (C := RX2) (T := TX2) (N := 2) hx hb hts hin_X2 hown hK hP 0 rfl rfl 0 (by decide) (hts (.fieldLink RX2 11 "ButtonGuests$HotelText" "signs" "[C") (by decide +kernel)) (fun _ h9 => h9) rfl dX2_isFull_5 ?_
  refine va_alen (v := 120) hx hb hK hP 1 1 rfl rfl rfl dX2_isFull_8 ?_
  refine lv_icmp_lt (tgt := 16) hx hb dX2_isFull_9 (by decide) (fun c_1 => ?_) (fun c_1 => ?_)
  · have c_1 : z < 120 := (nI_ltI (a := z) (b := 120) (by omega) (by omega)).mp c_1
    refine lv_iconst (v := 0) hx hb dX2_isFull_16 (by decide) ?_
    exact zz_top (zb_f (fun q => q c_1)) (hret _ _ dX2_isFull_17)
  · have c_1 : ¬ z < 120 := fun q => c_1 ((nI_ltI (a := z) (b := 120) (by omega) (by omega)).mpr q)
    refine lv_iconst (v := 1) hx hb dX2_isFull_12 (by decide) ?_
    refine lv_goto (tgt := 17) hx hb dX2_isFull_13 (by decide) ?_
    exact zz_top (zb_t c_1) (hret _ _ dX2_isFull_17)
abbrev rm_X2_size : Room := { frames := 0, cells := 0, slots := 0, locals := 0 }
set_option maxHeartbeats 4000000 in
set_option maxRecDepth 100000 in
theorem c_X2_size (l : Launch) (D : va_G) (cy : Nat → ClassId) (t : Nat → Nat) (z : Nat) (hz : z ≤ 120) (f : Nat → Int32) : Met l yX2_size wsX2_size rm_X2_size (rdP D cy [.ref (t 0)] (textW cy t (nI z) f)) (QcRead (nI z)) 0 0 (fun _ => False) := by
  refine Mrd (cc := cX2_size) (maxL := 1) (ty := .int) (by decide) rfl (Nat.le_of_ble_eq_true rfl) rfl ?_
  intro p e s m args below meth c Q ls hF hK hP hl hret
  obtain ⟨hx, hb, hml, hown, hts⟩ := id hF
  have hown : s.vm.findClass RX2 = some m.cls := hown
  have hin_X2 : ∀ w ∈ u_ws RX2 TX2 2, w ∈ wsX2_size := by decide +kernel
  have hl : lv_has ls 1 [(0, .ref (t 0))] := hl
  refine lv_aload_n hx hb dX2_size_0 rfl (lv_at hl 0 rfl) ?_
  refine va_get (ci := 1) (v := .int (nI z)) (C := RX2) (T := TX2) (N := 2) hx hb hts hin_X2 hown hK hP 0 rfl rfl 1 (by decide) (hts (.fieldLink RX2 15 "ButtonGuests$HotelText" "length" "I") (by decide +kernel)) (fun _ h9 => h9) rfl dX2_size_1 ?_
  exact hret _ _ dX2_size_4
abbrev rm_X2_signAt : Room := { frames := 0, cells := 0, slots := 0, locals := 0 }
set_option maxHeartbeats 4000000 in
set_option maxRecDepth 100000 in
theorem c_X2_signAt (l : Launch) (D : va_G) (cy : Nat → ClassId) (t : Nat → Nat) (z : Nat) (hz : z ≤ 120) (f : Nat → Int32) (i : Int32) : Met l yX2_signAt wsX2_signAt rm_X2_signAt (rdP D cy [.ref (t 0), .int i] (textW cy t (nI z) f)) (QcRead (vSign z f i)) 0 0 (fun _ => False) := by
  refine Mrd (cc := cX2_signAt) (maxL := 2) (ty := .int) (by decide) rfl (Nat.le_of_ble_eq_true rfl) rfl ?_
  intro p e s m args below meth c Q ls hF hK hP hl hret
  obtain ⟨hx, hb, hml, hown, hts⟩ := id hF
  have hown : s.vm.findClass RX2 = some m.cls := hown
  have hin_X2 : ∀ w ∈ u_ws RX2 TX2 2, w ∈ wsX2_signAt := by decide +kernel
  have hl : lv_has ls 2 [(0, .ref (t 0)), (1, .int i)] := hl
  refine lv_iload_n hx hb dX2_signAt_0 rfl (lv_at hl 1 rfl) ?_
  refine lv_if_lt (tgt := 21) hx hb dX2_signAt_1 (by decide) (fun c_1 => ?_) (fun c_1 => ?_)
  · have c_1 : i < 0 := c_1
    refine lv_iconst (v := (-1)) hx hb dX2_signAt_21 (by decide) ?_
    exact zz_top (by simp only [vSign, if_pos c_1]) (hret _ _ dX2_signAt_22)
  · have c_1 : ¬ i < 0 := c_1
    refine lv_iload_n hx hb dX2_signAt_4 rfl (lv_at hl 1 rfl) ?_
    refine lv_aload_n hx hb dX2_signAt_5 rfl (lv_at hl 0 rfl) ?_
    refine va_get (ci := 1) (v := .int (nI z)) (C := RX2) (T := TX2) (N := 2) hx hb hts hin_X2 hown hK hP 0 rfl rfl 1 (by decide) (hts (.fieldLink RX2 15 "ButtonGuests$HotelText" "length" "I") (by decide +kernel)) (fun _ h9 => h9) rfl dX2_signAt_6 ?_
    refine lv_icmp_ge (tgt := 21) hx hb dX2_signAt_9 (by decide) (fun c_2 => ?_) (fun c_2 => ?_)
    · have c_2 : (nI z) ≤ i := c_2
      refine lv_iconst (v := (-1)) hx hb dX2_signAt_21 (by decide) ?_
      exact zz_top (by simp only [vSign, if_neg c_1, if_pos c_2]) (hret _ _ dX2_signAt_22)
    · have c_2 : ¬ (nI z) ≤ i := c_2
      obtain ⟨jg, hjg, rfl⟩ := isG_of2 c_1 c_2
      refine lv_aload_n hx hb dX2_signAt_12 rfl (lv_at hl 0 rfl) ?_
      refine va_get (ci := 1) (v := .ref (t 1)) (C := RX2) (T := TX2) (N := 2) hx hb hts hin_X2 hown hK hP 0 rfl rfl 0 (by decide) (hts (.fieldLink RX2 11 "ButtonGuests$HotelText" "signs" "[C") (by decide +kernel)) (fun _ h9 => h9) rfl dX2_signAt_13 ?_
      refine lv_iload_n hx hb dX2_signAt_16 rfl (lv_at hl 1 rfl) ?_
      refine zz_cald hx hb hK hP 1 1 jg rfl rfl rfl ⟨by omega, Nat.le_of_ble_eq_true rfl⟩ dX2_signAt_17 ?_
      refine lv_goto (tgt := 22) hx hb dX2_signAt_18 (by decide) ?_
      exact zz_top (by simp only [vSign, if_neg c_1, if_neg c_2, nI_clamp (show jg < 2 ^ 31 by omega)]) (hret _ _ dX2_signAt_22)
abbrev rm_X2_digitAt : Room := { frames := 1, cells := 0, slots := 0, locals := 21 }
set_option maxHeartbeats 4000000 in
set_option maxRecDepth 100000 in
theorem c_X2_digitAt (l : Launch) (D : va_G) (cy : Nat → ClassId) (t : Nat → Nat) (z : Nat) (hz : z ≤ 120) (f : Nat → Int32) (i : Int32) : Met l yX2_digitAt wsX2_digitAt rm_X2_digitAt (rdP D cy [.ref (t 0), .int i] (textW cy t (nI z) f)) (QcRead (vDig z f i)) 0 0 (fun _ => False) := by
  refine Mrd (cc := cX2_digitAt) (maxL := 3) (ty := .int) (by decide) rfl (Nat.le_of_ble_eq_true rfl) rfl ?_
  intro p e s m args below meth c Q ls hF hK hP hl hret
  obtain ⟨hx, hb, hml, hown, hts⟩ := id hF
  have hown : s.vm.findClass RX2 = some m.cls := hown
  have hl : lv_has ls 3 [(0, .ref (t 0)), (1, .int i)] := hl
  refine lv_aload_n hx hb dX2_digitAt_0 rfl (lv_at hl 0 rfl) ?_
  refine lv_iload_n hx hb dX2_digitAt_1 rfl (lv_at hl 1 rfl) ?_
  refine rd_V (As := [.int i]) (rest := []) hF (c_X2_signAt l D cy t z hz f i) (cwV 1 hts gX2_digitAt_X2_signAt rfl rfl rfl (by decide +kernel) ⟨Nat.le_of_ble_eq_true rfl, Nat.le_of_ble_eq_true rfl⟩) hK hP 0 1 rfl rfl rfl rfl hl.1 rfl (Nat.le_of_ble_eq_true rfl) dX2_digitAt_2 ⟨Nat.le_of_ble_eq_true rfl, Nat.le_of_ble_eq_true rfl⟩ ?_
  refine lv_istore_n (lv' := [(2, .int (vSign z f i)), (0, .ref (t 0)), (1, .int i)]) hx hb dX2_digitAt_5 rfl hl (by decide) rfl (fun ls hl => ?_)
  refine lv_iload_n hx hb dX2_digitAt_6 rfl (lv_at hl 0 rfl) ?_
  refine lv_bipush (v := 48) hx hb dX2_digitAt_7 (by decide) ?_
  refine lv_icmp_lt (tgt := 25) hx hb dX2_digitAt_9 (by decide) (fun c_1 => ?_) (fun c_1 => ?_)
  · have c_1 : (vSign z f i) < 48 := c_1
    refine lv_iconst (v := (-1)) hx hb dX2_digitAt_25 (by decide) ?_
    exact zz_top (by simp only [vDig, if_pos c_1]) (hret _ _ dX2_digitAt_26)
  · have c_1 : ¬ (vSign z f i) < 48 := c_1
    refine lv_iload_n hx hb dX2_digitAt_12 rfl (lv_at hl 0 rfl) ?_
    refine lv_bipush (v := 57) hx hb dX2_digitAt_13 (by decide) ?_
    refine lv_icmp_gt (tgt := 25) hx hb dX2_digitAt_15 (by decide) (fun c_2 => ?_) (fun c_2 => ?_)
    · have c_2 : 57 < (vSign z f i) := c_2
      refine lv_iconst (v := (-1)) hx hb dX2_digitAt_25 (by decide) ?_
      exact zz_top (by simp only [vDig, if_neg c_1, if_pos c_2]) (hret _ _ dX2_digitAt_26)
    · have c_2 : ¬ 57 < (vSign z f i) := c_2
      refine lv_iload_n hx hb dX2_digitAt_18 rfl (lv_at hl 0 rfl) ?_
      refine lv_bipush (v := 48) hx hb dX2_digitAt_19 (by decide) ?_
      refine lv_isub hx hb dX2_digitAt_21 ?_
      refine lv_goto (tgt := 26) hx hb dX2_digitAt_22 (by decide) ?_
      exact zz_top (by simp only [vDig, if_neg c_1, if_neg c_2]) (hret _ _ dX2_digitAt_26)
abbrev rm_X2_digitsOf : Room := { frames := 0, cells := 0, slots := 0, locals := 0 }
set_option maxHeartbeats 4000000 in
set_option maxRecDepth 100000 in
theorem c_X2_digitsOf (l : Launch) (D : va_G) (cy : Nat → ClassId) (i : Int32) : Met l yX2_digitsOf wsX2_digitsOf rm_X2_digitsOf (rdP D cy [.int i] ([])) (QcRead (vDof i)) 0 0 (fun _ => False) := by
  refine Mrd (cc := cX2_digitsOf) (maxL := 1) (ty := .int) (by decide) rfl (Nat.le_of_ble_eq_true rfl) rfl ?_
  intro p e s m args below meth c Q ls hF hK hP hl hret
  obtain ⟨hx, hb, hml, hown, hts⟩ := id hF
  have hown : s.vm.findClass RX2 = some m.cls := hown
  have hl : lv_has ls 1 [(0, .int i)] := hl
  refine lv_iload_n hx hb dX2_digitsOf_0 rfl (lv_at hl 0 rfl) ?_
  by_cases c_1 : i = 98
  · refine lv_tableIn (off := 89) (tgt := 90) hx hb dX2_digitsOf_1 (by rw [c_1]; decide) (by rw [c_1]; decide) (by rw [c_1]; rfl) (by decide) ?_
    refine lv_iconst (v := 0) hx hb dX2_digitsOf_90 (by decide) ?_
    exact zz_top (by rw [c_1]; decide) (hret _ _ dX2_digitsOf_91)
  by_cases c_2 : i = 99
  · refine lv_tableIn (off := 91) (tgt := 92) hx hb dX2_digitsOf_1 (by rw [c_2]; decide) (by rw [c_2]; decide) (by rw [c_2]; rfl) (by decide) ?_
    refine lv_iconst (v := (-1)) hx hb dX2_digitsOf_92 (by decide) ?_
    exact zz_top (by rw [c_2]; decide) (hret _ _ dX2_digitsOf_93)
  by_cases c_3 : i = 100
  · refine lv_tableIn (off := 91) (tgt := 92) hx hb dX2_digitsOf_1 (by rw [c_3]; decide) (by rw [c_3]; decide) (by rw [c_3]; rfl) (by decide) ?_
    refine lv_iconst (v := (-1)) hx hb dX2_digitsOf_92 (by decide) ?_
    exact zz_top (by rw [c_3]; decide) (hret _ _ dX2_digitsOf_93)
  by_cases c_4 : i = 101
  · refine lv_tableIn (off := 85) (tgt := 86) hx hb dX2_digitsOf_1 (by rw [c_4]; decide) (by rw [c_4]; decide) (by rw [c_4]; rfl) (by decide) ?_
    refine lv_iconst (v := 3) hx hb dX2_digitsOf_86 (by decide) ?_
    exact zz_top (by rw [c_4]; decide) (hret _ _ dX2_digitsOf_87)
  by_cases c_5 : i = 102
  · refine lv_tableIn (off := 91) (tgt := 92) hx hb dX2_digitsOf_1 (by rw [c_5]; decide) (by rw [c_5]; decide) (by rw [c_5]; rfl) (by decide) ?_
    refine lv_iconst (v := (-1)) hx hb dX2_digitsOf_92 (by decide) ?_
    exact zz_top (by rw [c_5]; decide) (hret _ _ dX2_digitsOf_93)
  by_cases c_6 : i = 103
  · refine lv_tableIn (off := 83) (tgt := 84) hx hb dX2_digitsOf_1 (by rw [c_6]; decide) (by rw [c_6]; decide) (by rw [c_6]; rfl) (by decide) ?_
    refine lv_iconst (v := 4) hx hb dX2_digitsOf_84 (by decide) ?_
    exact zz_top (by rw [c_6]; decide) (hret _ _ dX2_digitsOf_85)
  by_cases c_7 : i = 104
  · refine lv_tableIn (off := 91) (tgt := 92) hx hb dX2_digitsOf_1 (by rw [c_7]; decide) (by rw [c_7]; decide) (by rw [c_7]; rfl) (by decide) ?_
    refine lv_iconst (v := (-1)) hx hb dX2_digitsOf_92 (by decide) ?_
    exact zz_top (by rw [c_7]; decide) (hret _ _ dX2_digitsOf_93)
  by_cases c_8 : i = 105
  · refine lv_tableIn (off := 91) (tgt := 92) hx hb dX2_digitsOf_1 (by rw [c_8]; decide) (by rw [c_8]; decide) (by rw [c_8]; rfl) (by decide) ?_
    refine lv_iconst (v := (-1)) hx hb dX2_digitsOf_92 (by decide) ?_
    exact zz_top (by rw [c_8]; decide) (hret _ _ dX2_digitsOf_93)
  by_cases c_9 : i = 106
  · refine lv_tableIn (off := 91) (tgt := 92) hx hb dX2_digitsOf_1 (by rw [c_9]; decide) (by rw [c_9]; decide) (by rw [c_9]; rfl) (by decide) ?_
    refine lv_iconst (v := (-1)) hx hb dX2_digitsOf_92 (by decide) ?_
    exact zz_top (by rw [c_9]; decide) (hret _ _ dX2_digitsOf_93)
  by_cases c_10 : i = 107
  · refine lv_tableIn (off := 91) (tgt := 92) hx hb dX2_digitsOf_1 (by rw [c_10]; decide) (by rw [c_10]; decide) (by rw [c_10]; rfl) (by decide) ?_
    refine lv_iconst (v := (-1)) hx hb dX2_digitsOf_92 (by decide) ?_
    exact zz_top (by rw [c_10]; decide) (hret _ _ dX2_digitsOf_93)
  by_cases c_11 : i = 108
  · refine lv_tableIn (off := 87) (tgt := 88) hx hb dX2_digitsOf_1 (by rw [c_11]; decide) (by rw [c_11]; decide) (by rw [c_11]; rfl) (by decide) ?_
    refine lv_iconst (v := 1) hx hb dX2_digitsOf_88 (by decide) ?_
    exact zz_top (by rw [c_11]; decide) (hret _ _ dX2_digitsOf_89)
  by_cases c_12 : i = 109
  · refine lv_tableIn (off := 91) (tgt := 92) hx hb dX2_digitsOf_1 (by rw [c_12]; decide) (by rw [c_12]; decide) (by rw [c_12]; rfl) (by decide) ?_
    refine lv_iconst (v := (-1)) hx hb dX2_digitsOf_92 (by decide) ?_
    exact zz_top (by rw [c_12]; decide) (hret _ _ dX2_digitsOf_93)
  by_cases c_13 : i = 110
  · refine lv_tableIn (off := 91) (tgt := 92) hx hb dX2_digitsOf_1 (by rw [c_13]; decide) (by rw [c_13]; decide) (by rw [c_13]; rfl) (by decide) ?_
    refine lv_iconst (v := (-1)) hx hb dX2_digitsOf_92 (by decide) ?_
    exact zz_top (by rw [c_13]; decide) (hret _ _ dX2_digitsOf_93)
  by_cases c_14 : i = 111
  · refine lv_tableIn (off := 91) (tgt := 92) hx hb dX2_digitsOf_1 (by rw [c_14]; decide) (by rw [c_14]; decide) (by rw [c_14]; rfl) (by decide) ?_
    refine lv_iconst (v := (-1)) hx hb dX2_digitsOf_92 (by decide) ?_
    exact zz_top (by rw [c_14]; decide) (hret _ _ dX2_digitsOf_93)
  by_cases c_15 : i = 112
  · refine lv_tableIn (off := 87) (tgt := 88) hx hb dX2_digitsOf_1 (by rw [c_15]; decide) (by rw [c_15]; decide) (by rw [c_15]; rfl) (by decide) ?_
    refine lv_iconst (v := 1) hx hb dX2_digitsOf_88 (by decide) ?_
    exact zz_top (by rw [c_15]; decide) (hret _ _ dX2_digitsOf_89)
  by_cases c_16 : i = 113
  · refine lv_tableIn (off := 91) (tgt := 92) hx hb dX2_digitsOf_1 (by rw [c_16]; decide) (by rw [c_16]; decide) (by rw [c_16]; rfl) (by decide) ?_
    refine lv_iconst (v := (-1)) hx hb dX2_digitsOf_92 (by decide) ?_
    exact zz_top (by rw [c_16]; decide) (hret _ _ dX2_digitsOf_93)
  by_cases c_17 : i = 114
  · refine lv_tableIn (off := 89) (tgt := 90) hx hb dX2_digitsOf_1 (by rw [c_17]; decide) (by rw [c_17]; decide) (by rw [c_17]; rfl) (by decide) ?_
    refine lv_iconst (v := 0) hx hb dX2_digitsOf_90 (by decide) ?_
    exact zz_top (by rw [c_17]; decide) (hret _ _ dX2_digitsOf_91)
  have hsw : (i).toInt < 98 ∨ 114 < (i).toInt := by
    have q0 := fun (v9 : Int32) (h : ¬ i = v9) => fun (q : (i).toInt = v9.toInt) => h (Int32.toInt_inj.mp q)
    have q_c_1 : ¬ (i).toInt = 98 := q0 98 c_1
    have q_c_2 : ¬ (i).toInt = 99 := q0 99 c_2
    have q_c_3 : ¬ (i).toInt = 100 := q0 100 c_3
    have q_c_4 : ¬ (i).toInt = 101 := q0 101 c_4
    have q_c_5 : ¬ (i).toInt = 102 := q0 102 c_5
    have q_c_6 : ¬ (i).toInt = 103 := q0 103 c_6
    have q_c_7 : ¬ (i).toInt = 104 := q0 104 c_7
    have q_c_8 : ¬ (i).toInt = 105 := q0 105 c_8
    have q_c_9 : ¬ (i).toInt = 106 := q0 106 c_9
    have q_c_10 : ¬ (i).toInt = 107 := q0 107 c_10
    have q_c_11 : ¬ (i).toInt = 108 := q0 108 c_11
    have q_c_12 : ¬ (i).toInt = 109 := q0 109 c_12
    have q_c_13 : ¬ (i).toInt = 110 := q0 110 c_13
    have q_c_14 : ¬ (i).toInt = 111 := q0 111 c_14
    have q_c_15 : ¬ (i).toInt = 112 := q0 112 c_15
    have q_c_16 : ¬ (i).toInt = 113 := q0 113 c_16
    have q_c_17 : ¬ (i).toInt = 114 := q0 114 c_17
    omega
  refine lv_tableOut (tgt := 92) hx hb dX2_digitsOf_1 hsw (by decide) ?_
  refine lv_iconst (v := (-1)) hx hb dX2_digitsOf_92 (by decide) ?_
  exact zz_top (by simp only [vDof, if_neg c_1, if_neg c_2, if_neg c_3, if_neg c_4, if_neg c_5, if_neg c_6, if_neg c_7, if_neg c_8, if_neg c_9, if_neg c_10, if_neg c_11, if_neg c_12, if_neg c_13, if_neg c_14, if_neg c_15, if_neg c_16, if_neg c_17]) (hret _ _ dX2_digitsOf_93)
abbrev rm_X2_isCommand : Room := { frames := 1, cells := 0, slots := 0, locals := 21 }
set_option maxHeartbeats 4000000 in
set_option maxRecDepth 100000 in
theorem c_X2_isCommand (l : Launch) (D : va_G) (cy : Nat → ClassId) (t : Nat → Nat) (z : Nat) (hz : z ≤ 120) (f : Nat → Int32) (i : Int32) : Met l yX2_isCommand wsX2_isCommand rm_X2_isCommand (rdP D cy [.ref (t 0), .int i] (textW cy t (nI z) f)) (QcRead (zb (¬ vDof (vSign z f i) = -1))) 0 0 (fun _ => False) := by
  refine Mrd (cc := cX2_isCommand) (maxL := 2) (ty := .boolean) (by decide) rfl (Nat.le_of_ble_eq_true rfl) zb_nar ?_
  intro p e s m args below meth c Q ls hF hK hP hl hret
  obtain ⟨hx, hb, hml, hown, hts⟩ := id hF
  have hown : s.vm.findClass RX2 = some m.cls := hown
  have hl : lv_has ls 2 [(0, .ref (t 0)), (1, .int i)] := hl
  refine lv_aload_n hx hb dX2_isCommand_0 rfl (lv_at hl 0 rfl) ?_
  refine lv_iload_n hx hb dX2_isCommand_1 rfl (lv_at hl 1 rfl) ?_
  refine rd_V (As := [.int i]) (rest := []) hF (c_X2_signAt l D cy t z hz f i) (cwV 1 hts gX2_isCommand_X2_signAt rfl rfl rfl (by decide +kernel) ⟨Nat.le_of_ble_eq_true rfl, Nat.le_of_ble_eq_true rfl⟩) hK hP 0 1 rfl rfl rfl rfl hl.1 rfl (Nat.le_of_ble_eq_true rfl) dX2_isCommand_2 ⟨Nat.le_of_ble_eq_true rfl, Nat.le_of_ble_eq_true rfl⟩ ?_
  refine rd_S (As := [.int (vSign z f i)]) (rest := []) hF (c_X2_digitsOf l D cy (vSign z f i)) (va_cwS 1 hts gX2_isCommand_X2_digitsOf rfl rfl rfl (by decide +kernel) ⟨Nat.le_of_ble_eq_true rfl, Nat.le_of_ble_eq_true rfl⟩) hK (fun k q h => by simp at h) rfl hl.1 rfl (Nat.le_of_ble_eq_true rfl) dX2_isCommand_5 ⟨Nat.le_of_ble_eq_true rfl, Nat.le_of_ble_eq_true rfl⟩ ?_
  refine lv_iconst (v := (-1)) hx hb dX2_isCommand_8 (by decide) ?_
  refine lv_icmp_eq (tgt := 16) hx hb dX2_isCommand_9 (by decide) (fun c_1 => ?_) (fun c_1 => ?_)
  · have c_1 : (vDof (vSign z f i)) = ((-1)) := c_1
    refine lv_iconst (v := 0) hx hb dX2_isCommand_16 (by decide) ?_
    exact zz_top (zb_f (fun q => q c_1)) (hret _ _ dX2_isCommand_17)
  · have c_1 : ¬ (vDof (vSign z f i)) = ((-1)) := c_1
    refine lv_iconst (v := 1) hx hb dX2_isCommand_12 (by decide) ?_
    refine lv_goto (tgt := 17) hx hb dX2_isCommand_13 (by decide) ?_
    exact zz_top (zb_t c_1) (hret _ _ dX2_isCommand_17)
abbrev rm_X2_greatestDigit : Room := { frames := 0, cells := 0, slots := 0, locals := 0 }
set_option maxHeartbeats 4000000 in
set_option maxRecDepth 100000 in
theorem c_X2_greatestDigit (l : Launch) (D : va_G) (cy : Nat → ClassId) (cm mi be : Int32) : Met l yX2_greatestDigit wsX2_greatestDigit rm_X2_greatestDigit (rdP D cy [.int cm, .int mi, .int be] ([])) (QcRead (vGreat cm mi be)) 0 0 (fun _ => False) := by
  refine Mrd (cc := cX2_greatestDigit) (maxL := 3) (ty := .int) (by decide) rfl (Nat.le_of_ble_eq_true rfl) rfl ?_
  intro p e s m args below meth c Q ls hF hK hP hl hret
  obtain ⟨hx, hb, hml, hown, hts⟩ := id hF
  have hown : s.vm.findClass RX2 = some m.cls := hown
  have hl : lv_has ls 3 [(0, .int cm), (1, .int mi), (2, .int be)] := hl
  refine lv_iload_n hx hb dX2_greatestDigit_0 rfl (lv_at hl 0 rfl) ?_
  refine lv_bipush (v := 103) hx hb dX2_greatestDigit_1 (by decide) ?_
  refine lv_icmp_ne (tgt := 18) hx hb dX2_greatestDigit_3 (by decide) (fun c_1 => ?_) (fun c_1 => ?_)
  · have c_1 : ¬ cm = 103 := c_1
    refine lv_iload_n hx hb dX2_greatestDigit_18 rfl (lv_at hl 0 rfl) ?_
    refine lv_bipush (v := 101) hx hb dX2_greatestDigit_19 (by decide) ?_
    refine lv_icmp_eq (tgt := 26) hx hb dX2_greatestDigit_21 (by decide) (fun c_2 => ?_) (fun c_2 => ?_)
    · have c_2 : cm = 101 := c_2
      refine lv_iload_n hx hb dX2_greatestDigit_26 rfl (lv_at hl 1 rfl) ?_
      refine lv_iconst (v := 3) hx hb dX2_greatestDigit_27 (by decide) ?_
      refine lv_icmp_ne (tgt := 33) hx hb dX2_greatestDigit_28 (by decide) (fun c_3 => ?_) (fun c_3 => ?_)
      · have c_3 : ¬ mi = 3 := c_3
        refine lv_iload_n hx hb dX2_greatestDigit_33 rfl (lv_at hl 1 rfl) ?_
        refine lv_iconst (v := 2) hx hb dX2_greatestDigit_34 (by decide) ?_
        refine lv_icmp_ne (tgt := 40) hx hb dX2_greatestDigit_35 (by decide) (fun c_4 => ?_) (fun c_4 => ?_)
        · have c_4 : ¬ mi = 2 := c_4
          refine lv_iload_n hx hb dX2_greatestDigit_40 rfl (lv_at hl 2 rfl) ?_
          refine lv_iconst (v := 1) hx hb dX2_greatestDigit_41 (by decide) ?_
          refine lv_icmp_ne (tgt := 50) hx hb dX2_greatestDigit_42 (by decide) (fun c_5 => ?_) (fun c_5 => ?_)
          · have c_5 : ¬ be = 1 := c_5
            refine lv_bipush (v := 9) hx hb dX2_greatestDigit_50 (by decide) ?_
            exact zz_top (by simp only [vGreat, if_neg c_1, if_pos c_2, if_neg c_3, if_neg c_4, if_neg c_5]) (hret _ _ dX2_greatestDigit_52)
          · have c_5 : be = 1 := c_5
            refine lv_bipush (v := 6) hx hb dX2_greatestDigit_45 (by decide) ?_
            refine lv_goto (tgt := 52) hx hb dX2_greatestDigit_47 (by decide) ?_
            exact zz_top (by simp only [vGreat, if_neg c_1, if_pos c_2, if_neg c_3, if_neg c_4, if_pos c_5]) (hret _ _ dX2_greatestDigit_52)
        · have c_4 : mi = 2 := c_4
          refine lv_iconst (v := 1) hx hb dX2_greatestDigit_38 (by decide) ?_
          exact zz_top (by simp only [vGreat, if_neg c_1, if_pos c_2, if_neg c_3, if_pos c_4]) (hret _ _ dX2_greatestDigit_39)
      · have c_3 : mi = 3 := c_3
        refine lv_iconst (v := 2) hx hb dX2_greatestDigit_31 (by decide) ?_
        exact zz_top (by simp only [vGreat, if_neg c_1, if_pos c_2, if_pos c_3]) (hret _ _ dX2_greatestDigit_32)
    · have c_2 : ¬ cm = 101 := c_2
      refine lv_iconst (v := 3) hx hb dX2_greatestDigit_24 (by decide) ?_
      exact zz_top (by simp only [vGreat, if_neg c_1, if_neg c_2]) (hret _ _ dX2_greatestDigit_25)
  · have c_1 : cm = 103 := c_1
    refine lv_iload_n hx hb dX2_greatestDigit_6 rfl (lv_at hl 1 rfl) ?_
    refine lv_iconst (v := 1) hx hb dX2_greatestDigit_7 (by decide) ?_
    refine lv_icmp_ne (tgt := 15) hx hb dX2_greatestDigit_8 (by decide) (fun c_6 => ?_) (fun c_6 => ?_)
    · have c_6 : ¬ mi = 1 := c_6
      refine lv_bipush (v := 6) hx hb dX2_greatestDigit_15 (by decide) ?_
      exact zz_top (by simp only [vGreat, if_pos c_1, if_neg c_6]) (hret _ _ dX2_greatestDigit_17)
    · have c_6 : mi = 1 := c_6
      refine lv_iconst (v := 4) hx hb dX2_greatestDigit_11 (by decide) ?_
      refine lv_goto (tgt := 17) hx hb dX2_greatestDigit_12 (by decide) ?_
      exact zz_top (by simp only [vGreat, if_pos c_1, if_pos c_6]) (hret _ _ dX2_greatestDigit_17)
abbrev rm_X2_isDigitAllowed : Room := { frames := 2, cells := 0, slots := 0, locals := 43 }
set_option maxHeartbeats 4000000 in
set_option maxRecDepth 100000 in
theorem c_X2_isDigitAllowed (l : Launch) (D : va_G) (cy : Nat → ClassId) (t : Nat → Nat) (z : Nat) (hz : z ≤ 120) (f : Nat → Int32) (cm mi i : Int32) : Met l yX2_isDigitAllowed wsX2_isDigitAllowed rm_X2_isDigitAllowed (rdP D cy [.ref (t 0), .int cm, .int mi, .int i] (textW cy t (nI z) f)) (QcRead (zb (vAllow z f cm mi i))) 0 0 (fun _ => False) := by
  refine Mrd (cc := cX2_isDigitAllowed) (maxL := 6) (ty := .boolean) (by decide) rfl (Nat.le_of_ble_eq_true rfl) zb_nar ?_
  intro p e s m args below meth c Q ls hF hK hP hl hret
  obtain ⟨hx, hb, hml, hown, hts⟩ := id hF
  have hown : s.vm.findClass RX2 = some m.cls := hown
  have hl : lv_has ls 6 [(0, .ref (t 0)), (1, .int cm), (2, .int mi), (3, .int i)] := hl
  refine lv_aload_n hx hb dX2_isDigitAllowed_0 rfl (lv_at hl 0 rfl) ?_
  refine lv_iload_n hx hb dX2_isDigitAllowed_1 rfl (lv_at hl 3 rfl) ?_
  refine rd_V (As := [.int i]) (rest := []) hF (c_X2_digitAt l D cy t z hz f i) (cwV 1 hts gX2_isDigitAllowed_X2_digitAt rfl rfl rfl (by decide +kernel) ⟨Nat.le_of_ble_eq_true rfl, Nat.le_of_ble_eq_true rfl⟩) hK hP 0 1 rfl rfl rfl rfl hl.1 rfl (Nat.le_of_ble_eq_true rfl) dX2_isDigitAllowed_2 ⟨Nat.le_of_ble_eq_true rfl, Nat.le_of_ble_eq_true rfl⟩ ?_
  refine lv_istore (lv' := [(4, .int (vDig z f i)), (0, .ref (t 0)), (1, .int cm), (2, .int mi), (3, .int i)]) hx hb dX2_isDigitAllowed_5 hl (by decide) rfl (fun ls hl => ?_)
  have join1 : ∀ (ls : Array Slot), lv_has ls 6 [(4, .int (vDig z f i)), (0, .ref (t 0)), (1, .int cm), (2, .int mi), (3, .int i)] → W p l e rm_X2_isDigitAllowed s m args below meth c s.heap [] 0 0 Q (F0 m 23 ls [.int (vLeast cm mi)]) := by
    intro ls hl
    refine lv_istore (lv' := [(5, .int (vLeast cm mi)), (4, .int (vDig z f i)), (0, .ref (t 0)), (1, .int cm), (2, .int mi), (3, .int i)]) hx hb dX2_isDigitAllowed_23 hl (by decide) rfl (fun ls hl => ?_)
    refine lv_iload hx hb dX2_isDigitAllowed_25 (lv_at hl 1 rfl) ?_
    refine lv_iload hx hb dX2_isDigitAllowed_27 (lv_at hl 0 rfl) ?_
    refine lv_icmp_lt (tgt := 53) hx hb dX2_isDigitAllowed_29 (by decide) (fun c_1 => ?_) (fun c_1 => ?_)
    · have c_1 : (vDig z f i) < (vLeast cm mi) := c_1
      refine lv_iconst (v := 0) hx hb dX2_isDigitAllowed_53 (by decide) ?_
      exact zz_top (zb_f (fun q => q.1 c_1)) (hret _ _ dX2_isDigitAllowed_54)
    · have c_1 : ¬ (vDig z f i) < (vLeast cm mi) := c_1
      refine lv_iload hx hb dX2_isDigitAllowed_32 (lv_at hl 1 rfl) ?_
      refine lv_iload_n hx hb dX2_isDigitAllowed_34 rfl (lv_at hl 3 rfl) ?_
      refine lv_iload_n hx hb dX2_isDigitAllowed_35 rfl (lv_at hl 4 rfl) ?_
      refine lv_aload_n hx hb dX2_isDigitAllowed_36 rfl (lv_at hl 2 rfl) ?_
      refine lv_iload_n hx hb dX2_isDigitAllowed_37 rfl (lv_at hl 5 rfl) ?_
      refine lv_iconst (v := 1) hx hb dX2_isDigitAllowed_38 (by decide) ?_
      refine lv_isub hx hb dX2_isDigitAllowed_39 ?_
      refine rd_V (As := [.int (i - 1)]) (rest := [.int mi, .int cm, .int (vDig z f i)]) hF (c_X2_digitAt l D cy t z hz f (i - 1)) (cwV 1 hts gX2_isDigitAllowed_X2_digitAt rfl rfl rfl (by decide +kernel) ⟨Nat.le_of_ble_eq_true rfl, Nat.le_of_ble_eq_true rfl⟩) hK hP 0 1 rfl rfl rfl rfl hl.1 rfl (Nat.le_of_ble_eq_true rfl) dX2_isDigitAllowed_40 ⟨Nat.le_of_ble_eq_true rfl, Nat.le_of_ble_eq_true rfl⟩ ?_
      refine rd_S (As := [.int cm, .int mi, .int (vDig z f (i - 1))]) (rest := [.int (vDig z f i)]) hF (c_X2_greatestDigit l D cy cm mi (vDig z f (i - 1))) (va_cwS 3 hts gX2_isDigitAllowed_X2_greatestDigit rfl rfl rfl (by decide +kernel) ⟨Nat.le_of_ble_eq_true rfl, Nat.le_of_ble_eq_true rfl⟩) hK (fun k q h => by simp at h) rfl hl.1 rfl (Nat.le_of_ble_eq_true rfl) dX2_isDigitAllowed_43 ⟨Nat.le_of_ble_eq_true rfl, Nat.le_of_ble_eq_true rfl⟩ ?_
      refine lv_icmp_gt (tgt := 53) hx hb dX2_isDigitAllowed_46 (by decide) (fun c_2 => ?_) (fun c_2 => ?_)
      · have c_2 : (vGreat cm mi (vDig z f (i - 1))) < (vDig z f i) := c_2
        refine lv_iconst (v := 0) hx hb dX2_isDigitAllowed_53 (by decide) ?_
        exact zz_top (zb_f (fun q => q.2 c_2)) (hret _ _ dX2_isDigitAllowed_54)
      · have c_2 : ¬ (vGreat cm mi (vDig z f (i - 1))) < (vDig z f i) := c_2
        refine lv_iconst (v := 1) hx hb dX2_isDigitAllowed_49 (by decide) ?_
        refine lv_goto (tgt := 54) hx hb dX2_isDigitAllowed_50 (by decide) ?_
        exact zz_top (zb_t ⟨c_1, c_2⟩) (hret _ _ dX2_isDigitAllowed_54)
  refine lv_iload_n hx hb dX2_isDigitAllowed_7 rfl (lv_at hl 2 rfl) ?_
  refine lv_bipush (v := 103) hx hb dX2_isDigitAllowed_8 (by decide) ?_
  refine lv_icmp_ne (tgt := 22) hx hb dX2_isDigitAllowed_10 (by decide) (fun c_3 => ?_) (fun c_3 => ?_)
  · have c_3 : ¬ cm = 103 := c_3
    refine lv_iconst (v := 0) hx hb dX2_isDigitAllowed_22 (by decide) ?_
    exact zz_top (by simp only [vLeast, if_neg c_3]) (join1 _ (lv_sub hl [0, 1, 2, 3, 4] rfl))
  · have c_3 : cm = 103 := c_3
    refine lv_iload_n hx hb dX2_isDigitAllowed_13 rfl (lv_at hl 3 rfl) ?_
    refine lv_iconst (v := 1) hx hb dX2_isDigitAllowed_14 (by decide) ?_
    refine lv_icmp_ne (tgt := 22) hx hb dX2_isDigitAllowed_15 (by decide) (fun c_4 => ?_) (fun c_4 => ?_)
    · have c_4 : ¬ mi = 1 := c_4
      refine lv_iconst (v := 0) hx hb dX2_isDigitAllowed_22 (by decide) ?_
      exact zz_top (by simp only [vLeast, if_pos c_3, if_neg c_4]) (join1 _ (lv_sub hl [0, 1, 2, 3, 4] rfl))
    · have c_4 : mi = 1 := c_4
      refine lv_iconst (v := 1) hx hb dX2_isDigitAllowed_18 (by decide) ?_
      refine lv_goto (tgt := 23) hx hb dX2_isDigitAllowed_19 (by decide) ?_
      exact zz_top (by simp only [vLeast, if_pos c_3, if_pos c_4]) (join1 _ (lv_sub hl [0, 1, 2, 3, 4] rfl))
abbrev rm_X2_firstError : Room := { frames := 3, cells := 0, slots := 0, locals := 68 }
set_option maxHeartbeats 4000000 in
set_option maxRecDepth 100000 in
theorem c_X2_firstError (l : Launch) (D : va_G) (cy : Nat → ClassId) (t : Nat → Nat) (z : Nat) (hz : z ≤ 120) (f : Nat → Int32) : Met l yX2_firstError wsX2_firstError rm_X2_firstError (rdP D cy [.ref (t 0)] (textW cy t (nI z) f)) (QcRead (vErr z f)) 0 0 (fun _ => False) := by
  refine Mrd (cc := cX2_firstError) (maxL := 4) (ty := .int) (by decide) rfl (Nat.le_of_ble_eq_true rfl) rfl ?_
  intro p e s m args below meth c Q ls hF hK hP hl hret
  obtain ⟨hx, hb, hml, hown, hts⟩ := id hF
  have hown : s.vm.findClass RX2 = some m.cls := hown
  have hin_X2 : ∀ w ∈ u_ws RX2 TX2 2, w ∈ wsX2_firstError := by decide +kernel
  have hl : lv_has ls 4 [(0, .ref (t 0))] := hl
  refine lv_aload_n hx hb dX2_firstError_0 rfl (lv_at hl 0 rfl) ?_
  refine lv_iconst (v := 0) hx hb dX2_firstError_1 (by decide) ?_
  refine rd_V (As := [.int 0]) (rest := []) hF (c_X2_signAt l D cy t z hz f 0) (cwV 1 hts gX2_firstError_X2_signAt rfl rfl rfl (by decide +kernel) ⟨Nat.le_of_ble_eq_true rfl, Nat.le_of_ble_eq_true rfl⟩) hK hP 0 1 rfl rfl rfl rfl hl.1 rfl (Nat.le_of_ble_eq_true rfl) dX2_firstError_2 ⟨Nat.le_of_ble_eq_true rfl, Nat.le_of_ble_eq_true rfl⟩ ?_
  refine lv_bipush (v := 72) hx hb dX2_firstError_5 (by decide) ?_
  refine lv_icmp_eq (tgt := 12) hx hb dX2_firstError_7 (by decide) (fun c_1 => ?_) (fun c_1 => ?_)
  · have c_1 : (vSign z f 0) = 72 := c_1
    have hH := c_1
    have hz1 := vSign_pos hH
    refine lv_iconst (v := (-1)) hx hb dX2_firstError_12 (by decide) ?_
    refine lv_istore_n (lv' := [(1, .int ((-1))), (0, .ref (t 0))]) hx hb dX2_firstError_13 rfl hl (by decide) rfl (fun ls hl => ?_)
    refine lv_iconst (v := 0) hx hb dX2_firstError_14 (by decide) ?_
    refine lv_istore_n (lv' := [(2, .int 0), (1, .int ((-1))), (0, .ref (t 0))]) hx hb dX2_firstError_15 rfl hl (by decide) rfl (fun ls hl => ?_)
    refine lv_iconst (v := 1) hx hb dX2_firstError_16 (by decide) ?_
    refine lv_istore_n (lv' := [(3, .int 1), (2, .int 0), (1, .int ((-1))), (0, .ref (t 0))]) hx hb dX2_firstError_17 rfl hl (by decide) rfl (fun ls hl => ?_)
    have loop : ∀ (k i : Nat) (cm mi : Int32), i ≤ z → z + 1 ≤ i + k → lpE (sErr z f) (eErr z) (z - i) i (cm, mi) = lpE (sErr z f) (eErr z) (z - 1) 1 (-1, 0) → ∀ (ls : Array Slot), lv_has ls 4 [(3, .int (nI i)), (2, .int mi), (1, .int cm), (0, .ref (t 0))] → W p l e rm_X2_firstError s m args below meth c s.heap [] 0 0 Q (F0 m 18 ls []) := by
      intro k
      induction k with
      | zero =>
        intro i cm mi hi hk hv
        exact absurd hk (by omega)
      | succ k ih =>
        intro i cm mi hi hk hv ls hl
        refine lv_iload_n hx hb dX2_firstError_18 rfl (lv_at hl 0 rfl) ?_
        refine lv_aload_n hx hb dX2_firstError_19 rfl (lv_at hl 3 rfl) ?_
        refine va_get (ci := 1) (v := .int (nI z)) (C := RX2) (T := TX2) (N := 2) hx hb hts hin_X2 hown hK hP 0 rfl rfl 1 (by decide) (hts (.fieldLink RX2 15 "ButtonGuests$HotelText" "length" "I") (by decide +kernel)) (fun _ h9 => h9) rfl dX2_firstError_20 ?_
        refine lv_icmp_ge (tgt := 78) hx hb dX2_firstError_23 (by decide) (fun c_2 => ?_) (fun c_2 => ?_)
        · have c_2 : z ≤ i := (nI_leI (a := z) (b := i) (by omega) (by omega)).mp c_2
          refine lv_iload_n hx hb dX2_firstError_78 rfl (lv_at hl 1 rfl) ?_
          refine lv_if_le (tgt := 89) hx hb dX2_firstError_79 (by decide) (fun c_3 => ?_) (fun c_3 => ?_)
          · have c_3 : mi ≤ 0 := c_3
            refine lv_iconst (v := (-1)) hx hb dX2_firstError_89 (by decide) ?_
            exact zz_top (((by simp only [eErr, if_pos c_2, if_pos c_3] : _ = eErr z (cm, mi)).trans (lpE_end c_2 hv)).trans (by simp only [vErr, if_pos hH])) (hret _ _ dX2_firstError_90)
          · have c_3 : ¬ mi ≤ 0 := c_3
            refine lv_aload_n hx hb dX2_firstError_82 rfl (lv_at hl 3 rfl) ?_
            refine va_get (ci := 1) (v := .int (nI z)) (C := RX2) (T := TX2) (N := 2) hx hb hts hin_X2 hown hK hP 0 rfl rfl 1 (by decide) (hts (.fieldLink RX2 15 "ButtonGuests$HotelText" "length" "I") (by decide +kernel)) (fun _ h9 => h9) rfl dX2_firstError_83 ?_
            refine lv_goto (tgt := 90) hx hb dX2_firstError_86 (by decide) ?_
            exact zz_top (((by simp only [eErr, if_pos c_2, if_neg c_3] : _ = eErr z (cm, mi)).trans (lpE_end c_2 hv)).trans (by simp only [vErr, if_pos hH])) (hret _ _ dX2_firstError_90)
        · have c_2 : ¬ z ≤ i := fun q => c_2 ((nI_leI (a := z) (b := i) (by omega) (by omega)).mpr q)
          refine lv_iload_n hx hb dX2_firstError_26 rfl (lv_at hl 1 rfl) ?_
          refine lv_if_le (tgt := 48) hx hb dX2_firstError_27 (by decide) (fun c_4 => ?_) (fun c_4 => ?_)
          · have c_4 : mi ≤ 0 := c_4
            refine lv_aload_n hx hb dX2_firstError_48 rfl (lv_at hl 3 rfl) ?_
            refine lv_iload_n hx hb dX2_firstError_49 rfl (lv_at hl 0 rfl) ?_
            refine rd_V (As := [.int (nI i)]) (rest := []) hF (c_X2_isCommand l D cy t z hz f (nI i)) (cwV 1 hts gX2_firstError_X2_isCommand rfl rfl rfl (by decide +kernel) ⟨Nat.le_of_ble_eq_true rfl, Nat.le_of_ble_eq_true rfl⟩) hK hP 0 1 rfl rfl rfl rfl hl.1 rfl (Nat.le_of_ble_eq_true rfl) dX2_firstError_50 ⟨Nat.le_of_ble_eq_true rfl, Nat.le_of_ble_eq_true rfl⟩ ?_
            refine lv_if_eq (tgt := 70) hx hb dX2_firstError_53 (by decide) (fun c_5 => ?_) (fun c_5 => ?_)
            · have c_5 := zb_eq.mp c_5
              refine lv_iload_n hx hb dX2_firstError_70 rfl (lv_at hl 0 rfl) ?_
              exact zz_top ((lpE_ret (by omega) hv (by simp only [sErr, if_neg c_2, if_pos c_4, if_neg c_5])).trans (by simp only [vErr, if_pos hH])) (hret _ _ dX2_firstError_71)
            · have c_5 := zb_ne.mp c_5
              refine lv_aload_n hx hb dX2_firstError_56 rfl (lv_at hl 3 rfl) ?_
              refine lv_iload_n hx hb dX2_firstError_57 rfl (lv_at hl 0 rfl) ?_
              refine rd_V (As := [.int (nI i)]) (rest := []) hF (c_X2_signAt l D cy t z hz f (nI i)) (cwV 1 hts gX2_firstError_X2_signAt rfl rfl rfl (by decide +kernel) ⟨Nat.le_of_ble_eq_true rfl, Nat.le_of_ble_eq_true rfl⟩) hK hP 0 1 rfl rfl rfl rfl hl.1 rfl (Nat.le_of_ble_eq_true rfl) dX2_firstError_58 ⟨Nat.le_of_ble_eq_true rfl, Nat.le_of_ble_eq_true rfl⟩ ?_
              refine lv_istore_n (lv' := [(1, .int (vSign z f (nI i))), (3, .int (nI i)), (2, .int mi), (0, .ref (t 0))]) hx hb dX2_firstError_61 rfl hl (by decide) rfl (fun ls hl => ?_)
              refine lv_iload_n hx hb dX2_firstError_62 rfl (lv_at hl 0 rfl) ?_
              refine rd_S (As := [.int (vSign z f (nI i))]) (rest := []) hF (c_X2_digitsOf l D cy (vSign z f (nI i))) (va_cwS 1 hts gX2_firstError_X2_digitsOf rfl rfl rfl (by decide +kernel) ⟨Nat.le_of_ble_eq_true rfl, Nat.le_of_ble_eq_true rfl⟩) hK (fun k q h => by simp at h) rfl hl.1 rfl (Nat.le_of_ble_eq_true rfl) dX2_firstError_63 ⟨Nat.le_of_ble_eq_true rfl, Nat.le_of_ble_eq_true rfl⟩ ?_
              refine lv_istore_n (lv' := [(2, .int (vDof (vSign z f (nI i)))), (1, .int (vSign z f (nI i))), (3, .int (nI i)), (0, .ref (t 0))]) hx hb dX2_firstError_66 rfl hl (by decide) rfl (fun ls hl => ?_)
              refine lv_goto (tgt := 72) hx hb dX2_firstError_67 (by decide) ?_
              refine lv_iinc (v := nI (i + 1)) (lv' := [(3, .int (nI (i + 1))), (2, .int (vDof (vSign z f (nI i)))), (1, .int (vSign z f (nI i))), (0, .ref (t 0))]) hx hb dX2_firstError_72 hl (k := 2) rfl (nI_add (i) 1) (by decide) rfl (fun ls hl => ?_)
              refine lv_goto (tgt := 18) hx hb dX2_firstError_75 (by decide) ?_
              exact ih (i + 1) _ _ (by omega) (by omega) (lpE_next (by omega) hv (by simp only [sErr, if_neg c_2, if_pos c_4, if_pos c_5])) _ (lv_sub hl [0, 1, 2, 3] rfl)
          · have c_4 : ¬ mi ≤ 0 := c_4
            refine lv_aload_n hx hb dX2_firstError_30 rfl (lv_at hl 3 rfl) ?_
            refine lv_iload_n hx hb dX2_firstError_31 rfl (lv_at hl 2 rfl) ?_
            refine lv_iload_n hx hb dX2_firstError_32 rfl (lv_at hl 1 rfl) ?_
            refine lv_iload_n hx hb dX2_firstError_33 rfl (lv_at hl 0 rfl) ?_
            refine rd_V (As := [.int cm, .int mi, .int (nI i)]) (rest := []) hF (c_X2_isDigitAllowed l D cy t z hz f cm mi (nI i)) (cwV 3 hts gX2_firstError_X2_isDigitAllowed rfl rfl rfl (by decide +kernel) ⟨Nat.le_of_ble_eq_true rfl, Nat.le_of_ble_eq_true rfl⟩) hK hP 0 1 rfl rfl rfl rfl hl.1 rfl (Nat.le_of_ble_eq_true rfl) dX2_firstError_34 ⟨Nat.le_of_ble_eq_true rfl, Nat.le_of_ble_eq_true rfl⟩ ?_
            refine lv_if_ne (tgt := 42) hx hb dX2_firstError_37 (by decide) (fun c_6 => ?_) (fun c_6 => ?_)
            · have c_6 := zb_ne.mp c_6
              refine lv_iinc (v := mi + (-1)) (lv' := [(2, .int (mi + (-1))), (3, .int (nI i)), (1, .int cm), (0, .ref (t 0))]) hx hb dX2_firstError_42 hl (k := 1) rfl rfl (by decide) rfl (fun ls hl => ?_)
              refine lv_goto (tgt := 72) hx hb dX2_firstError_45 (by decide) ?_
              refine lv_iinc (v := nI (i + 1)) (lv' := [(3, .int (nI (i + 1))), (2, .int (mi + (-1))), (1, .int cm), (0, .ref (t 0))]) hx hb dX2_firstError_72 hl (k := 1) rfl (nI_add (i) 1) (by decide) rfl (fun ls hl => ?_)
              refine lv_goto (tgt := 18) hx hb dX2_firstError_75 (by decide) ?_
              exact ih (i + 1) _ _ (by omega) (by omega) (lpE_next (by omega) hv (by simp only [sErr, if_neg c_2, if_neg c_4, if_pos c_6])) _ (lv_sub hl [0, 1, 2, 3] rfl)
            · have c_6 := zb_eq.mp c_6
              refine lv_iload_n hx hb dX2_firstError_40 rfl (lv_at hl 0 rfl) ?_
              exact zz_top ((lpE_ret (by omega) hv (by simp only [sErr, if_neg c_2, if_neg c_4, if_neg c_6])).trans (by simp only [vErr, if_pos hH])) (hret _ _ dX2_firstError_41)
    exact loop (z + 1) 1 _ _ hz1 (by omega) rfl _ (lv_sub hl [0, 1, 2, 3] rfl)
  · have c_1 : ¬ (vSign z f 0) = 72 := c_1
    refine lv_iconst (v := 0) hx hb dX2_firstError_10 (by decide) ?_
    exact zz_top (by simp only [vErr, if_neg c_1]) (hret _ _ dX2_firstError_11)
abbrev rm_X2_add : Room := { frames := 0, cells := 0, slots := 0, locals := 0 }
set_option maxHeartbeats 4000000 in
set_option maxRecDepth 100000 in
theorem c_X2_add (l : Launch) (D : va_G) (cy : Nat → ClassId) (t : Nat → Nat) (z : Nat) (hz : z ≤ 120) (f : Nat → Int32) (v : Int32) (hnx : vp_nar .char v = v) (sz : Nat) : Met l yX2_add wsX2_add rm_X2_add (wrP D cy [.ref (t 0), .int v] (textW cy t (nI z) f) sz) (va_Qi (fun (r : Int32) (u : Int32 × (Nat → Int32)) => r = (if 120 ≤ z then nI z else nI (z + 1)) ∧ u = (if 120 ≤ z then (nI z, f) else (nI (z + 1), upd f z v))) (wrB D (va_A (textW cy t (nI z) f) sz) (fun u => textW cy t u.1 u.2)) (va_A (textW cy t (nI z) f) sz)) 0 0 (va_A (textW cy t (nI z) f) sz) := by
  refine Mwi (cc := cX2_add) (maxL := 2) (ty := .int) (by decide) rfl (Nat.le_of_ble_eq_true rfl) (fun _ _ _ => rfl) ?_
  intro p e s m args below meth c Q ls A hsz hF hK hP hD hA hl hret
  obtain ⟨hx, hb, hml, hown, hts⟩ := id hF
  have hown : s.vm.findClass RX2 = some m.cls := hown
  have hin_X2 : ∀ w ∈ u_ws RX2 TX2 2, w ∈ wsX2_add := by decide +kernel
  have hl : lv_has ls 2 [(0, .ref (t 0)), (1, .int v)] := hl
  suffices key : ∀ (H : Heap) (locs : List Loc), va_P D vwCl (textW cy t (nI z) f) H → va_D A (textW cy t (nI z) f) → va_S A s.heap H locs → W p l e rm_X2_add s m args below meth c H locs 0 0 Q (F0 m 0 ls []) from key s.heap [] hP hD va_S.rf
  intro H locs hP hD hS
  refine lv_aload_n hx hb dX2_add_0 rfl (lv_at hl 0 rfl) ?_
  refine va_get (ci := 1) (v := .int (nI z)) (C := RX2) (T := TX2) (N := 2) hx hb hts hin_X2 hown hK hP 0 rfl rfl 1 (by decide) (hts (.fieldLink RX2 15 "ButtonGuests$HotelText" "length" "I") (by decide +kernel)) (fun _ h9 => h9) rfl dX2_add_1 ?_
  refine lv_aload_n hx hb dX2_add_4 rfl (lv_at hl 0 rfl) ?_
  refine va_get (ci := 1) (v := .ref (t 1)) (C := RX2) (T := TX2) (N := 2) hx hb hts hin_X2 hown hK hP 0 rfl rfl 0 (by decide) (hts (.fieldLink RX2 11 "ButtonGuests$HotelText" "signs" "[C") (by decide +kernel)) (fun _ h9 => h9) rfl dX2_add_5 ?_
  refine va_alen (v := 120) hx hb hK hP 1 1 rfl rfl rfl dX2_add_8 ?_
  refine lv_icmp_ge (tgt := 32) hx hb dX2_add_9 (by decide) (fun c_1 => ?_) (fun c_1 => ?_)
  · have c_1 : 120 ≤ z := (nI_leI (a := 120) (b := z) (by omega) (by omega)).mp c_1
    refine lv_aload_n hx hb dX2_add_32 rfl (lv_at hl 0 rfl) ?_
    refine va_get (ci := 1) (v := .int (nI z)) (C := RX2) (T := TX2) (N := 2) hx hb hts hin_X2 hown hK hP 0 rfl rfl 1 (by decide) (hts (.fieldLink RX2 15 "ButtonGuests$HotelText" "length" "I") (by decide +kernel)) (fun _ h9 => h9) rfl dX2_add_33 ?_
    exact hret _ _ H locs _ (nI z, f) dX2_add_36 hP hD hS (⟨by simp only [if_pos c_1], by simp only [if_pos c_1]⟩)
  · have c_1 : ¬ 120 ≤ z := fun q => c_1 ((nI_leI (a := 120) (b := z) (by omega) (by omega)).mpr q)
    refine lv_aload_n hx hb dX2_add_12 rfl (lv_at hl 0 rfl) ?_
    refine va_get (ci := 1) (v := .ref (t 1)) (C := RX2) (T := TX2) (N := 2) hx hb hts hin_X2 hown hK hP 0 rfl rfl 0 (by decide) (hts (.fieldLink RX2 11 "ButtonGuests$HotelText" "signs" "[C") (by decide +kernel)) (fun _ h9 => h9) rfl dX2_add_13 ?_
    refine lv_aload_n hx hb dX2_add_16 rfl (lv_at hl 0 rfl) ?_
    refine va_get (ci := 1) (v := .int (nI z)) (C := RX2) (T := TX2) (N := 2) hx hb hts hin_X2 hown hK hP 0 rfl rfl 1 (by decide) (hts (.fieldLink RX2 15 "ButtonGuests$HotelText" "length" "I") (by decide +kernel)) (fun _ h9 => h9) rfl dX2_add_17 ?_
    refine lv_iload_n hx hb dX2_add_20 rfl (lv_at hl 1 rfl) ?_
    refine zz_cast hx hb hK hP hD hS 1 1 z rfl rfl rfl ⟨by omega, Nat.le_of_ble_eq_true rfl⟩ hnx dX2_add_21 (fun H locs hP hD hS => ?_)
    have hP : va_P D vwCl (textW cy t (nI z) ((upd f z v))) H := hP
    have hD : va_D A (textW cy t (nI z) ((upd f z v))) := hD
    refine lv_aload_n hx hb dX2_add_22 rfl (lv_at hl 0 rfl) ?_
    refine lv_dup hx hb dX2_add_23 rfl ?_
    refine va_get (ci := 1) (v := .int (nI z)) (C := RX2) (T := TX2) (N := 2) hx hb hts hin_X2 hown hK hP 0 rfl rfl 1 (by decide) (hts (.fieldLink RX2 15 "ButtonGuests$HotelText" "length" "I") (by decide +kernel)) (fun _ h9 => h9) rfl dX2_add_24 ?_
    refine lv_iconst (v := 1) hx hb dX2_add_27 (by decide) ?_
    refine lv_iadd hx hb dX2_add_28 ?_
    refine zz_top (y := nI (z + 1)) (nI_1 z) ?_
    refine va_put (ci := 1) (v := .int (nI (z + 1))) (ty := .int) (C := RX2) (T := TX2) (N := 2) hx hb hts hin_X2 tyX2 tyX2_ok nmX2 hown hK hP hD hS 0 rfl rfl 1 (by decide) (hts (.fieldLink RX2 15 "ButtonGuests$HotelText" "length" "I") (by decide +kernel)) (fun _ h9 => h9) rfl (by decide +kernel) rfl rfl (Nat.le_of_ble_eq_true rfl) dX2_add_29 (fun H locs hP hD hS => ?_)
    have hP : va_P D vwCl (textW cy t (nI (z + 1)) ((upd f z v))) H := hP
    have hD : va_D A (textW cy t (nI (z + 1)) ((upd f z v))) := hD
    refine lv_aload_n hx hb dX2_add_32 rfl (lv_at hl 0 rfl) ?_
    refine va_get (ci := 1) (v := .int (nI (z + 1))) (C := RX2) (T := TX2) (N := 2) hx hb hts hin_X2 hown hK hP 0 rfl rfl 1 (by decide) (hts (.fieldLink RX2 15 "ButtonGuests$HotelText" "length" "I") (by decide +kernel)) (fun _ h9 => h9) rfl dX2_add_33 ?_
    exact hret _ _ H locs _ (nI (z + 1), (upd f z v)) dX2_add_36 hP hD hS (⟨by simp only [if_neg c_1], by simp only [if_neg c_1]⟩)
abbrev rm_X2_empty : Room := { frames := 0, cells := 0, slots := 0, locals := 0 }
abbrev rm_X0_without : Room := { frames := 0, cells := 0, slots := 0, locals := 0 }
set_option maxHeartbeats 4000000 in
set_option maxRecDepth 100000 in
theorem c_X0_without (l : Launch) (D : va_G) (cy : Nat → ClassId) (v : Int64) (z : Nat) (hz : z < 100) : Met l yX0_without wsX0_without rm_X0_without (rdP D cy [.long v, .int (nI z)] ([])) (QcReadL (lpN sTen z 0 v)) 0 0 (fun _ => False) := by
  refine MrdL (cc := cX0_without) (maxL := 6) (by decide) rfl (Nat.le_of_ble_eq_true rfl) ?_
  intro p e s m args below meth c Q ls hF hK hP hl hret
  obtain ⟨hx, hb, hml, hown, hts⟩ := id hF
  have hown : s.vm.findClass RX0 = some m.cls := hown
  have hl : lv_has ls 6 [(0, .long v), (2, .int (nI z))] := hl
  refine lv_lload_n hx hb dX0_without_0 rfl (lv_at hl 0 rfl) ?_
  refine lv_lstore_n (lv' := [(3, .long v), (0, .long v), (2, .int (nI z))]) hx hb dX0_without_1 rfl hl (by decide) rfl (fun ls hl => ?_)
  refine lv_iconst (v := 0) hx hb dX0_without_2 (by decide) ?_
  refine lv_istore (lv' := [(5, .int 0), (3, .long v), (0, .long v), (2, .int (nI z))]) hx hb dX0_without_3 hl (by decide) rfl (fun ls hl => ?_)
  have loop : ∀ (k i : Nat) (x : Int64), i ≤ z → z + 1 ≤ i + k → lpN sTen (z - i) i x = lpN sTen z 0 v → ∀ (ls : Array Slot), lv_has ls 6 [(5, .int (nI i)), (3, .long x), (0, .long v), (2, .int (nI z))] → W p l e rm_X0_without s m args below meth c s.heap [] 0 0 Q (F0 m 5 ls []) := by
    intro k
    induction k with
    | zero =>
      intro i x hi hk hv
      exact absurd hk (by omega)
    | succ k ih =>
      intro i x hi hk hv ls hl
      refine lv_iload hx hb dX0_without_5 (lv_at hl 0 rfl) ?_
      refine lv_iload_n hx hb dX0_without_7 rfl (lv_at hl 3 rfl) ?_
      refine lv_icmp_ge (tgt := 23) hx hb dX0_without_8 (by decide) (fun c_1 => ?_) (fun c_1 => ?_)
      · have c_1 : z ≤ i := (nI_leI (a := z) (b := i) (by omega) (by omega)).mp c_1
        refine lv_lload_n hx hb dX0_without_23 rfl (lv_at hl 1 rfl) ?_
        exact zz_topL (lpN_end c_1 hv) (hret _ _ dX0_without_24)
      · have c_1 : ¬ z ≤ i := fun q => c_1 ((nI_leI (a := z) (b := i) (by omega) (by omega)).mpr q)
        refine lv_lload_n hx hb dX0_without_11 rfl (lv_at hl 1 rfl) ?_
        refine lv_ldc2 (v := 10) hx hb hown (hts (.constantLong RX0 7 (10)) (by decide +kernel)) dX0_without_12 ?_
        refine lv_ldiv hx hb dX0_without_15 (by decide) ?_
        refine lv_lstore_n (lv' := [(3, .long (x / 10)), (5, .int (nI i)), (0, .long v), (2, .int (nI z))]) hx hb dX0_without_16 rfl hl (by decide) rfl (fun ls hl => ?_)
        refine lv_iinc (v := nI (i + 1)) (lv' := [(5, .int (nI (i + 1))), (3, .long (x / 10)), (0, .long v), (2, .int (nI z))]) hx hb dX0_without_17 hl (k := 1) rfl (nI_add (i) 1) (by decide) rfl (fun ls hl => ?_)
        refine lv_goto (tgt := 5) hx hb dX0_without_20 (by decide) ?_
        exact ih (i + 1) _ (by omega) (by omega) (lpN_next (by omega) hv rfl) _ (lv_sub hl [0, 1, 2, 3] rfl)
  exact loop (z + 1) 0 _ (Nat.zero_le _) (by omega) rfl _ (lv_sub hl [0, 1, 2, 3] rfl)
