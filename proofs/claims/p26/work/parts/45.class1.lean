/-! the class's own methods -/
theorem kG_ne {gu g : Int32} (h : ¬ kG gu g = 0) : ¬ isG gu g := fun q => h (if_pos q)
theorem kG_1 {gu g : Int32} (h : ¬ isG gu g) : kG gu g = 1 := if_neg h
theorem kSave_ne {v : Int32} (h : ¬ kSave v = 0) : ¬ inL v.toInt64 0 1 := fun q => h (if_pos q)
theorem xn_1 {L : List String} {E : String} {K : Int32} (hE : E = xn L K) (_ : ¬ K = 0) (h : K = 1) : E = L.getD 0 "" := by
  rw [hE, h]
  rfl
theorem s_hi {v : Int32} (h : ¬ v < 2) : ¬ v ≤ 1 := by
  rw [Int32.lt_iff_toInt_lt] at h
  rw [Int32.le_iff_toInt_le]
  have e1 : (1 : Int32).toInt = 1 := rfl
  have e2 : (2 : Int32).toInt = 2 := rfl
  omega
theorem s_ok {v : Int32} (h : v < 2) : v ≤ 1 := by
  rw [Int32.lt_iff_toInt_lt] at h
  rw [Int32.le_iff_toInt_le]
  have e1 : (1 : Int32).toInt = 1 := rfl
  have e2 : (2 : Int32).toInt = 2 := rfl
  omega
abbrev rm_X7_requireGuest : Room := { frames := 6, cells := 1, slots := 6, locals := 90 }
set_option maxHeartbeats 4000000 in
set_option maxRecDepth 100000 in
theorem c_X7_requireGuest (l : Launch) (D : va_G) (cy : Nat → ClassId) (hl0 : l.stackTraces = false) (b t pa se th tr nw : Nat → Nat) (z : Nat) (hz : z ≤ 120) (f : Nat → Int32) (ct : Nat) (L : List HQ) (hc1 : ct ≤ L.length) (hc2 : L.length ≤ 14) (sc : Int32) (pf bf : Nat → Int32) (y0 y1 x : HS) (o0 o1 : Option HQ) (n : Nat) (hn : n ≤ 4) (hg : x.1.1 = nI n) (hok : okX n x) (g : Int32) (sz : Nat) : vx_Met l yX7_requireGuest wsX7_requireGuest rm_X7_requireGuest (wrX D cy [.ref (b 0), .int g] (guestsW cy b t pa se th tr ((z, f), (ct, L), ((sc, pf, bf), y0), y1, (nw, x), (o0, o1))) sz (Gx (va_A (guestsW cy b t pa se th tr ((z, f), (ct, L), ((sc, pf, bf), y0), y1, (nw, x), (o0, o1))) sz))) (va_Qv (fun u : Unit => isG (nI n) g) (wrB D (va_A (guestsW cy b t pa se th tr ((z, f), (ct, L), ((sc, pf, bf), y0), y1, (nw, x), (o0, o1))) sz) (fun u => guestsW cy b t pa se th tr ((z, f), (ct, L), ((sc, pf, bf), y0), y1, (nw, x), (o0, o1)))) (va_A (guestsW cy b t pa se th tr ((z, f), (ct, L), ((sc, pf, bf), y0), y1, (nw, x), (o0, o1))) sz)) (thX D (va_A (guestsW cy b t pa se th tr ((z, f), (ct, L), ((sc, pf, bf), y0), y1, (nw, x), (o0, o1))) sz) (guestsW cy b t pa se th tr ((z, f), (ct, L), ((sc, pf, bf), y0), y1, (nw, x), (o0, o1))) [exI] (kG (nI n) g)) 1 6 (va_A (guestsW cy b t pa se th tr ((z, f), (ct, L), ((sc, pf, bf), y0), y1, (nw, x), (o0, o1))) sz) := by
  refine MthV (cc := cX7_requireGuest) (maxL := 2) (by decide) rfl (Nat.le_of_ble_eq_true rfl) ?_
  intro p e s m args below meth c Q ls A hAe hsz hQ hlocks hno hX0 hF hK hP hD hA hl hret
  rw [← hsz, ← hAe] at hX0
  have hX : Gx A s := hX0
  have hX0 : Gs A s := hX.1.1
  have hGn : Gn s := hX.1.2
  obtain ⟨hx, hb, hml, hown, hts⟩ := id hF
  have hown : s.vm.findClass RX7 = some m.cls := hown
  have hin_X7 : ∀ w ∈ u_ws RX7 TX7 6, w ∈ wsX7_requireGuest := by decide +kernel
  have hsub_I : ∀ w ∈ (vx_atS RX7 135 exI exN).filter goodWord, w ∈ wsX7_requireGuest := by decide +kernel
  have hl : lv_has ls 2 [(0, .ref (b 0)), (1, .int g)] := hl
  suffices key : ∀ (H : Heap) (locs : List Loc), va_P D vwCl (wj [[(b 0, .inr (4, [.ref (t 0), .ref (pa 0), .ref (se 0), .ref (b 1), .ref (tr 0), .ref (nw 0)]))], [(b 1, .inl (cy 2, 2, .inr (.inr (.inr (.inr ((slF o0 o1)))))))], textW cy t (nI z) f, pastW cy pa ct L, poolW cy L, searchW cy se (th 0) sc pf bf, hotelW cy th y0, hotelW cy tr y1, hotelW cy nw x, slotW cy o0, slotW cy o1]) H → va_D A (wj [[(b 0, .inr (4, [.ref (t 0), .ref (pa 0), .ref (se 0), .ref (b 1), .ref (tr 0), .ref (nw 0)]))], [(b 1, .inl (cy 2, 2, .inr (.inr (.inr (.inr ((slF o0 o1)))))))], textW cy t (nI z) f, pastW cy pa ct L, poolW cy L, searchW cy se (th 0) sc pf bf, hotelW cy th y0, hotelW cy tr y1, hotelW cy nw x, slotW cy o0, slotW cy o1]) → va_S A s.heap H locs → W p l e rm_X7_requireGuest s m args below meth c H locs 0 0 Q (F0 m 0 ls []) from key s.heap [] hP hD va_S.rf
  intro H locs hP hD hS
  refine lv_aload_n hx hb dX7_requireGuest_0 rfl (lv_at hl 0 rfl) ?_
  refine va_get (ci := 4) (v := .ref (nw 0)) (C := RX7) (T := TX7) (N := 6) hx hb hts hin_X7 hown hK hP 0 rfl rfl 5 (by decide) (hts (.fieldLink RX7 41 "ButtonGuests" "now" "LButtonGuests$Hotel;") (by decide +kernel)) (fun _ h9 => h9) rfl dX7_requireGuest_1 ?_
  refine lv_iload_n hx hb dX7_requireGuest_4 rfl (lv_at hl 1 rfl) ?_
  refine rd_V (As := [.int g]) (rest := []) hF (c_X1_isGuest l D cy nw n hn x hg g) (cwV 1 hts gX7_requireGuest_X1_isGuest rfl rfl rfl (by decide +kernel) ⟨Nat.le_of_ble_eq_true rfl, Nat.le_of_ble_eq_true rfl⟩) hK (zz_Pl (zz_Pp hP (zz_pick1 [[(b 0, .inr (4, [.ref (t 0), .ref (pa 0), .ref (se 0), .ref (b 1), .ref (tr 0), .ref (nw 0)]))], [(b 1, .inl (cy 2, 2, .inr (.inr (.inr (.inr ((slF o0 o1)))))))], textW cy t (nI z) f, pastW cy pa ct L, poolW cy L, searchW cy se (th 0) sc pf bf, hotelW cy th y0, hotelW cy tr y1, hotelW cy nw x, slotW cy o0, slotW cy o1] 8 [0, 1, 2, 3, 4, 5, 6, 7, 9, 10] (show List.Perm ([8] ++ [0, 1, 2, 3, 4, 5, 6, 7, 9, 10]) (List.range 11) by decide) rfl rfl))) 0 0 rfl rfl rfl rfl hl.1 rfl (Nat.le_of_ble_eq_true rfl) dX7_requireGuest_5 ⟨Nat.le_of_ble_eq_true rfl, Nat.le_of_ble_eq_true rfl⟩ ?_
  refine zz_top (y := zb (isG (nI n) g)) (by rw [hg]) ?_
  refine lv_if_ne (tgt := 21) hx hb dX7_requireGuest_8 (by decide) (fun c_1 => ?_) (fun c_1 => ?_)
  · have c_1 := zb_ne.mp c_1
    exact W.widen (k := 1) (n := 6) (Nat.le_of_ble_eq_true rfl) (Nat.le_of_ble_eq_true rfl) (hret _ _ H locs () dX7_requireGuest_21 hP hD hS (c_1))
  · have c_1 := zb_eq.mp c_1
    rw [hQ]
    exact thr_I hx hb hl0 hown hX hS (hl.1.trans hml.symm) (hts (.classLink RX7 131 exI) (by decide +kernel)) (hts (.initialized exI) (by decide +kernel)) (fun w hw => hts w (hsub_I w hw)) 20 rfl dX7_requireGuest_11 dX7_requireGuest_14 dX7_requireGuest_15 dX7_requireGuest_17 dX7_requireGuest_20 hno (Nat.le_of_ble_eq_true rfl) (Nat.le_of_ble_eq_true rfl) (Nat.le_of_ble_eq_true rfl) (Nat.le_of_ble_eq_true rfl) hlocks (fun t _ h1 h2 => thX_of hP hD hS (k := 1) (if_neg c_1) (by decide) rfl h1 h2) hS.2.2 (Nat.le_of_ble_eq_true rfl) (Nat.le_of_ble_eq_true rfl)
abbrev rm_X7_requireSlot : Room := { frames := 6, cells := 1, slots := 6, locals := 90 }
set_option maxHeartbeats 4000000 in
set_option maxRecDepth 100000 in
theorem c_X7_requireSlot (l : Launch) (D : va_G) (cy : Nat → ClassId) (hl0 : l.stackTraces = false) (b t pa se th tr nw : Nat → Nat) (z : Nat) (hz : z ≤ 120) (f : Nat → Int32) (ct : Nat) (L : List HQ) (hc1 : ct ≤ L.length) (hc2 : L.length ≤ 14) (sc : Int32) (pf bf : Nat → Int32) (y0 y1 x : HS) (o0 o1 : Option HQ) (n : Nat) (hn : n ≤ 4) (hg : x.1.1 = nI n) (hok : okX n x) (v : Int32) (sz : Nat) : vx_Met l yX7_requireSlot wsX7_requireSlot rm_X7_requireSlot (wrX D cy [.ref (b 0), .int v] (guestsW cy b t pa se th tr ((z, f), (ct, L), ((sc, pf, bf), y0), y1, (nw, x), (o0, o1))) sz (Gx (va_A (guestsW cy b t pa se th tr ((z, f), (ct, L), ((sc, pf, bf), y0), y1, (nw, x), (o0, o1))) sz))) (va_Qv (fun u : Unit => inL v.toInt64 0 1) (wrB D (va_A (guestsW cy b t pa se th tr ((z, f), (ct, L), ((sc, pf, bf), y0), y1, (nw, x), (o0, o1))) sz) (fun u => guestsW cy b t pa se th tr ((z, f), (ct, L), ((sc, pf, bf), y0), y1, (nw, x), (o0, o1)))) (va_A (guestsW cy b t pa se th tr ((z, f), (ct, L), ((sc, pf, bf), y0), y1, (nw, x), (o0, o1))) sz)) (thX D (va_A (guestsW cy b t pa se th tr ((z, f), (ct, L), ((sc, pf, bf), y0), y1, (nw, x), (o0, o1))) sz) (guestsW cy b t pa se th tr ((z, f), (ct, L), ((sc, pf, bf), y0), y1, (nw, x), (o0, o1))) [exI] (kSave v)) 1 6 (va_A (guestsW cy b t pa se th tr ((z, f), (ct, L), ((sc, pf, bf), y0), y1, (nw, x), (o0, o1))) sz) := by
  refine MthV (cc := cX7_requireSlot) (maxL := 2) (by decide) rfl (Nat.le_of_ble_eq_true rfl) ?_
  intro p e s m args below meth c Q ls A hAe hsz hQ hlocks hno hX0 hF hK hP hD hA hl hret
  rw [← hsz, ← hAe] at hX0
  have hX : Gx A s := hX0
  have hX0 : Gs A s := hX.1.1
  have hGn : Gn s := hX.1.2
  obtain ⟨hx, hb, hml, hown, hts⟩ := id hF
  have hown : s.vm.findClass RX7 = some m.cls := hown
  have hin_X7 : ∀ w ∈ u_ws RX7 TX7 6, w ∈ wsX7_requireSlot := by decide +kernel
  have hsub_I : ∀ w ∈ (vx_atS RX7 135 exI exN).filter goodWord, w ∈ wsX7_requireSlot := by decide +kernel
  have hl : lv_has ls 2 [(0, .ref (b 0)), (1, .int v)] := hl
  suffices key : ∀ (H : Heap) (locs : List Loc), va_P D vwCl (wj [[(b 0, .inr (4, [.ref (t 0), .ref (pa 0), .ref (se 0), .ref (b 1), .ref (tr 0), .ref (nw 0)]))], [(b 1, .inl (cy 2, 2, .inr (.inr (.inr (.inr ((slF o0 o1)))))))], textW cy t (nI z) f, pastW cy pa ct L, poolW cy L, searchW cy se (th 0) sc pf bf, hotelW cy th y0, hotelW cy tr y1, hotelW cy nw x, slotW cy o0, slotW cy o1]) H → va_D A (wj [[(b 0, .inr (4, [.ref (t 0), .ref (pa 0), .ref (se 0), .ref (b 1), .ref (tr 0), .ref (nw 0)]))], [(b 1, .inl (cy 2, 2, .inr (.inr (.inr (.inr ((slF o0 o1)))))))], textW cy t (nI z) f, pastW cy pa ct L, poolW cy L, searchW cy se (th 0) sc pf bf, hotelW cy th y0, hotelW cy tr y1, hotelW cy nw x, slotW cy o0, slotW cy o1]) → va_S A s.heap H locs → W p l e rm_X7_requireSlot s m args below meth c H locs 0 0 Q (F0 m 0 ls []) from key s.heap [] hP hD va_S.rf
  intro H locs hP hD hS
  refine lv_iload_n hx hb dX7_requireSlot_0 rfl (lv_at hl 1 rfl) ?_
  refine lv_if_lt (tgt := 13) hx hb dX7_requireSlot_1 (by decide) (fun c_1 => ?_) (fun c_1 => ?_)
  · have c_1 : v < 0 := c_1
    rw [hQ]
    exact thr_I hx hb hl0 hown hX hS (hl.1.trans hml.symm) (hts (.classLink RX7 131 exI) (by decide +kernel)) (hts (.initialized exI) (by decide +kernel)) (fun w hw => hts w (hsub_I w hw)) 21 rfl dX7_requireSlot_13 dX7_requireSlot_16 dX7_requireSlot_17 dX7_requireSlot_19 dX7_requireSlot_22 hno (Nat.le_of_ble_eq_true rfl) (Nat.le_of_ble_eq_true rfl) (Nat.le_of_ble_eq_true rfl) (Nat.le_of_ble_eq_true rfl) hlocks (fun t _ h1 h2 => thX_of hP hD hS (k := 1) (if_neg (show ¬ inL v.toInt64 0 1 from in_lo (a := 0) (c := 1) c_1)) (by decide) rfl h1 h2) hS.2.2 (Nat.le_of_ble_eq_true rfl) (Nat.le_of_ble_eq_true rfl)
  · have c_1 : ¬ v < 0 := c_1
    refine lv_iload_n hx hb dX7_requireSlot_4 rfl (lv_at hl 1 rfl) ?_
    refine lv_aload_n hx hb dX7_requireSlot_5 rfl (lv_at hl 0 rfl) ?_
    refine va_get (ci := 4) (v := .ref (b 1)) (C := RX7) (T := TX7) (N := 6) hx hb hts hin_X7 hown hK hP 0 rfl rfl 3 (by decide) (hts (.fieldLink RX7 32 "ButtonGuests" "slots" "[LButtonGuests$Hotel;") (by decide +kernel)) (fun _ h9 => h9) rfl dX7_requireSlot_6 ?_
    refine va_alen (v := 2) hx hb hK hP 1 2 rfl rfl rfl dX7_requireSlot_9 ?_
    refine lv_icmp_lt (tgt := 23) hx hb dX7_requireSlot_10 (by decide) (fun c_2 => ?_) (fun c_2 => ?_)
    · have c_2 : v < 2 := c_2
      exact W.widen (k := 1) (n := 6) (Nat.le_of_ble_eq_true rfl) (Nat.le_of_ble_eq_true rfl) (hret _ _ H locs () dX7_requireSlot_23 hP hD hS (in_ok (a := 0) (c := 1) c_1 (s_ok c_2)))
    · have c_2 : ¬ v < 2 := c_2
      rw [hQ]
      exact thr_I hx hb hl0 hown hX hS (hl.1.trans hml.symm) (hts (.classLink RX7 131 exI) (by decide +kernel)) (hts (.initialized exI) (by decide +kernel)) (fun w hw => hts w (hsub_I w hw)) 21 rfl dX7_requireSlot_13 dX7_requireSlot_16 dX7_requireSlot_17 dX7_requireSlot_19 dX7_requireSlot_22 hno (Nat.le_of_ble_eq_true rfl) (Nat.le_of_ble_eq_true rfl) (Nat.le_of_ble_eq_true rfl) (Nat.le_of_ble_eq_true rfl) hlocks (fun t _ h1 h2 => thX_of hP hD hS (k := 1) (if_neg (show ¬ inL v.toInt64 0 1 from in_hi (a := 0) (c := 1) (s_hi c_2))) (by decide) rfl h1 h2) hS.2.2 (Nat.le_of_ble_eq_true rfl) (Nat.le_of_ble_eq_true rfl)
