theorem chr_small {v : Int32} (h1 : ¬ v < 0) (h2 : v ≤ 255) : (v.toUInt32 % 65536).toInt32 = v := by
  obtain ⟨k, hk, rfl⟩ := nI_of h1
  rw [Int32.le_iff_toInt_le, nI_toInt hk] at h2
  have e : (255 : Int32).toInt = 255 := rfl
  rw [pk_char]
  have e2 : (nI k).toBitVec.toNat = k := by
    show k % 2 ^ 32 = k
    exact Nat.mod_eq_of_lt (by omega)
  rw [e2, Nat.mod_eq_of_lt (by omega)]
theorem chr_nar {v : Int32} (h1 : ¬ v < 0) (h2 : v ≤ 255) : vp_nar .char v = v := by
  rw [← chr_small h1 h2]
  exact pk_vc v
theorem set3 {v : Int32} (h : isG 3 v) : inL v.toInt64 0 2 := by
  obtain ⟨j, hj, rfl⟩ := isG_of (n := 3) (by decide) h
  exact in_ok (a := 0) (c := 2) h.1 (nI_le (b := 2) (by omega) (by decide))
theorem set3n {v : Int32} (h : ¬ isG 3 v) : ¬ inL v.toInt64 0 2 := fun q => h (by
  obtain ⟨w, hw, rfl⟩ := inL_nat (c := 2) (k := 2) (by decide) rfl q
  exact isG_nI (n := 3) (by decide) (by omega))
abbrev rm_X7_append : Room := { frames := 6, cells := 1, slots := 6, locals := 90 }
set_option maxHeartbeats 4000000 in
set_option maxRecDepth 100000 in
theorem c_X7_append (l : Launch) (D : va_G) (cy : Nat → ClassId) (hl0 : l.stackTraces = false) (b t pa se th tr nw : Nat → Nat) (z : Nat) (hz : z ≤ 120) (f : Nat → Int32) (ct : Nat) (L : List HQ) (hc1 : ct ≤ L.length) (hc2 : L.length ≤ 14) (sc : Int32) (pf bf : Nat → Int32) (y0 y1 x : HS) (o0 o1 : Option HQ) (n : Nat) (hn : n ≤ 4) (hg : x.1.1 = nI n) (hok : okX n x) (v : Int32) (sz : Nat) : vx_Met l yX7_append wsX7_append rm_X7_append (wrX D cy [.ref (b 0), .int v] (guestsW cy b t pa se th tr ((z, f), (ct, L), ((sc, pf, bf), y0), y1, (nw, x), (o0, o1))) sz (Gx (va_A (guestsW cy b t pa se th tr ((z, f), (ct, L), ((sc, pf, bf), y0), y1, (nw, x), (o0, o1))) sz))) (va_Qi (fun (r : Int32) (u : BS) => kApp z v = 0 ∧ r = nI (z + 1) ∧ u = ((z + 1, upd f z v), (ct, L), ((sc, pf, bf), y0), y1, (nw, x), (o0, o1))) (wrB D (va_A (guestsW cy b t pa se th tr ((z, f), (ct, L), ((sc, pf, bf), y0), y1, (nw, x), (o0, o1))) sz) (fun u => guestsW cy b t pa se th tr u)) (va_A (guestsW cy b t pa se th tr ((z, f), (ct, L), ((sc, pf, bf), y0), y1, (nw, x), (o0, o1))) sz)) (thX D (va_A (guestsW cy b t pa se th tr ((z, f), (ct, L), ((sc, pf, bf), y0), y1, (nw, x), (o0, o1))) sz) (guestsW cy b t pa se th tr ((z, f), (ct, L), ((sc, pf, bf), y0), y1, (nw, x), (o0, o1))) [exA, exS] (kApp z v)) 1 6 (va_A (guestsW cy b t pa se th tr ((z, f), (ct, L), ((sc, pf, bf), y0), y1, (nw, x), (o0, o1))) sz) := by
  refine MthI (cc := cX7_append) (maxL := 2) (ty := .int) (by decide) rfl (Nat.le_of_ble_eq_true rfl) (fun _ _ _ => rfl) ?_
  intro p e s m args below meth c Q ls A hAe hsz hQ hlocks hno hX0 hF hK hP hD hA hl hret
  rw [← hsz, ← hAe] at hX0
  have hX : Gx A s := hX0
  have hX0 : Gs A s := hX.1.1
  have hGn : Gn s := hX.1.2
  obtain ⟨hx, hb, hml, hown, hts⟩ := id hF
  have hown : s.vm.findClass RX7 = some m.cls := hown
  have hin_X7 : ∀ w ∈ u_ws RX7 TX7 6, w ∈ wsX7_append := by decide +kernel
  have hsub_A : ∀ w ∈ (vx_atS RX7 48 exA exN).filter goodWord, w ∈ wsX7_append := by decide +kernel
  have hsub_S : ∀ w ∈ (vx_atS RX7 59 exS exN).filter goodWord, w ∈ wsX7_append := by decide +kernel
  have hl : lv_has ls 2 [(0, .ref (b 0)), (1, .int v)] := hl
  suffices key : ∀ (H : Heap) (locs : List Loc), va_P D vwCl (wj [[(b 0, .inr (4, [.ref (t 0), .ref (pa 0), .ref (se 0), .ref (b 1), .ref (tr 0), .ref (nw 0)]))], [(b 1, .inl (cy 2, 2, .inr (.inr (.inr (.inr ((slF o0 o1)))))))], textW cy t (nI z) f, pastW cy pa ct L, poolW cy L, searchW cy se (th 0) sc pf bf, hotelW cy th y0, hotelW cy tr y1, hotelW cy nw x, slotW cy o0, slotW cy o1]) H → va_D A (wj [[(b 0, .inr (4, [.ref (t 0), .ref (pa 0), .ref (se 0), .ref (b 1), .ref (tr 0), .ref (nw 0)]))], [(b 1, .inl (cy 2, 2, .inr (.inr (.inr (.inr ((slF o0 o1)))))))], textW cy t (nI z) f, pastW cy pa ct L, poolW cy L, searchW cy se (th 0) sc pf bf, hotelW cy th y0, hotelW cy tr y1, hotelW cy nw x, slotW cy o0, slotW cy o1]) → va_S A s.heap H locs → W p l e rm_X7_append s m args below meth c H locs 0 0 Q (F0 m 0 ls []) from key s.heap [] hP hD va_S.rf
  intro H locs hP hD hS
  refine lv_iload_n hx hb dX7_append_0 rfl (lv_at hl 1 rfl) ?_
  refine lv_if_lt (tgt := 11) hx hb dX7_append_1 (by decide) (fun c_1 => ?_) (fun c_1 => ?_)
  · have c_1 : v < 0 := c_1
    rw [hQ]
    exact thr_A hx hb hl0 hown hX hS (hl.1.trans hml.symm) (hts (.classLink RX7 44 exA) (by decide +kernel)) (hts (.initialized exA) (by decide +kernel)) (fun w hw => hts w (hsub_A w hw)) 0 rfl dX7_append_11 dX7_append_14 dX7_append_15 dX7_append_17 dX7_append_20 hno (Nat.le_of_ble_eq_true rfl) (Nat.le_of_ble_eq_true rfl) (Nat.le_of_ble_eq_true rfl) (Nat.le_of_ble_eq_true rfl) hlocks (fun t _ h1 h2 => thX_of hP hD hS (k := 1) (by simp only [kApp, if_neg (show ¬ inL v.toInt64 0 255 from in_lo (a := 0) (c := 255) c_1)]) (by decide) rfl h1 h2) hS.2.2 (Nat.le_of_ble_eq_true rfl) (Nat.le_of_ble_eq_true rfl)
  · have c_1 : ¬ v < 0 := c_1
    refine lv_iload_n hx hb dX7_append_4 rfl (lv_at hl 1 rfl) ?_
    refine lv_sipush (v := 255) hx hb dX7_append_5 (by decide) ?_
    refine lv_icmp_le (tgt := 21) hx hb dX7_append_8 (by decide) (fun c_2 => ?_) (fun c_2 => ?_)
    · have c_2 : v ≤ 255 := c_2
      refine lv_aload_n hx hb dX7_append_21 rfl (lv_at hl 0 rfl) ?_
      refine va_get (ci := 4) (v := .ref (t 0)) (C := RX7) (T := TX7) (N := 6) hx hb hts hin_X7 hown hK hP 0 rfl rfl 0 (by decide) (hts (.fieldLink RX7 10 "ButtonGuests" "text" "LButtonGuests$HotelText;") (by decide +kernel)) (fun _ h9 => h9) rfl dX7_append_22 ?_
      refine rd_V (As := []) (rest := []) hF (c_X2_isFull l D cy t z hz f ) (cwV 0 hts gX7_append_X2_isFull rfl rfl rfl (by decide +kernel) ⟨Nat.le_of_ble_eq_true rfl, Nat.le_of_ble_eq_true rfl⟩) hK (hP.sub [2, 3] rfl) 0 1 rfl rfl rfl rfl hl.1 rfl (Nat.le_of_ble_eq_true rfl) dX7_append_25 ⟨Nat.le_of_ble_eq_true rfl, Nat.le_of_ble_eq_true rfl⟩ ?_
      refine lv_if_eq (tgt := 41) hx hb dX7_append_28 (by decide) (fun c_3 => ?_) (fun c_3 => ?_)
      · have c_3 := zb_eq.mp c_3
        refine lv_aload_n hx hb dX7_append_41 rfl (lv_at hl 0 rfl) ?_
        refine va_get (ci := 4) (v := .ref (t 0)) (C := RX7) (T := TX7) (N := 6) hx hb hts hin_X7 hown hK hP 0 rfl rfl 0 (by decide) (hts (.fieldLink RX7 10 "ButtonGuests" "text" "LButtonGuests$HotelText;") (by decide +kernel)) (fun _ h9 => h9) rfl dX7_append_42 ?_
        refine lv_iload_n hx hb dX7_append_45 rfl (lv_at hl 1 rfl) ?_
        refine lv_i2c (v := (v.toUInt32 % 65536).toInt32) hx hb dX7_append_46 rfl ?_
        refine zz_top (y := v) (chr_small c_1 c_2) ?_
        have hnx := chr_nar c_1 c_2
        refine wr_i (fun u => wj [[(b 0, .inr (4, [.ref (t 0), .ref (pa 0), .ref (se 0), .ref (b 1), .ref (tr 0), .ref (nw 0)]))], [(b 1, .inl (cy 2, 2, .inr (.inr (.inr (.inr ((slF o0 o1)))))))], textW cy t u.1 u.2, pastW cy pa ct L, poolW cy L, searchW cy se (th 0) sc pf bf, hotelW cy th y0, hotelW cy tr y1, hotelW cy nw x, slotW cy o0, slotW cy o1]) (va_runV (As := [.int v]) (rest := []) hF (c_X2_add l D cy t z hz f v hnx H.size) (cwV 1 hts gX7_append_X2_add rfl rfl rfl (by decide +kernel) ⟨Nat.le_of_ble_eq_true rfl, Nat.le_of_ble_eq_true rfl⟩) (wr_preV hK hP hD (zz_pick1 [[(b 0, .inr (4, [.ref (t 0), .ref (pa 0), .ref (se 0), .ref (b 1), .ref (tr 0), .ref (nw 0)]))], [(b 1, .inl (cy 2, 2, .inr (.inr (.inr (.inr ((slF o0 o1)))))))], textW cy t (nI z) f, pastW cy pa ct L, poolW cy L, searchW cy se (th 0) sc pf bf, hotelW cy th y0, hotelW cy tr y1, hotelW cy nw x, slotW cy o0, slotW cy o1] 2 [0, 1, 3, 4, 5, 6, 7, 8, 9, 10] (show List.Perm ([2] ++ [0, 1, 3, 4, 5, 6, 7, 8, 9, 10]) (List.range 11) by decide) rfl rfl) 0 1 rfl rfl rfl) rfl rfl hl.1 rfl (lv_room (Nat.le_of_ble_eq_true rfl)) dX7_append_47 ⟨Nat.le_of_ble_eq_true rfl, Nat.le_of_ble_eq_true rfl⟩) hP hD hS hA (zz_pick1 [[(b 0, .inr (4, [.ref (t 0), .ref (pa 0), .ref (se 0), .ref (b 1), .ref (tr 0), .ref (nw 0)]))], [(b 1, .inl (cy 2, 2, .inr (.inr (.inr (.inr ((slF o0 o1)))))))], textW cy t (nI z) f, pastW cy pa ct L, poolW cy L, searchW cy se (th 0) sc pf bf, hotelW cy th y0, hotelW cy tr y1, hotelW cy nw x, slotW cy o0, slotW cy o1] 2 [0, 1, 3, 4, 5, 6, 7, 8, 9, 10] (show List.Perm ([2] ++ [0, 1, 3, 4, 5, 6, 7, 8, 9, 10]) (List.range 11) by decide) rfl rfl) (fun u => (zz_pick1 [[(b 0, .inr (4, [.ref (t 0), .ref (pa 0), .ref (se 0), .ref (b 1), .ref (tr 0), .ref (nw 0)]))], [(b 1, .inl (cy 2, 2, .inr (.inr (.inr (.inr ((slF o0 o1)))))))], textW cy t u.1 u.2, pastW cy pa ct L, poolW cy L, searchW cy se (th 0) sc pf bf, hotelW cy th y0, hotelW cy tr y1, hotelW cy nw x, slotW cy o0, slotW cy o1] 2 [0, 1, 3, 4, 5, 6, 7, 8, 9, 10] (show List.Perm ([2] ++ [0, 1, 3, 4, 5, 6, 7, 8, 9, 10]) (List.range 11) by decide) rfl rfl)) (fun r_4 u_5 H locs e_6 hP hD hS => ?_)
        obtain ⟨rfl, rfl⟩ := e_6
        refine zz_top (y := nI (z + 1)) (if_neg (by omega)) ?_
        rw [if_neg (show ¬ 120 ≤ z by omega)] at hP hD
        have hP : va_P D vwCl (wj [[(b 0, .inr (4, [.ref (t 0), .ref (pa 0), .ref (se 0), .ref (b 1), .ref (tr 0), .ref (nw 0)]))], [(b 1, .inl (cy 2, 2, .inr (.inr (.inr (.inr ((slF o0 o1)))))))], textW cy t (nI (z + 1)) ((upd f z v)), pastW cy pa ct L, poolW cy L, searchW cy se (th 0) sc pf bf, hotelW cy th y0, hotelW cy tr y1, hotelW cy nw x, slotW cy o0, slotW cy o1]) H := hP
        have hD : va_D A (wj [[(b 0, .inr (4, [.ref (t 0), .ref (pa 0), .ref (se 0), .ref (b 1), .ref (tr 0), .ref (nw 0)]))], [(b 1, .inl (cy 2, 2, .inr (.inr (.inr (.inr ((slF o0 o1)))))))], textW cy t (nI (z + 1)) ((upd f z v)), pastW cy pa ct L, poolW cy L, searchW cy se (th 0) sc pf bf, hotelW cy th y0, hotelW cy tr y1, hotelW cy nw x, slotW cy o0, slotW cy o1]) := hD
        exact W.widen (k := 1) (n := 6) (Nat.le_of_ble_eq_true rfl) (Nat.le_of_ble_eq_true rfl) (hret _ _ H locs _ (((z + 1), (upd f z v)), (ct, L), ((sc, pf, bf), y0), y1, (nw, x), (o0, o1)) dX7_append_50 hP hD hS (⟨by simp only [kApp, if_pos (show inL v.toInt64 0 255 from in_ok (a := 0) (c := 255) c_1 c_2), if_neg (show ¬ z = 120 by omega)], rfl, rfl⟩))
      · have c_3 := zb_ne.mp c_3
        rw [hQ]
        exact thr_S hx hb hl0 hown hX hS (hl.1.trans hml.symm) (hts (.classLink RX7 55 exS) (by decide +kernel)) (hts (.initialized exS) (by decide +kernel)) (fun w hw => hts w (hsub_S w hw)) 1 rfl dX7_append_31 dX7_append_34 dX7_append_35 dX7_append_37 dX7_append_40 hno (Nat.le_of_ble_eq_true rfl) (Nat.le_of_ble_eq_true rfl) (Nat.le_of_ble_eq_true rfl) (Nat.le_of_ble_eq_true rfl) hlocks (fun t _ h1 h2 => thX_of hP hD hS (k := 2) (by simp only [kApp, if_pos (show inL v.toInt64 0 255 from in_ok (a := 0) (c := 255) c_1 c_2), if_pos (show z = 120 by omega)]) (by decide) rfl h1 h2) hS.2.2 (Nat.le_of_ble_eq_true rfl) (Nat.le_of_ble_eq_true rfl)
    · have c_2 : ¬ v ≤ 255 := c_2
      rw [hQ]
      exact thr_A hx hb hl0 hown hX hS (hl.1.trans hml.symm) (hts (.classLink RX7 44 exA) (by decide +kernel)) (hts (.initialized exA) (by decide +kernel)) (fun w hw => hts w (hsub_A w hw)) 0 rfl dX7_append_11 dX7_append_14 dX7_append_15 dX7_append_17 dX7_append_20 hno (Nat.le_of_ble_eq_true rfl) (Nat.le_of_ble_eq_true rfl) (Nat.le_of_ble_eq_true rfl) (Nat.le_of_ble_eq_true rfl) hlocks (fun t _ h1 h2 => thX_of hP hD hS (k := 1) (by simp only [kApp, if_neg (show ¬ inL v.toInt64 0 255 from in_hi (a := 0) (c := 255) c_2)]) (by decide) rfl h1 h2) hS.2.2 (Nat.le_of_ble_eq_true rfl) (Nat.le_of_ble_eq_true rfl)
abbrev rm_X7_clearText : Room := { frames := 1, cells := 0, slots := 0, locals := 21 }
abbrev rm_X7_errorPosition : Room := { frames := 4, cells := 0, slots := 0, locals := 91 }
abbrev rm_X7_about : Room := { frames := 6, cells := 1, slots := 6, locals := 90 }
set_option maxHeartbeats 4000000 in
set_option maxRecDepth 100000 in
theorem c_X7_about (l : Launch) (D : va_G) (cy : Nat → ClassId) (hl0 : l.stackTraces = false) (b t pa se th tr nw : Nat → Nat) (z : Nat) (hz : z ≤ 120) (f : Nat → Int32) (ct : Nat) (L : List HQ) (hc1 : ct ≤ L.length) (hc2 : L.length ≤ 14) (sc : Int32) (pf bf : Nat → Int32) (y0 y1 x : HS) (o0 o1 : Option HQ) (n : Nat) (hn : n ≤ 4) (hg : x.1.1 = nI n) (hok : okX n x) (v : Int32) (sz : Nat) : vx_Met l yX7_about wsX7_about rm_X7_about (wrX D cy [.ref (b 0), .int v] (guestsW cy b t pa se th tr ((z, f), (ct, L), ((sc, pf, bf), y0), y1, (nw, x), (o0, o1))) sz (Gx (va_A (guestsW cy b t pa se th tr ((z, f), (ct, L), ((sc, pf, bf), y0), y1, (nw, x), (o0, o1))) sz))) (va_Qi (fun (r : Int32) (u : BS) => kAbout v = 0 ∧ r = hNum n x v ∧ u = ((z, f), (ct, L), ((sc, pf, bf), y0), y1, (nw, x), (o0, o1))) (wrB D (va_A (guestsW cy b t pa se th tr ((z, f), (ct, L), ((sc, pf, bf), y0), y1, (nw, x), (o0, o1))) sz) (fun u => guestsW cy b t pa se th tr u)) (va_A (guestsW cy b t pa se th tr ((z, f), (ct, L), ((sc, pf, bf), y0), y1, (nw, x), (o0, o1))) sz)) (thX D (va_A (guestsW cy b t pa se th tr ((z, f), (ct, L), ((sc, pf, bf), y0), y1, (nw, x), (o0, o1))) sz) (guestsW cy b t pa se th tr ((z, f), (ct, L), ((sc, pf, bf), y0), y1, (nw, x), (o0, o1))) [exA] (kAbout v)) 1 6 (va_A (guestsW cy b t pa se th tr ((z, f), (ct, L), ((sc, pf, bf), y0), y1, (nw, x), (o0, o1))) sz) := by
  refine MthI (cc := cX7_about) (maxL := 2) (ty := .int) (by decide) rfl (Nat.le_of_ble_eq_true rfl) (fun _ _ _ => rfl) ?_
  intro p e s m args below meth c Q ls A hAe hsz hQ hlocks hno hX0 hF hK hP hD hA hl hret
  rw [← hsz, ← hAe] at hX0
  have hX : Gx A s := hX0
  have hX0 : Gs A s := hX.1.1
  have hGn : Gn s := hX.1.2
  obtain ⟨hx, hb, hml, hown, hts⟩ := id hF
  have hown : s.vm.findClass RX7 = some m.cls := hown
  have hin_X7 : ∀ w ∈ u_ws RX7 TX7 6, w ∈ wsX7_about := by decide +kernel
  have hsub_A : ∀ w ∈ (vx_atS RX7 48 exA exN).filter goodWord, w ∈ wsX7_about := by decide +kernel
  have hl : lv_has ls 2 [(0, .ref (b 0)), (1, .int v)] := hl
  suffices key : ∀ (H : Heap) (locs : List Loc), va_P D vwCl (wj [[(b 0, .inr (4, [.ref (t 0), .ref (pa 0), .ref (se 0), .ref (b 1), .ref (tr 0), .ref (nw 0)]))], [(b 1, .inl (cy 2, 2, .inr (.inr (.inr (.inr ((slF o0 o1)))))))], textW cy t (nI z) f, pastW cy pa ct L, poolW cy L, searchW cy se (th 0) sc pf bf, hotelW cy th y0, hotelW cy tr y1, hotelW cy nw x, slotW cy o0, slotW cy o1]) H → va_D A (wj [[(b 0, .inr (4, [.ref (t 0), .ref (pa 0), .ref (se 0), .ref (b 1), .ref (tr 0), .ref (nw 0)]))], [(b 1, .inl (cy 2, 2, .inr (.inr (.inr (.inr ((slF o0 o1)))))))], textW cy t (nI z) f, pastW cy pa ct L, poolW cy L, searchW cy se (th 0) sc pf bf, hotelW cy th y0, hotelW cy tr y1, hotelW cy nw x, slotW cy o0, slotW cy o1]) → va_S A s.heap H locs → W p l e rm_X7_about s m args below meth c H locs 0 0 Q (F0 m 0 ls []) from key s.heap [] hP hD va_S.rf
  intro H locs hP hD hS
  refine lv_iload_n hx hb dX7_about_0 rfl (lv_at hl 1 rfl) ?_
  refine lv_if_lt (tgt := 10) hx hb dX7_about_1 (by decide) (fun c_1 => ?_) (fun c_1 => ?_)
  · have c_1 : v < 0 := c_1
    rw [hQ]
    exact thr_A hx hb hl0 hown hX hS (hl.1.trans hml.symm) (hts (.classLink RX7 44 exA) (by decide +kernel)) (hts (.initialized exA) (by decide +kernel)) (fun w hw => hts w (hsub_A w hw)) 3 rfl dX7_about_10 dX7_about_13 dX7_about_14 dX7_about_16 dX7_about_19 hno (Nat.le_of_ble_eq_true rfl) (Nat.le_of_ble_eq_true rfl) (Nat.le_of_ble_eq_true rfl) (Nat.le_of_ble_eq_true rfl) hlocks (fun t _ h1 h2 => thX_of hP hD hS (k := 1) (by simp only [kAbout, if_neg (show ¬ inL v.toInt64 0 11 from in_lo (a := 0) (c := 11) c_1)]) (by decide) rfl h1 h2) hS.2.2 (Nat.le_of_ble_eq_true rfl) (Nat.le_of_ble_eq_true rfl)
  · have c_1 : ¬ v < 0 := c_1
    refine lv_iload_n hx hb dX7_about_4 rfl (lv_at hl 1 rfl) ?_
    refine lv_bipush (v := 11) hx hb dX7_about_5 (by decide) ?_
    refine lv_icmp_le (tgt := 20) hx hb dX7_about_7 (by decide) (fun c_2 => ?_) (fun c_2 => ?_)
    · have c_2 : v ≤ 11 := c_2
      refine lv_aload_n hx hb dX7_about_20 rfl (lv_at hl 0 rfl) ?_
      refine va_get (ci := 4) (v := .ref (nw 0)) (C := RX7) (T := TX7) (N := 6) hx hb hts hin_X7 hown hK hP 0 rfl rfl 5 (by decide) (hts (.fieldLink RX7 41 "ButtonGuests" "now" "LButtonGuests$Hotel;") (by decide +kernel)) (fun _ h9 => h9) rfl dX7_about_21 ?_
      refine lv_iload_n hx hb dX7_about_24 rfl (lv_at hl 1 rfl) ?_
      refine rd_V (As := [.int v]) (rest := []) hF (c_X1_number l D cy nw n hn x hg v) (cwV 1 hts gX7_about_X1_number rfl rfl rfl (by decide +kernel) ⟨Nat.le_of_ble_eq_true rfl, Nat.le_of_ble_eq_true rfl⟩) hK (zz_Pl (zz_Pp hP (zz_pick1 [[(b 0, .inr (4, [.ref (t 0), .ref (pa 0), .ref (se 0), .ref (b 1), .ref (tr 0), .ref (nw 0)]))], [(b 1, .inl (cy 2, 2, .inr (.inr (.inr (.inr ((slF o0 o1)))))))], textW cy t (nI z) f, pastW cy pa ct L, poolW cy L, searchW cy se (th 0) sc pf bf, hotelW cy th y0, hotelW cy tr y1, hotelW cy nw x, slotW cy o0, slotW cy o1] 8 [0, 1, 2, 3, 4, 5, 6, 7, 9, 10] (show List.Perm ([8] ++ [0, 1, 2, 3, 4, 5, 6, 7, 9, 10]) (List.range 11) by decide) rfl rfl))) 0 0 rfl rfl rfl rfl hl.1 rfl (Nat.le_of_ble_eq_true rfl) dX7_about_25 ⟨Nat.le_of_ble_eq_true rfl, Nat.le_of_ble_eq_true rfl⟩ ?_
      exact W.widen (k := 1) (n := 6) (Nat.le_of_ble_eq_true rfl) (Nat.le_of_ble_eq_true rfl) (hret _ _ H locs _ ((z, f), (ct, L), ((sc, pf, bf), y0), y1, (nw, x), (o0, o1)) dX7_about_28 hP hD hS (⟨by simp only [kAbout, if_pos (show inL v.toInt64 0 11 from in_ok (a := 0) (c := 11) c_1 c_2)], rfl, rfl⟩))
    · have c_2 : ¬ v ≤ 11 := c_2
      rw [hQ]
      exact thr_A hx hb hl0 hown hX hS (hl.1.trans hml.symm) (hts (.classLink RX7 44 exA) (by decide +kernel)) (hts (.initialized exA) (by decide +kernel)) (fun w hw => hts w (hsub_A w hw)) 3 rfl dX7_about_10 dX7_about_13 dX7_about_14 dX7_about_16 dX7_about_19 hno (Nat.le_of_ble_eq_true rfl) (Nat.le_of_ble_eq_true rfl) (Nat.le_of_ble_eq_true rfl) (Nat.le_of_ble_eq_true rfl) hlocks (fun t _ h1 h2 => thX_of hP hD hS (k := 1) (by simp only [kAbout, if_neg (show ¬ inL v.toInt64 0 11 from in_hi (a := 0) (c := 11) c_2)]) (by decide) rfl h1 h2) hS.2.2 (Nat.le_of_ble_eq_true rfl) (Nat.le_of_ble_eq_true rfl)
abbrev rm_X7_guestOf : Room := { frames := 7, cells := 2, slots := 12, locals := 111 }
set_option maxHeartbeats 4000000 in
set_option maxRecDepth 100000 in
theorem c_X7_guestOf (l : Launch) (D : va_G) (cy : Nat → ClassId) (hl0 : l.stackTraces = false) (b t pa se th tr nw : Nat → Nat) (z : Nat) (hz : z ≤ 120) (f : Nat → Int32) (ct : Nat) (L : List HQ) (hc1 : ct ≤ L.length) (hc2 : L.length ≤ 14) (sc : Int32) (pf bf : Nat → Int32) (y0 y1 x : HS) (o0 o1 : Option HQ) (n : Nat) (hn : n ≤ 4) (hg : x.1.1 = nI n) (hok : okX n x) (g v : Int32) (sz : Nat) : vx_Met l yX7_guestOf wsX7_guestOf rm_X7_guestOf (wrX D cy [.ref (b 0), .int g, .int v] (guestsW cy b t pa se th tr ((z, f), (ct, L), ((sc, pf, bf), y0), y1, (nw, x), (o0, o1))) sz (Gx (va_A (guestsW cy b t pa se th tr ((z, f), (ct, L), ((sc, pf, bf), y0), y1, (nw, x), (o0, o1))) sz))) (va_Qi (fun (r : Int32) (u : BS) => kGuest (nI n) g v = 0 ∧ r = hGuestN x g v ∧ u = ((z, f), (ct, L), ((sc, pf, bf), y0), y1, (nw, x), (o0, o1))) (wrB D (va_A (guestsW cy b t pa se th tr ((z, f), (ct, L), ((sc, pf, bf), y0), y1, (nw, x), (o0, o1))) sz) (fun u => guestsW cy b t pa se th tr u)) (va_A (guestsW cy b t pa se th tr ((z, f), (ct, L), ((sc, pf, bf), y0), y1, (nw, x), (o0, o1))) sz)) (thX D (va_A (guestsW cy b t pa se th tr ((z, f), (ct, L), ((sc, pf, bf), y0), y1, (nw, x), (o0, o1))) sz) (guestsW cy b t pa se th tr ((z, f), (ct, L), ((sc, pf, bf), y0), y1, (nw, x), (o0, o1))) [exI, exA] (kGuest (nI n) g v)) 2 12 (va_A (guestsW cy b t pa se th tr ((z, f), (ct, L), ((sc, pf, bf), y0), y1, (nw, x), (o0, o1))) sz) := by
  refine MthI (cc := cX7_guestOf) (maxL := 3) (ty := .int) (by decide) rfl (Nat.le_of_ble_eq_true rfl) (fun _ _ _ => rfl) ?_
  intro p e s m args below meth c Q ls A hAe hsz hQ hlocks hno hX0 hF hK hP hD hA hl hret
  rw [← hsz, ← hAe] at hX0
  have hX : Gx A s := hX0
  have hX0 : Gs A s := hX.1.1
  have hGn : Gn s := hX.1.2
  obtain ⟨hx, hb, hml, hown, hts⟩ := id hF
  have hown : s.vm.findClass RX7 = some m.cls := hown
  have hin_X7 : ∀ w ∈ u_ws RX7 TX7 6, w ∈ wsX7_guestOf := by decide +kernel
  have hsub_A : ∀ w ∈ (vx_atS RX7 48 exA exN).filter goodWord, w ∈ wsX7_guestOf := by decide +kernel
  have hl : lv_has ls 3 [(0, .ref (b 0)), (1, .int g), (2, .int v)] := hl
  suffices key : ∀ (H : Heap) (locs : List Loc), va_P D vwCl (wj [[(b 0, .inr (4, [.ref (t 0), .ref (pa 0), .ref (se 0), .ref (b 1), .ref (tr 0), .ref (nw 0)]))], [(b 1, .inl (cy 2, 2, .inr (.inr (.inr (.inr ((slF o0 o1)))))))], textW cy t (nI z) f, pastW cy pa ct L, poolW cy L, searchW cy se (th 0) sc pf bf, hotelW cy th y0, hotelW cy tr y1, hotelW cy nw x, slotW cy o0, slotW cy o1]) H → va_D A (wj [[(b 0, .inr (4, [.ref (t 0), .ref (pa 0), .ref (se 0), .ref (b 1), .ref (tr 0), .ref (nw 0)]))], [(b 1, .inl (cy 2, 2, .inr (.inr (.inr (.inr ((slF o0 o1)))))))], textW cy t (nI z) f, pastW cy pa ct L, poolW cy L, searchW cy se (th 0) sc pf bf, hotelW cy th y0, hotelW cy tr y1, hotelW cy nw x, slotW cy o0, slotW cy o1]) → va_S A s.heap H locs → W p l e rm_X7_guestOf s m args below meth c H locs 0 0 Q (F0 m 0 ls []) from key s.heap [] hP hD va_S.rf
  intro H locs hP hD hS
  refine lv_aload_n hx hb dX7_guestOf_0 rfl (lv_at hl 0 rfl) ?_
  refine lv_iload_n hx hb dX7_guestOf_1 rfl (lv_at hl 1 rfl) ?_
  refine th_v (fun _ : Unit => wj [[(b 0, .inr (4, [.ref (t 0), .ref (pa 0), .ref (se 0), .ref (b 1), .ref (tr 0), .ref (nw 0)]))], [(b 1, .inl (cy 2, 2, .inr (.inr (.inr (.inr ((slF o0 o1)))))))], textW cy t (nI z) f, pastW cy pa ct L, poolW cy L, searchW cy se (th 0) sc pf bf, hotelW cy th y0, hotelW cy tr y1, hotelW cy nw x, slotW cy o0, slotW cy o1]) (vx_runV (As := [.int g]) (rest := []) hF (c_X7_requireGuest l D cy hl0 b t pa se th tr nw z hz f ct L hc1 hc2 sc pf bf y0 y1 x o0 o1 n hn hg hok g H.size) (cwV 1 hts gX7_guestOf_X7_requireGuest rfl rfl rfl (by decide +kernel) ⟨Nat.le_of_ble_eq_true rfl, Nat.le_of_ble_eq_true rfl⟩) (wrX_preV hK hP hD (zz_all _) 0 4 rfl rfl rfl Xok_x (fun U hU hW => Gx.at hX hS (zz_free hD (zz_all _) hS hA) hU hW)) rfl rfl hl.1 rfl (lv_room (Nat.le_of_ble_eq_true rfl)) dX7_guestOf_2 ⟨Nat.le_of_ble_eq_true rfl, Nat.le_of_ble_eq_true rfl⟩) hP hD hS hA (zz_all _) (fun _ => zz_all _) (fun E ce q9 H locs hE hKn hP hD hS hc hv hcl => ?_) (fun _ H locs c_1 hP hD hS => ?_)
  · have hng := kG_ne hKn
    have hE : E = exI := xn_1 hE hKn (kG_1 hng)
    rw [hQ]
    exact vx_out (fun x h => (hno x h).elim) hlocks hc hv hcl (fun t ht _ => thX_up hP hD hS (by rw [show kGuest (nI n) g v = 1 from by simp only [kGuest, if_neg hng]]; decide) (by rw [show kGuest (nI n) g v = 1 from by simp only [kGuest, if_neg hng]]; exact hE) ht) hS.2.2 (Nat.le_of_ble_eq_true rfl) (Nat.le_of_ble_eq_true rfl)
  · have hP : va_P D vwCl (wj [[(b 0, .inr (4, [.ref (t 0), .ref (pa 0), .ref (se 0), .ref (b 1), .ref (tr 0), .ref (nw 0)]))], [(b 1, .inl (cy 2, 2, .inr (.inr (.inr (.inr ((slF o0 o1)))))))], textW cy t (nI z) f, pastW cy pa ct L, poolW cy L, searchW cy se (th 0) sc pf bf, hotelW cy th y0, hotelW cy tr y1, hotelW cy nw x, slotW cy o0, slotW cy o1]) H := hP
    have hD : va_D A (wj [[(b 0, .inr (4, [.ref (t 0), .ref (pa 0), .ref (se 0), .ref (b 1), .ref (tr 0), .ref (nw 0)]))], [(b 1, .inl (cy 2, 2, .inr (.inr (.inr (.inr ((slF o0 o1)))))))], textW cy t (nI z) f, pastW cy pa ct L, poolW cy L, searchW cy se (th 0) sc pf bf, hotelW cy th y0, hotelW cy tr y1, hotelW cy nw x, slotW cy o0, slotW cy o1]) := hD
    refine lv_iload_n hx hb dX7_guestOf_5 rfl (lv_at hl 2 rfl) ?_
    refine lv_if_lt (tgt := 15) hx hb dX7_guestOf_6 (by decide) (fun c_2 => ?_) (fun c_2 => ?_)
    · have c_2 : v < 0 := c_2
      rw [hQ]
      exact thr_A hx hb hl0 hown hX hS (hl.1.trans hml.symm) (hts (.classLink RX7 44 exA) (by decide +kernel)) (hts (.initialized exA) (by decide +kernel)) (fun w hw => hts w (hsub_A w hw)) 4 rfl dX7_guestOf_15 dX7_guestOf_18 dX7_guestOf_19 dX7_guestOf_21 dX7_guestOf_24 hno (Nat.le_of_ble_eq_true rfl) (Nat.le_of_ble_eq_true rfl) (Nat.le_of_ble_eq_true rfl) (Nat.le_of_ble_eq_true rfl) hlocks (fun t _ h1 h2 => thX_of hP hD hS (k := 2) (by simp only [kGuest, if_pos c_1, if_neg (show ¬ inL v.toInt64 0 7 from in_lo (a := 0) (c := 7) c_2)]) (by decide) rfl h1 h2) hS.2.2 (Nat.le_of_ble_eq_true rfl) (Nat.le_of_ble_eq_true rfl)
    · have c_2 : ¬ v < 0 := c_2
      refine lv_iload_n hx hb dX7_guestOf_9 rfl (lv_at hl 2 rfl) ?_
      refine lv_bipush (v := 7) hx hb dX7_guestOf_10 (by decide) ?_
      refine lv_icmp_le (tgt := 25) hx hb dX7_guestOf_12 (by decide) (fun c_3 => ?_) (fun c_3 => ?_)
      · have c_3 : v ≤ 7 := c_3
        refine lv_aload_n hx hb dX7_guestOf_25 rfl (lv_at hl 0 rfl) ?_
        refine va_get (ci := 4) (v := .ref (nw 0)) (C := RX7) (T := TX7) (N := 6) hx hb hts hin_X7 hown hK hP 0 rfl rfl 5 (by decide) (hts (.fieldLink RX7 41 "ButtonGuests" "now" "LButtonGuests$Hotel;") (by decide +kernel)) (fun _ h9 => h9) rfl dX7_guestOf_26 ?_
        refine lv_iload_n hx hb dX7_guestOf_29 rfl (lv_at hl 1 rfl) ?_
        refine lv_iload_n hx hb dX7_guestOf_30 rfl (lv_at hl 2 rfl) ?_
        refine rd_V (As := [.int g, .int v]) (rest := []) hF (c_X1_guestNumber l D cy nw n hn x hg g v) (cwV 2 hts gX7_guestOf_X1_guestNumber rfl rfl rfl (by decide +kernel) ⟨Nat.le_of_ble_eq_true rfl, Nat.le_of_ble_eq_true rfl⟩) hK (zz_Pl (zz_Pp hP (zz_pick1 [[(b 0, .inr (4, [.ref (t 0), .ref (pa 0), .ref (se 0), .ref (b 1), .ref (tr 0), .ref (nw 0)]))], [(b 1, .inl (cy 2, 2, .inr (.inr (.inr (.inr ((slF o0 o1)))))))], textW cy t (nI z) f, pastW cy pa ct L, poolW cy L, searchW cy se (th 0) sc pf bf, hotelW cy th y0, hotelW cy tr y1, hotelW cy nw x, slotW cy o0, slotW cy o1] 8 [0, 1, 2, 3, 4, 5, 6, 7, 9, 10] (show List.Perm ([8] ++ [0, 1, 2, 3, 4, 5, 6, 7, 9, 10]) (List.range 11) by decide) rfl rfl))) 0 0 rfl rfl rfl rfl hl.1 rfl (Nat.le_of_ble_eq_true rfl) dX7_guestOf_31 ⟨Nat.le_of_ble_eq_true rfl, Nat.le_of_ble_eq_true rfl⟩ ?_
        exact W.widen (k := 2) (n := 12) (Nat.le_of_ble_eq_true rfl) (Nat.le_of_ble_eq_true rfl) (hret _ _ H locs _ ((z, f), (ct, L), ((sc, pf, bf), y0), y1, (nw, x), (o0, o1)) dX7_guestOf_34 hP hD hS (⟨by simp only [kGuest, if_pos c_1, if_pos (show inL v.toInt64 0 7 from in_ok (a := 0) (c := 7) c_2 c_3)], rfl, rfl⟩))
      · have c_3 : ¬ v ≤ 7 := c_3
        rw [hQ]
        exact thr_A hx hb hl0 hown hX hS (hl.1.trans hml.symm) (hts (.classLink RX7 44 exA) (by decide +kernel)) (hts (.initialized exA) (by decide +kernel)) (fun w hw => hts w (hsub_A w hw)) 4 rfl dX7_guestOf_15 dX7_guestOf_18 dX7_guestOf_19 dX7_guestOf_21 dX7_guestOf_24 hno (Nat.le_of_ble_eq_true rfl) (Nat.le_of_ble_eq_true rfl) (Nat.le_of_ble_eq_true rfl) (Nat.le_of_ble_eq_true rfl) hlocks (fun t _ h1 h2 => thX_of hP hD hS (k := 2) (by simp only [kGuest, if_pos c_1, if_neg (show ¬ inL v.toInt64 0 7 from in_hi (a := 0) (c := 7) c_3)]) (by decide) rfl h1 h2) hS.2.2 (Nat.le_of_ble_eq_true rfl) (Nat.le_of_ble_eq_true rfl)
abbrev rm_X7_floorOf : Room := { frames := 6, cells := 1, slots := 6, locals := 90 }
set_option maxHeartbeats 4000000 in
set_option maxRecDepth 100000 in
theorem c_X7_floorOf (l : Launch) (D : va_G) (cy : Nat → ClassId) (hl0 : l.stackTraces = false) (b t pa se th tr nw : Nat → Nat) (z : Nat) (hz : z ≤ 120) (f : Nat → Int32) (ct : Nat) (L : List HQ) (hc1 : ct ≤ L.length) (hc2 : L.length ≤ 14) (sc : Int32) (pf bf : Nat → Int32) (y0 y1 x : HS) (o0 o1 : Option HQ) (n : Nat) (hn : n ≤ 4) (hg : x.1.1 = nI n) (hok : okX n x) (f9 v : Int32) (sz : Nat) : vx_Met l yX7_floorOf wsX7_floorOf rm_X7_floorOf (wrX D cy [.ref (b 0), .int f9, .int v] (guestsW cy b t pa se th tr ((z, f), (ct, L), ((sc, pf, bf), y0), y1, (nw, x), (o0, o1))) sz (Gx (va_A (guestsW cy b t pa se th tr ((z, f), (ct, L), ((sc, pf, bf), y0), y1, (nw, x), (o0, o1))) sz))) (va_Qi (fun (r : Int32) (u : BS) => kFloor f9 v = 0 ∧ r = hFS n x f9 v ∧ u = ((z, f), (ct, L), ((sc, pf, bf), y0), y1, (nw, x), (o0, o1))) (wrB D (va_A (guestsW cy b t pa se th tr ((z, f), (ct, L), ((sc, pf, bf), y0), y1, (nw, x), (o0, o1))) sz) (fun u => guestsW cy b t pa se th tr u)) (va_A (guestsW cy b t pa se th tr ((z, f), (ct, L), ((sc, pf, bf), y0), y1, (nw, x), (o0, o1))) sz)) (thX D (va_A (guestsW cy b t pa se th tr ((z, f), (ct, L), ((sc, pf, bf), y0), y1, (nw, x), (o0, o1))) sz) (guestsW cy b t pa se th tr ((z, f), (ct, L), ((sc, pf, bf), y0), y1, (nw, x), (o0, o1))) [exI, exA] (kFloor f9 v)) 1 6 (va_A (guestsW cy b t pa se th tr ((z, f), (ct, L), ((sc, pf, bf), y0), y1, (nw, x), (o0, o1))) sz) := by
  refine MthI (cc := cX7_floorOf) (maxL := 3) (ty := .int) (by decide) rfl (Nat.le_of_ble_eq_true rfl) (fun _ _ _ => rfl) ?_
  intro p e s m args below meth c Q ls A hAe hsz hQ hlocks hno hX0 hF hK hP hD hA hl hret
  rw [← hsz, ← hAe] at hX0
  have hX : Gx A s := hX0
  have hX0 : Gs A s := hX.1.1
  have hGn : Gn s := hX.1.2
  obtain ⟨hx, hb, hml, hown, hts⟩ := id hF
  have hown : s.vm.findClass RX7 = some m.cls := hown
  have hin_X7 : ∀ w ∈ u_ws RX7 TX7 6, w ∈ wsX7_floorOf := by decide +kernel
  have hsub_A : ∀ w ∈ (vx_atS RX7 48 exA exN).filter goodWord, w ∈ wsX7_floorOf := by decide +kernel
  have hsub_I : ∀ w ∈ (vx_atS RX7 135 exI exN).filter goodWord, w ∈ wsX7_floorOf := by decide +kernel
  have hl : lv_has ls 3 [(0, .ref (b 0)), (1, .int f9), (2, .int v)] := hl
  suffices key : ∀ (H : Heap) (locs : List Loc), va_P D vwCl (wj [[(b 0, .inr (4, [.ref (t 0), .ref (pa 0), .ref (se 0), .ref (b 1), .ref (tr 0), .ref (nw 0)]))], [(b 1, .inl (cy 2, 2, .inr (.inr (.inr (.inr ((slF o0 o1)))))))], textW cy t (nI z) f, pastW cy pa ct L, poolW cy L, searchW cy se (th 0) sc pf bf, hotelW cy th y0, hotelW cy tr y1, hotelW cy nw x, slotW cy o0, slotW cy o1]) H → va_D A (wj [[(b 0, .inr (4, [.ref (t 0), .ref (pa 0), .ref (se 0), .ref (b 1), .ref (tr 0), .ref (nw 0)]))], [(b 1, .inl (cy 2, 2, .inr (.inr (.inr (.inr ((slF o0 o1)))))))], textW cy t (nI z) f, pastW cy pa ct L, poolW cy L, searchW cy se (th 0) sc pf bf, hotelW cy th y0, hotelW cy tr y1, hotelW cy nw x, slotW cy o0, slotW cy o1]) → va_S A s.heap H locs → W p l e rm_X7_floorOf s m args below meth c H locs 0 0 Q (F0 m 0 ls []) from key s.heap [] hP hD va_S.rf
  intro H locs hP hD hS
  refine lv_iload_n hx hb dX7_floorOf_0 rfl (lv_at hl 1 rfl) ?_
  refine rd_S (As := [.int f9]) (rest := []) hF (c_X1_isFloor l D cy f9) (va_cwS 1 hts gX7_floorOf_X1_isFloor rfl rfl rfl (by decide +kernel) ⟨Nat.le_of_ble_eq_true rfl, Nat.le_of_ble_eq_true rfl⟩) hK (fun k q h => by simp at h) rfl hl.1 rfl (Nat.le_of_ble_eq_true rfl) dX7_floorOf_1 ⟨Nat.le_of_ble_eq_true rfl, Nat.le_of_ble_eq_true rfl⟩ ?_
  refine lv_if_ne (tgt := 17) hx hb dX7_floorOf_4 (by decide) (fun c_1 => ?_) (fun c_1 => ?_)
  · have c_1 := zb_ne.mp c_1
    refine lv_iload_n hx hb dX7_floorOf_17 rfl (lv_at hl 2 rfl) ?_
    refine lv_if_lt (tgt := 26) hx hb dX7_floorOf_18 (by decide) (fun c_2 => ?_) (fun c_2 => ?_)
    · have c_2 : v < 0 := c_2
      rw [hQ]
      exact thr_A hx hb hl0 hown hX hS (hl.1.trans hml.symm) (hts (.classLink RX7 44 exA) (by decide +kernel)) (hts (.initialized exA) (by decide +kernel)) (fun w hw => hts w (hsub_A w hw)) 6 rfl dX7_floorOf_26 dX7_floorOf_29 dX7_floorOf_30 dX7_floorOf_32 dX7_floorOf_35 hno (Nat.le_of_ble_eq_true rfl) (Nat.le_of_ble_eq_true rfl) (Nat.le_of_ble_eq_true rfl) (Nat.le_of_ble_eq_true rfl) hlocks (fun t _ h1 h2 => thX_of hP hD hS (k := 2) (by simp only [kFloor, if_pos c_1, if_neg (show ¬ inL v.toInt64 0 2 from in_lo (a := 0) (c := 2) c_2)]) (by decide) rfl h1 h2) hS.2.2 (Nat.le_of_ble_eq_true rfl) (Nat.le_of_ble_eq_true rfl)
    · have c_2 : ¬ v < 0 := c_2
      refine lv_iload_n hx hb dX7_floorOf_21 rfl (lv_at hl 2 rfl) ?_
      refine lv_iconst (v := 2) hx hb dX7_floorOf_22 (by decide) ?_
      refine lv_icmp_le (tgt := 36) hx hb dX7_floorOf_23 (by decide) (fun c_3 => ?_) (fun c_3 => ?_)
      · have c_3 : v ≤ 2 := c_3
        refine lv_aload_n hx hb dX7_floorOf_36 rfl (lv_at hl 0 rfl) ?_
        refine va_get (ci := 4) (v := .ref (nw 0)) (C := RX7) (T := TX7) (N := 6) hx hb hts hin_X7 hown hK hP 0 rfl rfl 5 (by decide) (hts (.fieldLink RX7 41 "ButtonGuests" "now" "LButtonGuests$Hotel;") (by decide +kernel)) (fun _ h9 => h9) rfl dX7_floorOf_37 ?_
        refine lv_iload_n hx hb dX7_floorOf_40 rfl (lv_at hl 1 rfl) ?_
        refine lv_iload_n hx hb dX7_floorOf_41 rfl (lv_at hl 2 rfl) ?_
        refine rd_V (As := [.int f9, .int v]) (rest := []) hF (c_X1_floorSet l D cy nw n hn x hg f9 v) (cwV 2 hts gX7_floorOf_X1_floorSet rfl rfl rfl (by decide +kernel) ⟨Nat.le_of_ble_eq_true rfl, Nat.le_of_ble_eq_true rfl⟩) hK (zz_Pl (zz_Pp hP (zz_pick1 [[(b 0, .inr (4, [.ref (t 0), .ref (pa 0), .ref (se 0), .ref (b 1), .ref (tr 0), .ref (nw 0)]))], [(b 1, .inl (cy 2, 2, .inr (.inr (.inr (.inr ((slF o0 o1)))))))], textW cy t (nI z) f, pastW cy pa ct L, poolW cy L, searchW cy se (th 0) sc pf bf, hotelW cy th y0, hotelW cy tr y1, hotelW cy nw x, slotW cy o0, slotW cy o1] 8 [0, 1, 2, 3, 4, 5, 6, 7, 9, 10] (show List.Perm ([8] ++ [0, 1, 2, 3, 4, 5, 6, 7, 9, 10]) (List.range 11) by decide) rfl rfl))) 0 0 rfl rfl rfl rfl hl.1 rfl (Nat.le_of_ble_eq_true rfl) dX7_floorOf_42 ⟨Nat.le_of_ble_eq_true rfl, Nat.le_of_ble_eq_true rfl⟩ ?_
        exact W.widen (k := 1) (n := 6) (Nat.le_of_ble_eq_true rfl) (Nat.le_of_ble_eq_true rfl) (hret _ _ H locs _ ((z, f), (ct, L), ((sc, pf, bf), y0), y1, (nw, x), (o0, o1)) dX7_floorOf_45 hP hD hS (⟨by simp only [kFloor, if_pos c_1, if_pos (show inL v.toInt64 0 2 from in_ok (a := 0) (c := 2) c_2 c_3)], rfl, rfl⟩))
      · have c_3 : ¬ v ≤ 2 := c_3
        rw [hQ]
        exact thr_A hx hb hl0 hown hX hS (hl.1.trans hml.symm) (hts (.classLink RX7 44 exA) (by decide +kernel)) (hts (.initialized exA) (by decide +kernel)) (fun w hw => hts w (hsub_A w hw)) 6 rfl dX7_floorOf_26 dX7_floorOf_29 dX7_floorOf_30 dX7_floorOf_32 dX7_floorOf_35 hno (Nat.le_of_ble_eq_true rfl) (Nat.le_of_ble_eq_true rfl) (Nat.le_of_ble_eq_true rfl) (Nat.le_of_ble_eq_true rfl) hlocks (fun t _ h1 h2 => thX_of hP hD hS (k := 2) (by simp only [kFloor, if_pos c_1, if_neg (show ¬ inL v.toInt64 0 2 from in_hi (a := 0) (c := 2) c_3)]) (by decide) rfl h1 h2) hS.2.2 (Nat.le_of_ble_eq_true rfl) (Nat.le_of_ble_eq_true rfl)
  · have c_1 := zb_eq.mp c_1
    rw [hQ]
    exact thr_I hx hb hl0 hown hX hS (hl.1.trans hml.symm) (hts (.classLink RX7 131 exI) (by decide +kernel)) (hts (.initialized exI) (by decide +kernel)) (fun w hw => hts w (hsub_I w hw)) 5 rfl dX7_floorOf_7 dX7_floorOf_10 dX7_floorOf_11 dX7_floorOf_13 dX7_floorOf_16 hno (Nat.le_of_ble_eq_true rfl) (Nat.le_of_ble_eq_true rfl) (Nat.le_of_ble_eq_true rfl) (Nat.le_of_ble_eq_true rfl) hlocks (fun t _ h1 h2 => thX_of hP hD hS (k := 1) (by simp only [kFloor, if_neg c_1]) (by decide) rfl h1 h2) hS.2.2 (Nat.le_of_ble_eq_true rfl) (Nat.le_of_ble_eq_true rfl)
abbrev rm_X7_setting : Room := { frames := 6, cells := 1, slots := 6, locals := 90 }
set_option maxHeartbeats 4000000 in
set_option maxRecDepth 100000 in
theorem c_X7_setting (l : Launch) (D : va_G) (cy : Nat → ClassId) (hl0 : l.stackTraces = false) (b t pa se th tr nw : Nat → Nat) (z : Nat) (hz : z ≤ 120) (f : Nat → Int32) (ct : Nat) (L : List HQ) (hc1 : ct ≤ L.length) (hc2 : L.length ≤ 14) (sc : Int32) (pf bf : Nat → Int32) (y0 y1 x : HS) (o0 o1 : Option HQ) (n : Nat) (hn : n ≤ 4) (hg : x.1.1 = nI n) (hok : okX n x) (v : Int32) (sz : Nat) : vx_Met l yX7_setting wsX7_setting rm_X7_setting (wrX D cy [.ref (b 0), .int v] (guestsW cy b t pa se th tr ((z, f), (ct, L), ((sc, pf, bf), y0), y1, (nw, x), (o0, o1))) sz (Gx (va_A (guestsW cy b t pa se th tr ((z, f), (ct, L), ((sc, pf, bf), y0), y1, (nw, x), (o0, o1))) sz))) (va_Qi (fun (r : Int32) (u : BS) => kSetg v = 0 ∧ r = hSgOf x v ∧ u = ((z, f), (ct, L), ((sc, pf, bf), y0), y1, (nw, x), (o0, o1))) (wrB D (va_A (guestsW cy b t pa se th tr ((z, f), (ct, L), ((sc, pf, bf), y0), y1, (nw, x), (o0, o1))) sz) (fun u => guestsW cy b t pa se th tr u)) (va_A (guestsW cy b t pa se th tr ((z, f), (ct, L), ((sc, pf, bf), y0), y1, (nw, x), (o0, o1))) sz)) (thX D (va_A (guestsW cy b t pa se th tr ((z, f), (ct, L), ((sc, pf, bf), y0), y1, (nw, x), (o0, o1))) sz) (guestsW cy b t pa se th tr ((z, f), (ct, L), ((sc, pf, bf), y0), y1, (nw, x), (o0, o1))) [exA] (kSetg v)) 1 6 (va_A (guestsW cy b t pa se th tr ((z, f), (ct, L), ((sc, pf, bf), y0), y1, (nw, x), (o0, o1))) sz) := by
  refine MthI (cc := cX7_setting) (maxL := 2) (ty := .int) (by decide) rfl (Nat.le_of_ble_eq_true rfl) (fun _ _ _ => rfl) ?_
  intro p e s m args below meth c Q ls A hAe hsz hQ hlocks hno hX0 hF hK hP hD hA hl hret
  rw [← hsz, ← hAe] at hX0
  have hX : Gx A s := hX0
  have hX0 : Gs A s := hX.1.1
  have hGn : Gn s := hX.1.2
  obtain ⟨hx, hb, hml, hown, hts⟩ := id hF
  have hown : s.vm.findClass RX7 = some m.cls := hown
  have hin_X7 : ∀ w ∈ u_ws RX7 TX7 6, w ∈ wsX7_setting := by decide +kernel
  have hsub_A : ∀ w ∈ (vx_atS RX7 48 exA exN).filter goodWord, w ∈ wsX7_setting := by decide +kernel
  have hl : lv_has ls 2 [(0, .ref (b 0)), (1, .int v)] := hl
  suffices key : ∀ (H : Heap) (locs : List Loc), va_P D vwCl (wj [[(b 0, .inr (4, [.ref (t 0), .ref (pa 0), .ref (se 0), .ref (b 1), .ref (tr 0), .ref (nw 0)]))], [(b 1, .inl (cy 2, 2, .inr (.inr (.inr (.inr ((slF o0 o1)))))))], textW cy t (nI z) f, pastW cy pa ct L, poolW cy L, searchW cy se (th 0) sc pf bf, hotelW cy th y0, hotelW cy tr y1, hotelW cy nw x, slotW cy o0, slotW cy o1]) H → va_D A (wj [[(b 0, .inr (4, [.ref (t 0), .ref (pa 0), .ref (se 0), .ref (b 1), .ref (tr 0), .ref (nw 0)]))], [(b 1, .inl (cy 2, 2, .inr (.inr (.inr (.inr ((slF o0 o1)))))))], textW cy t (nI z) f, pastW cy pa ct L, poolW cy L, searchW cy se (th 0) sc pf bf, hotelW cy th y0, hotelW cy tr y1, hotelW cy nw x, slotW cy o0, slotW cy o1]) → va_S A s.heap H locs → W p l e rm_X7_setting s m args below meth c H locs 0 0 Q (F0 m 0 ls []) from key s.heap [] hP hD va_S.rf
  intro H locs hP hD hS
  refine lv_iload_n hx hb dX7_setting_0 rfl (lv_at hl 1 rfl) ?_
  refine rd_SX (As := [.int v]) (rest := []) hF (c_X1_isSetting l D cy v) (va_cwS 1 hts gX7_setting_X1_isSetting rfl rfl rfl (by decide +kernel) ⟨Nat.le_of_ble_eq_true rfl, Nat.le_of_ble_eq_true rfl⟩) hK (fun k q h => by simp at h) Xok_s (fun U hU hW => Gs.at hX0 hS (fun _ h => h.elim) hU hW) rfl hl.1 rfl (Nat.le_of_ble_eq_true rfl) dX7_setting_1 ⟨Nat.le_of_ble_eq_true rfl, Nat.le_of_ble_eq_true rfl⟩ ?_
  refine lv_if_ne (tgt := 17) hx hb dX7_setting_4 (by decide) (fun c_1 => ?_) (fun c_1 => ?_)
  · have c_1 := zb_ne.mp c_1
    refine lv_aload_n hx hb dX7_setting_17 rfl (lv_at hl 0 rfl) ?_
    refine va_get (ci := 4) (v := .ref (nw 0)) (C := RX7) (T := TX7) (N := 6) hx hb hts hin_X7 hown hK hP 0 rfl rfl 5 (by decide) (hts (.fieldLink RX7 41 "ButtonGuests" "now" "LButtonGuests$Hotel;") (by decide +kernel)) (fun _ h9 => h9) rfl dX7_setting_18 ?_
    refine lv_iload_n hx hb dX7_setting_21 rfl (lv_at hl 1 rfl) ?_
    refine rd_VX (As := [.int v]) (rest := []) hF (c_X1_settingOf l D cy nw x v) (cwV 1 hts gX7_setting_X1_settingOf rfl rfl rfl (by decide +kernel) ⟨Nat.le_of_ble_eq_true rfl, Nat.le_of_ble_eq_true rfl⟩) hK (zz_Pl (zz_Pp hP (zz_pick1 [[(b 0, .inr (4, [.ref (t 0), .ref (pa 0), .ref (se 0), .ref (b 1), .ref (tr 0), .ref (nw 0)]))], [(b 1, .inl (cy 2, 2, .inr (.inr (.inr (.inr ((slF o0 o1)))))))], textW cy t (nI z) f, pastW cy pa ct L, poolW cy L, searchW cy se (th 0) sc pf bf, hotelW cy th y0, hotelW cy tr y1, hotelW cy nw x, slotW cy o0, slotW cy o1] 8 [0, 1, 2, 3, 4, 5, 6, 7, 9, 10] (show List.Perm ([8] ++ [0, 1, 2, 3, 4, 5, 6, 7, 9, 10]) (List.range 11) by decide) rfl rfl))) 0 0 rfl rfl rfl Xok_s (fun U hU hW => Gs.at hX0 hS (fun _ h => h.elim) hU hW) rfl hl.1 rfl (Nat.le_of_ble_eq_true rfl) dX7_setting_22 ⟨Nat.le_of_ble_eq_true rfl, Nat.le_of_ble_eq_true rfl⟩ ?_
    exact W.widen (k := 1) (n := 6) (Nat.le_of_ble_eq_true rfl) (Nat.le_of_ble_eq_true rfl) (hret _ _ H locs _ ((z, f), (ct, L), ((sc, pf, bf), y0), y1, (nw, x), (o0, o1)) dX7_setting_25 hP hD hS (⟨by simp only [kSetg, if_pos (set3 c_1)], rfl, rfl⟩))
  · have c_1 := zb_eq.mp c_1
    rw [hQ]
    exact thr_A hx hb hl0 hown hX hS (hl.1.trans hml.symm) (hts (.classLink RX7 44 exA) (by decide +kernel)) (hts (.initialized exA) (by decide +kernel)) (fun w hw => hts w (hsub_A w hw)) 7 rfl dX7_setting_7 dX7_setting_10 dX7_setting_11 dX7_setting_13 dX7_setting_16 hno (Nat.le_of_ble_eq_true rfl) (Nat.le_of_ble_eq_true rfl) (Nat.le_of_ble_eq_true rfl) (Nat.le_of_ble_eq_true rfl) hlocks (fun t _ h1 h2 => thX_of hP hD hS (k := 1) (by simp only [kSetg, if_neg (set3n c_1)]) (by decide) rfl h1 h2) hS.2.2 (Nat.le_of_ble_eq_true rfl) (Nat.le_of_ble_eq_true rfl)
