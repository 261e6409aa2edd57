abbrev rm_X8_in : Room := { frames := 0, cells := 0, slots := 0, locals := 0 }
set_option maxHeartbeats 4000000 in
set_option maxRecDepth 100000 in
theorem c_X8_in (l : Launch) (D : va_G) (cy : Nat → ClassId) (v lo up : Int64) : Met l yX8_in wsX8_in rm_X8_in (rdP D cy [.long v, .long lo, .long up] ([])) (QcRead (zb (inL v lo up))) 0 0 (fun _ => False) := by
  refine Mrd (cc := cX8_in) (maxL := 6) (ty := .boolean) (by decide) rfl (Nat.le_of_ble_eq_true rfl) zb_nar ?_
  intro p e s m args below meth c Q ls hF hK hP hl hret
  obtain ⟨hx, hb, hml, hown, hts⟩ := id hF
  have hown : s.vm.findClass RX8 = some m.cls := hown
  have hl : lv_has ls 6 [(0, .long v), (2, .long lo), (4, .long up)] := hl
  refine lv_lload_n hx hb dX8_in_0 rfl (lv_at hl 0 rfl) ?_
  refine lv_lload_n hx hb dX8_in_1 rfl (lv_at hl 1 rfl) ?_
  refine W.lcmp hx hb dX8_in_2 ?_
  refine lv_if_lt (tgt := 17) hx hb dX8_in_3 (by decide) (fun c_1 => ?_) (fun c_1 => ?_)
  · have c_1 := (lg_cmp_lt _ _).mp c_1
    refine lv_iconst (v := 0) hx hb dX8_in_17 (by decide) ?_
    exact zz_top (zb_f (fun q => q.1 c_1) ) (hret _ _ dX8_in_18)
  · have c_1 := fun q => c_1 ((lg_cmp_lt _ _).mpr q)
    refine lv_lload_n hx hb dX8_in_6 rfl (lv_at hl 0 rfl) ?_
    refine lv_lload hx hb dX8_in_7 (lv_at hl 2 rfl) ?_
    refine W.lcmp hx hb dX8_in_9 ?_
    refine lv_if_gt (tgt := 17) hx hb dX8_in_10 (by decide) (fun c_2 => ?_) (fun c_2 => ?_)
    · have c_2 := (lg_cmp_gt _ _).mp c_2
      refine lv_iconst (v := 0) hx hb dX8_in_17 (by decide) ?_
      exact zz_top (zb_f (fun q => q.2 c_2) ) (hret _ _ dX8_in_18)
    · have c_2 := fun q => c_2 ((lg_cmp_gt _ _).mpr q)
      refine lv_iconst (v := 1) hx hb dX8_in_13 (by decide) ?_
      refine lv_goto (tgt := 18) hx hb dX8_in_14 (by decide) ?_
      exact zz_top (zb_t ⟨c_1, c_2⟩ ) (hret _ _ dX8_in_18)
abbrev rm_X8_isFloor : Room := { frames := 1, cells := 0, slots := 0, locals := 25 }
set_option maxHeartbeats 4000000 in
set_option maxRecDepth 100000 in
theorem c_X8_isFloor (l : Launch) (D : va_G) (cy : Nat → ClassId) (f : Int32) : Met l yX8_isFloor wsX8_isFloor rm_X8_isFloor (rdP D cy [.int f] ([])) (QcRead (zb (okF f))) 0 0 (fun _ => False) := by
  refine Mrd (cc := cX8_isFloor) (maxL := 1) (ty := .boolean) (by decide) rfl (Nat.le_of_ble_eq_true rfl) zb_nar ?_
  intro p e s m args below meth c Q ls hF hK hP hl hret
  obtain ⟨hx, hb, hml, hown, hts⟩ := id hF
  have hown : s.vm.findClass RX8 = some m.cls := hown
  have hl : lv_has ls 1 [(0, .int f)] := hl
  refine lv_iload_n hx hb dX8_isFloor_0 rfl (lv_at hl 0 rfl) ?_
  refine lv_i2l (v := Int32.toInt64 f) hx hb dX8_isFloor_1 rfl ?_
  refine lv_lconst (v := 0) hx hb dX8_isFloor_2 (by decide) ?_
  refine lv_ldc2 (v := 6) hx hb hown (hts (.constantLong RX8 44 (6)) (by decide +kernel)) dX8_isFloor_3 ?_
  refine rd_S (As := [.long (Int32.toInt64 f), .long 0, .long 6]) (rest := []) hF (c_X8_in l D cy (Int32.toInt64 f) 0 6) (va_cwS 3 hts gX8_isFloor_X8_in rfl rfl rfl (by decide +kernel) ⟨Nat.le_of_ble_eq_true rfl, Nat.le_of_ble_eq_true rfl⟩) hK (fun k q h => by simp at h) rfl hl.1 rfl (Nat.le_of_ble_eq_true rfl) dX8_isFloor_6 ⟨Nat.le_of_ble_eq_true rfl, Nat.le_of_ble_eq_true rfl⟩ ?_
  exact zz_top (zb_congr in_okF) (hret _ _ dX8_isFloor_9)
abbrev rm_X8_isGuest : Room := { frames := 1, cells := 0, slots := 0, locals := 25 }
set_option maxHeartbeats 4000000 in
set_option maxRecDepth 100000 in
theorem c_X8_isGuest (l : Launch) (D : va_G) (cy : Nat → ClassId) (b : Nat) (n : Nat) (hn : n ≤ 4) (x : HS) (hg : x.1.1 = nI n) (g : Int32) : Met l yX8_isGuest wsX8_isGuest rm_X8_isGuest (rdP D cy [.ref b, .int g] (mW cy b x)) (QcRead (zb (isG x.1.1 g))) 0 0 (fun _ => False) := by
  obtain ⟨⟨gu, fl, se, pr, re, go, ch⟩, ⟨sg, bu, wa, ho, we, st, gr, po, ri⟩⟩ := x
  obtain rfl : gu = nI n := hg
  refine Mrd (cc := cX8_isGuest) (maxL := 2) (ty := .boolean) (by decide) rfl (Nat.le_of_ble_eq_true rfl) zb_nar ?_
  intro p e s m args below meth c Q ls hF hK hP hl hret
  obtain ⟨hx, hb, hml, hown, hts⟩ := id hF
  have hown : s.vm.findClass RX8 = some m.cls := hown
  have hl : lv_has ls 2 [(0, .ref b), (1, .int g)] := hl
  refine lv_iload_n hx hb dX8_isGuest_0 rfl (lv_at hl 1 rfl) ?_
  refine lv_i2l (v := Int32.toInt64 g) hx hb dX8_isGuest_1 rfl ?_
  refine lv_lconst (v := 0) hx hb dX8_isGuest_2 (by decide) ?_
  refine lv_aload_n hx hb dX8_isGuest_3 rfl (lv_at hl 0 rfl) ?_
  refine lv_iconst (v := 0) hx hb dX8_isGuest_4 (by decide) ?_
  refine zz_iald hx hb hK hP 0 0 0 rfl rfl rfl ⟨by decide, Nat.le_of_ble_eq_true rfl⟩ dX8_isGuest_5 ?_
  refine zz_top (y := nI n) rfl ?_
  refine lv_iconst (v := 1) hx hb dX8_isGuest_6 (by decide) ?_
  refine lv_isub hx hb dX8_isGuest_7 ?_
  refine lv_i2l (v := Int32.toInt64 ((nI n) - 1)) hx hb dX8_isGuest_8 rfl ?_
  refine rd_S (As := [.long (Int32.toInt64 g), .long 0, .long (Int32.toInt64 ((nI n) - 1))]) (rest := []) hF (c_X8_in l D cy (Int32.toInt64 g) 0 (Int32.toInt64 ((nI n) - 1))) (va_cwS 3 hts gX8_isGuest_X8_in rfl rfl rfl (by decide +kernel) ⟨Nat.le_of_ble_eq_true rfl, Nat.le_of_ble_eq_true rfl⟩) hK (fun k q h => by simp at h) rfl hl.1 rfl (Nat.le_of_ble_eq_true rfl) dX8_isGuest_9 ⟨Nat.le_of_ble_eq_true rfl, Nat.le_of_ble_eq_true rfl⟩ ?_
  exact zz_top (zb_congr (in_isG hn)) (hret _ _ dX8_isGuest_12)
abbrev rm_X8_of : Room := { frames := 0, cells := 0, slots := 0, locals := 0 }
set_option maxHeartbeats 4000000 in
set_option maxRecDepth 100000 in
theorem c_X8_of (l : Launch) (D : va_G) (cy : Nat → ClassId) (b : Nat) (n : Nat) (hn : n ≤ 4) (x : HS) (hg : x.1.1 = nI n) (g w : Nat) (hg4 : g < 4) (hw : w < 8) : Met l yX8_of wsX8_of rm_X8_of (rdP D cy [.ref b, .int (nI g), .int (nI w)] (mW cy b x)) (QcRead (mCol x w g)) 0 0 (fun _ => False) := by
  obtain ⟨⟨gu, fl, se, pr, re, go, ch⟩, ⟨sg, bu, wa, ho, we, st, gr, po, ri⟩⟩ := x
  obtain rfl : gu = nI n := hg
  refine Mrd (cc := cX8_of) (maxL := 3) (ty := .int) (by decide) rfl (Nat.le_of_ble_eq_true rfl) rfl ?_
  intro p e s m args below meth c Q ls hF hK hP hl hret
  obtain ⟨hx, hb, hml, hown, hts⟩ := id hF
  have hown : s.vm.findClass RX8 = some m.cls := hown
  have hl : lv_has ls 3 [(0, .ref b), (1, .int (nI g)), (2, .int (nI w))] := hl
  refine lv_aload_n hx hb dX8_of_0 rfl (lv_at hl 0 rfl) ?_
  refine lv_bipush (v := 10) hx hb dX8_of_1 (by decide) ?_
  refine lv_bipush (v := 8) hx hb dX8_of_3 (by decide) ?_
  refine lv_iload_n hx hb dX8_of_5 rfl (lv_at hl 1 rfl) ?_
  refine lv_imul hx hb dX8_of_6 ?_
  refine lv_iadd hx hb dX8_of_7 ?_
  refine lv_iload_n hx hb dX8_of_8 rfl (lv_at hl 2 rfl) ?_
  refine lv_iadd hx hb dX8_of_9 ?_
  refine zz_top (idx_gw g w) ?_
  refine zz_iald hx hb hK hP 0 0 (10 + 8 * g + w) rfl rfl rfl ⟨by omega, Nat.le_of_ble_eq_true rfl⟩ dX8_of_10 ?_
  exact zz_top (mOf_at hw) (hret _ _ dX8_of_11)
abbrev rm_X8_lay : Room := { frames := 0, cells := 0, slots := 0, locals := 0 }
set_option maxHeartbeats 4000000 in
set_option maxRecDepth 100000 in
theorem c_X8_lay (l : Launch) (D : va_G) (cy : Nat → ClassId) (b : Nat) (n : Nat) (hn : n ≤ 4) (x : HS) (hg : x.1.1 = nI n) (sz : Nat) (g w : Nat) (hg4 : g < 4) (hw : w < 8) (v : Int32) : Met l yX8_lay wsX8_lay rm_X8_lay (wrP D cy [.ref b, .int (nI g), .int (nI w), .int v] (mW cy b x) sz) (va_Qv (fun u : HS => u = mPut w g v x) (wrB D (va_A (mW cy b x) sz) (fun u => mW cy b u)) (va_A (mW cy b x) sz)) 0 0 (va_A (mW cy b x) sz) := by
  obtain ⟨⟨gu, fl, se, pr, re, go, ch⟩, ⟨sg, bu, wa, ho, we, st, gr, po, ri⟩⟩ := x
  obtain rfl : gu = nI n := hg
  refine Mwv (cc := cX8_lay) (maxL := 4) (by decide) rfl (Nat.le_of_ble_eq_true rfl) ?_
  intro p e s m args below meth c Q ls A hsz hinit hF hK hP hD hA hl hret
  obtain ⟨hx, hb, hml, hown, hts⟩ := id hF
  have hown : s.vm.findClass RX8 = some m.cls := hown
  have hl : lv_has ls 4 [(0, .ref b), (1, .int (nI g)), (2, .int (nI w)), (3, .int v)] := hl
  suffices key : ∀ (H : Heap) (locs : List Loc), va_P D vwCl (mW cy b ((nI n, fl, se, pr, re, go, ch), (sg, bu, wa, ho, we, st, gr, po, ri))) H → va_D A (mW cy b ((nI n, fl, se, pr, re, go, ch), (sg, bu, wa, ho, we, st, gr, po, ri))) → va_S A s.heap H locs → W p l e rm_X8_lay s m args below meth c H locs 0 0 Q (F0 m 0 ls []) from key s.heap [] hP hD va_S.rf
  intro H locs hP hD hS
  refine lv_aload_n hx hb dX8_lay_0 rfl (lv_at hl 0 rfl) ?_
  refine lv_bipush (v := 10) hx hb dX8_lay_1 (by decide) ?_
  refine lv_bipush (v := 8) hx hb dX8_lay_3 (by decide) ?_
  refine lv_iload_n hx hb dX8_lay_5 rfl (lv_at hl 1 rfl) ?_
  refine lv_imul hx hb dX8_lay_6 ?_
  refine lv_iadd hx hb dX8_lay_7 ?_
  refine lv_iload_n hx hb dX8_lay_8 rfl (lv_at hl 2 rfl) ?_
  refine lv_iadd hx hb dX8_lay_9 ?_
  refine zz_top (idx_gw g w) ?_
  refine lv_iload_n hx hb dX8_lay_10 rfl (lv_at hl 3 rfl) ?_
  refine zz_iast hx hb hK hP hD hS 0 0 (10 + 8 * g + w) rfl rfl rfl ⟨by omega, Nat.le_of_ble_eq_true rfl⟩ dX8_lay_11 (fun H locs hP hD hS => ?_)
  rw [mOf_put (y := ((nI n, fl, se, pr, re, go, ch), (sg, bu, wa, ho, we, st, gr, po, ri))) (g := g) (w := w) (v := v) hw] at hP hD
  have hP : va_P D vwCl (mW cy b (mPut w g v ((nI n, fl, se, pr, re, go, ch), (sg, bu, wa, ho, we, st, gr, po, ri)))) H := hP
  have hD : va_D A (mW cy b (mPut w g v ((nI n, fl, se, pr, re, go, ch), (sg, bu, wa, ho, we, st, gr, po, ri)))) := hD
  exact hret _ _ H locs (mPut w g v ((nI n, fl, se, pr, re, go, ch), (sg, bu, wa, ho, we, st, gr, po, ri))) dX8_lay_12 hP hD hS (rfl)
abbrev rm_X8_inState : Room := { frames := 1, cells := 0, slots := 0, locals := 22 }
set_option maxHeartbeats 4000000 in
set_option maxRecDepth 100000 in
theorem c_X8_inState (l : Launch) (D : va_G) (cy : Nat → ClassId) (b : Nat) (n : Nat) (hn : n ≤ 4) (x : HS) (hg : x.1.1 = nI n) (v : Int32) : Met l yX8_inState wsX8_inState rm_X8_inState (rdP D cy [.ref b, .int v] (mW cy b x)) (QcRead (hGI n x v)) 0 0 (fun _ => False) := by
  obtain ⟨⟨gu, fl, se, pr, re, go, ch⟩, ⟨sg, bu, wa, ho, we, st, gr, po, ri⟩⟩ := x
  obtain rfl : gu = nI n := hg
  refine Mrd (cc := cX8_inState) (maxL := 4) (ty := .int) (by decide) rfl (Nat.le_of_ble_eq_true rfl) rfl ?_
  intro p e s m args below meth c Q ls hF hK hP hl hret
  obtain ⟨hx, hb, hml, hown, hts⟩ := id hF
  have hown : s.vm.findClass RX8 = some m.cls := hown
  have hl : lv_has ls 4 [(0, .ref b), (1, .int v)] := hl
  refine lv_iconst (v := 0) hx hb dX8_inState_0 (by decide) ?_
  refine lv_istore_n (lv' := [(2, .int 0), (0, .ref b), (1, .int v)]) hx hb dX8_inState_1 rfl hl (by decide) rfl (fun ls hl => ?_)
  refine lv_iconst (v := 0) hx hb dX8_inState_2 (by decide) ?_
  refine lv_istore_n (lv' := [(3, .int 0), (2, .int 0), (0, .ref b), (1, .int v)]) hx hb dX8_inState_3 rfl hl (by decide) rfl (fun ls hl => ?_)
  have loop : ∀ (k i : Nat) (a : Int32), i ≤ n → n + 1 ≤ i + k → lpN (sGI st v) (n - i) i a = lpN (sGI st v) n 0 0 → ∀ (ls : Array Slot), lv_has ls 4 [(3, .int (nI i)), (2, .int a), (0, .ref b), (1, .int v)] → W p l e rm_X8_inState s m args below meth c s.heap [] 0 0 Q (F0 m 4 ls []) := by
    intro k
    induction k with
    | zero =>
      intro i a hi hk hv
      exact absurd hk (by omega)
    | succ k ih =>
      intro i a hi hk hv ls hl
      refine lv_iload_n hx hb dX8_inState_4 rfl (lv_at hl 0 rfl) ?_
      refine lv_aload_n hx hb dX8_inState_5 rfl (lv_at hl 2 rfl) ?_
      refine lv_iconst (v := 0) hx hb dX8_inState_6 (by decide) ?_
      refine zz_iald hx hb hK hP 0 0 0 rfl rfl rfl ⟨by decide, Nat.le_of_ble_eq_true rfl⟩ dX8_inState_7 ?_
      refine zz_top (y := nI n) rfl ?_
      refine lv_icmp_ge (tgt := 35) hx hb dX8_inState_8 (by decide) (fun c_1 => ?_) (fun c_1 => ?_)
      · have c_1 : n ≤ i := (nI_leI (a := n) (b := i) (by omega) (by omega)).mp c_1
        refine lv_iload_n hx hb dX8_inState_35 rfl (lv_at hl 1 rfl) ?_
        exact zz_top (lpN_end c_1 hv) (hret _ _ dX8_inState_36)
      · have c_1 : ¬ n ≤ i := fun q => c_1 ((nI_leI (a := n) (b := i) (by omega) (by omega)).mpr q)
        refine lv_iload_n hx hb dX8_inState_11 rfl (lv_at hl 1 rfl) ?_
        refine lv_aload_n hx hb dX8_inState_12 rfl (lv_at hl 2 rfl) ?_
        refine lv_iload_n hx hb dX8_inState_13 rfl (lv_at hl 0 rfl) ?_
        refine lv_iconst (v := 3) hx hb dX8_inState_14 (by decide) ?_
        refine rd_S (As := [.ref b, .int (nI i), .int 3]) (rest := [.int a]) hF (c_X8_of l D cy b n hn ((nI n, fl, se, pr, re, go, ch), (sg, bu, wa, ho, we, st, gr, po, ri)) rfl i 3 (by omega) (by decide)) (va_cwS 3 hts gX8_inState_X8_of rfl rfl rfl (by decide +kernel) ⟨Nat.le_of_ble_eq_true rfl, Nat.le_of_ble_eq_true rfl⟩) hK hP rfl hl.1 rfl (Nat.le_of_ble_eq_true rfl) dX8_inState_15 ⟨Nat.le_of_ble_eq_true rfl, Nat.le_of_ble_eq_true rfl⟩ ?_
        refine zz_top (y := st i) rfl ?_
        refine lv_iload_n hx hb dX8_inState_18 rfl (lv_at hl 3 rfl) ?_
        refine lv_icmp_ne (tgt := 26) hx hb dX8_inState_19 (by decide) (fun c_2 => ?_) (fun c_2 => ?_)
        · have c_2 : ¬ (st i) = v := c_2
          refine lv_iconst (v := 0) hx hb dX8_inState_26 (by decide) ?_
          refine lv_iadd hx hb dX8_inState_27 ?_
          refine lv_istore_n (lv' := [(2, .int (a + 0)), (3, .int (nI i)), (0, .ref b), (1, .int v)]) hx hb dX8_inState_28 rfl hl (by decide) rfl (fun ls hl => ?_)
          refine lv_iinc (v := nI (i + 1)) (lv' := [(3, .int (nI (i + 1))), (2, .int (a + 0)), (0, .ref b), (1, .int v)]) hx hb dX8_inState_29 hl (k := 1) rfl (nI_add (i) 1) (by decide) rfl (fun ls hl => ?_)
          refine lv_goto (tgt := 4) hx hb dX8_inState_32 (by decide) ?_
          exact ih (i + 1) _ (by omega) (by omega) (lpN_next (by omega) hv (by simp only [sGI, if_neg c_1, if_neg c_2, Int32.add_zero])) _ (lv_sub hl [0, 1, 2, 3] rfl)
        · have c_2 : (st i) = v := c_2
          refine lv_iconst (v := 1) hx hb dX8_inState_22 (by decide) ?_
          refine lv_goto (tgt := 27) hx hb dX8_inState_23 (by decide) ?_
          refine lv_iadd hx hb dX8_inState_27 ?_
          refine lv_istore_n (lv' := [(2, .int (a + 1)), (3, .int (nI i)), (0, .ref b), (1, .int v)]) hx hb dX8_inState_28 rfl hl (by decide) rfl (fun ls hl => ?_)
          refine lv_iinc (v := nI (i + 1)) (lv' := [(3, .int (nI (i + 1))), (2, .int (a + 1)), (0, .ref b), (1, .int v)]) hx hb dX8_inState_29 hl (k := 1) rfl (nI_add (i) 1) (by decide) rfl (fun ls hl => ?_)
          refine lv_goto (tgt := 4) hx hb dX8_inState_32 (by decide) ?_
          exact ih (i + 1) _ (by omega) (by omega) (lpN_next (by omega) hv (by simp only [sGI, if_neg c_1, if_pos c_2, Int32.add_zero])) _ (lv_sub hl [0, 1, 2, 3] rfl)
  exact loop (n + 1) 0 _ (Nat.zero_le _) (by omega) rfl _ (lv_sub hl [0, 1, 2, 3] rfl)
abbrev rm_X8_allGrudges : Room := { frames := 1, cells := 0, slots := 0, locals := 22 }
set_option maxHeartbeats 4000000 in
set_option maxRecDepth 100000 in
theorem c_X8_allGrudges (l : Launch) (D : va_G) (cy : Nat → ClassId) (b : Nat) (n : Nat) (hn : n ≤ 4) (x : HS) (hg : x.1.1 = nI n) : Met l yX8_allGrudges wsX8_allGrudges rm_X8_allGrudges (rdP D cy [.ref b] (mW cy b x)) (QcRead (hAG n x)) 0 0 (fun _ => False) := by
  obtain ⟨⟨gu, fl, se, pr, re, go, ch⟩, ⟨sg, bu, wa, ho, we, st, gr, po, ri⟩⟩ := x
  obtain rfl : gu = nI n := hg
  refine Mrd (cc := cX8_allGrudges) (maxL := 3) (ty := .int) (by decide) rfl (Nat.le_of_ble_eq_true rfl) rfl ?_
  intro p e s m args below meth c Q ls hF hK hP hl hret
  obtain ⟨hx, hb, hml, hown, hts⟩ := id hF
  have hown : s.vm.findClass RX8 = some m.cls := hown
  have hl : lv_has ls 3 [(0, .ref b)] := hl
  refine lv_iconst (v := 0) hx hb dX8_allGrudges_0 (by decide) ?_
  refine lv_istore_n (lv' := [(1, .int 0), (0, .ref b)]) hx hb dX8_allGrudges_1 rfl hl (by decide) rfl (fun ls hl => ?_)
  refine lv_iconst (v := 0) hx hb dX8_allGrudges_2 (by decide) ?_
  refine lv_istore_n (lv' := [(2, .int 0), (1, .int 0), (0, .ref b)]) hx hb dX8_allGrudges_3 rfl hl (by decide) rfl (fun ls hl => ?_)
  have loop : ∀ (k i : Nat) (a : Int32), i ≤ n → n + 1 ≤ i + k → lpN (sAG gr) (n - i) i a = lpN (sAG gr) n 0 0 → ∀ (ls : Array Slot), lv_has ls 3 [(2, .int (nI i)), (1, .int a), (0, .ref b)] → W p l e rm_X8_allGrudges s m args below meth c s.heap [] 0 0 Q (F0 m 4 ls []) := by
    intro k
    induction k with
    | zero =>
      intro i a hi hk hv
      exact absurd hk (by omega)
    | succ k ih =>
      intro i a hi hk hv ls hl
      refine lv_iload_n hx hb dX8_allGrudges_4 rfl (lv_at hl 0 rfl) ?_
      refine lv_aload_n hx hb dX8_allGrudges_5 rfl (lv_at hl 2 rfl) ?_
      refine lv_iconst (v := 0) hx hb dX8_allGrudges_6 (by decide) ?_
      refine zz_iald hx hb hK hP 0 0 0 rfl rfl rfl ⟨by decide, Nat.le_of_ble_eq_true rfl⟩ dX8_allGrudges_7 ?_
      refine zz_top (y := nI n) rfl ?_
      refine lv_icmp_ge (tgt := 26) hx hb dX8_allGrudges_8 (by decide) (fun c_1 => ?_) (fun c_1 => ?_)
      · have c_1 : n ≤ i := (nI_leI (a := n) (b := i) (by omega) (by omega)).mp c_1
        refine lv_iload_n hx hb dX8_allGrudges_26 rfl (lv_at hl 1 rfl) ?_
        exact zz_top (lpN_end c_1 hv) (hret _ _ dX8_allGrudges_27)
      · have c_1 : ¬ n ≤ i := fun q => c_1 ((nI_leI (a := n) (b := i) (by omega) (by omega)).mpr q)
        refine lv_iload_n hx hb dX8_allGrudges_11 rfl (lv_at hl 1 rfl) ?_
        refine lv_aload_n hx hb dX8_allGrudges_12 rfl (lv_at hl 2 rfl) ?_
        refine lv_iload_n hx hb dX8_allGrudges_13 rfl (lv_at hl 0 rfl) ?_
        refine lv_iconst (v := 5) hx hb dX8_allGrudges_14 (by decide) ?_
        refine rd_S (As := [.ref b, .int (nI i), .int 5]) (rest := [.int a]) hF (c_X8_of l D cy b n hn ((nI n, fl, se, pr, re, go, ch), (sg, bu, wa, ho, we, st, gr, po, ri)) rfl i 5 (by omega) (by decide)) (va_cwS 3 hts gX8_allGrudges_X8_of rfl rfl rfl (by decide +kernel) ⟨Nat.le_of_ble_eq_true rfl, Nat.le_of_ble_eq_true rfl⟩) hK hP rfl hl.1 rfl (Nat.le_of_ble_eq_true rfl) dX8_allGrudges_15 ⟨Nat.le_of_ble_eq_true rfl, Nat.le_of_ble_eq_true rfl⟩ ?_
        refine zz_top (y := gr i) rfl ?_
        refine lv_iadd hx hb dX8_allGrudges_18 ?_
        refine lv_istore_n (lv' := [(1, .int (a + (gr i))), (2, .int (nI i)), (0, .ref b)]) hx hb dX8_allGrudges_19 rfl hl (by decide) rfl (fun ls hl => ?_)
        refine lv_iinc (v := nI (i + 1)) (lv' := [(2, .int (nI (i + 1))), (1, .int (a + (gr i))), (0, .ref b)]) hx hb dX8_allGrudges_20 hl (k := 1) rfl (nI_add (i) 1) (by decide) rfl (fun ls hl => ?_)
        refine lv_goto (tgt := 4) hx hb dX8_allGrudges_23 (by decide) ?_
        exact ih (i + 1) _ (by omega) (by omega) (lpN_next (by omega) hv (by simp only [sAG, if_neg c_1, Int32.add_zero])) _ (lv_sub hl [0, 1, 2] rfl)
  exact loop (n + 1) 0 _ (Nat.zero_le _) (by omega) rfl _ (lv_sub hl [0, 1, 2] rfl)
abbrev rm_X8_load1 : Room := { frames := 1, cells := 0, slots := 0, locals := 22 }
set_option maxHeartbeats 4000000 in
set_option maxRecDepth 100000 in
theorem c_X8_load1 (l : Launch) (D : va_G) (cy : Nat → ClassId) (b : Nat) (n : Nat) (hn : n ≤ 4) (x : HS) (hg : x.1.1 = nI n) : Met l yX8_load1 wsX8_load1 rm_X8_load1 (rdP D cy [.ref b] (mW cy b x)) (QcRead (hWR n x)) 0 0 (fun _ => False) := by
  obtain ⟨⟨gu, fl, se, pr, re, go, ch⟩, ⟨sg, bu, wa, ho, we, st, gr, po, ri⟩⟩ := x
  obtain rfl : gu = nI n := hg
  refine Mrd (cc := cX8_load1) (maxL := 3) (ty := .int) (by decide) rfl (Nat.le_of_ble_eq_true rfl) rfl ?_
  intro p e s m args below meth c Q ls hF hK hP hl hret
  obtain ⟨hx, hb, hml, hown, hts⟩ := id hF
  have hown : s.vm.findClass RX8 = some m.cls := hown
  have hl : lv_has ls 3 [(0, .ref b)] := hl
  refine lv_iconst (v := 0) hx hb dX8_load1_0 (by decide) ?_
  refine lv_istore_n (lv' := [(1, .int 0), (0, .ref b)]) hx hb dX8_load1_1 rfl hl (by decide) rfl (fun ls hl => ?_)
  refine lv_iconst (v := 0) hx hb dX8_load1_2 (by decide) ?_
  refine lv_istore_n (lv' := [(2, .int 0), (1, .int 0), (0, .ref b)]) hx hb dX8_load1_3 rfl hl (by decide) rfl (fun ls hl => ?_)
  have loop : ∀ (k i : Nat) (a : Int32), i ≤ n → n + 1 ≤ i + k → lpN (sWR st we) (n - i) i a = lpN (sWR st we) n 0 0 → ∀ (ls : Array Slot), lv_has ls 3 [(2, .int (nI i)), (1, .int a), (0, .ref b)] → W p l e rm_X8_load1 s m args below meth c s.heap [] 0 0 Q (F0 m 4 ls []) := by
    intro k
    induction k with
    | zero =>
      intro i a hi hk hv
      exact absurd hk (by omega)
    | succ k ih =>
      intro i a hi hk hv ls hl
      refine lv_iload_n hx hb dX8_load1_4 rfl (lv_at hl 0 rfl) ?_
      refine lv_aload_n hx hb dX8_load1_5 rfl (lv_at hl 2 rfl) ?_
      refine lv_iconst (v := 0) hx hb dX8_load1_6 (by decide) ?_
      refine zz_iald hx hb hK hP 0 0 0 rfl rfl rfl ⟨by decide, Nat.le_of_ble_eq_true rfl⟩ dX8_load1_7 ?_
      refine zz_top (y := nI n) rfl ?_
      refine lv_icmp_ge (tgt := 40) hx hb dX8_load1_8 (by decide) (fun c_1 => ?_) (fun c_1 => ?_)
      · have c_1 : n ≤ i := (nI_leI (a := n) (b := i) (by omega) (by omega)).mp c_1
        refine lv_iload_n hx hb dX8_load1_40 rfl (lv_at hl 1 rfl) ?_
        exact zz_top (lpN_end c_1 hv) (hret _ _ dX8_load1_41)
      · have c_1 : ¬ n ≤ i := fun q => c_1 ((nI_leI (a := n) (b := i) (by omega) (by omega)).mpr q)
        refine lv_iload_n hx hb dX8_load1_11 rfl (lv_at hl 1 rfl) ?_
        refine lv_aload_n hx hb dX8_load1_12 rfl (lv_at hl 2 rfl) ?_
        refine lv_iload_n hx hb dX8_load1_13 rfl (lv_at hl 0 rfl) ?_
        refine lv_iconst (v := 3) hx hb dX8_load1_14 (by decide) ?_
        refine rd_S (As := [.ref b, .int (nI i), .int 3]) (rest := [.int a]) hF (c_X8_of l D cy b n hn ((nI n, fl, se, pr, re, go, ch), (sg, bu, wa, ho, we, st, gr, po, ri)) rfl i 3 (by omega) (by decide)) (va_cwS 3 hts gX8_load1_X8_of rfl rfl rfl (by decide +kernel) ⟨Nat.le_of_ble_eq_true rfl, Nat.le_of_ble_eq_true rfl⟩) hK hP rfl hl.1 rfl (Nat.le_of_ble_eq_true rfl) dX8_load1_15 ⟨Nat.le_of_ble_eq_true rfl, Nat.le_of_ble_eq_true rfl⟩ ?_
        refine zz_top (y := st i) rfl ?_
        refine lv_iconst (v := 1) hx hb dX8_load1_18 (by decide) ?_
        refine lv_icmp_ne (tgt := 31) hx hb dX8_load1_19 (by decide) (fun c_2 => ?_) (fun c_2 => ?_)
        · have c_2 : ¬ (st i) = 1 := c_2
          refine lv_iconst (v := 0) hx hb dX8_load1_31 (by decide) ?_
          refine lv_iadd hx hb dX8_load1_32 ?_
          refine lv_istore_n (lv' := [(1, .int (a + 0)), (2, .int (nI i)), (0, .ref b)]) hx hb dX8_load1_33 rfl hl (by decide) rfl (fun ls hl => ?_)
          refine lv_iinc (v := nI (i + 1)) (lv' := [(2, .int (nI (i + 1))), (1, .int (a + 0)), (0, .ref b)]) hx hb dX8_load1_34 hl (k := 1) rfl (nI_add (i) 1) (by decide) rfl (fun ls hl => ?_)
          refine lv_goto (tgt := 4) hx hb dX8_load1_37 (by decide) ?_
          exact ih (i + 1) _ (by omega) (by omega) (lpN_next (by omega) hv (by simp only [sWR, if_neg c_1, if_neg c_2, Int32.add_zero])) _ (lv_sub hl [0, 1, 2] rfl)
        · have c_2 : (st i) = 1 := c_2
          refine lv_aload_n hx hb dX8_load1_22 rfl (lv_at hl 2 rfl) ?_
          refine lv_iload_n hx hb dX8_load1_23 rfl (lv_at hl 0 rfl) ?_
          refine lv_iconst (v := 2) hx hb dX8_load1_24 (by decide) ?_
          refine rd_S (As := [.ref b, .int (nI i), .int 2]) (rest := [.int a]) hF (c_X8_of l D cy b n hn ((nI n, fl, se, pr, re, go, ch), (sg, bu, wa, ho, we, st, gr, po, ri)) rfl i 2 (by omega) (by decide)) (va_cwS 3 hts gX8_load1_X8_of rfl rfl rfl (by decide +kernel) ⟨Nat.le_of_ble_eq_true rfl, Nat.le_of_ble_eq_true rfl⟩) hK hP rfl hl.1 rfl (Nat.le_of_ble_eq_true rfl) dX8_load1_25 ⟨Nat.le_of_ble_eq_true rfl, Nat.le_of_ble_eq_true rfl⟩ ?_
          refine zz_top (y := we i) rfl ?_
          refine lv_goto (tgt := 32) hx hb dX8_load1_28 (by decide) ?_
          refine lv_iadd hx hb dX8_load1_32 ?_
          refine lv_istore_n (lv' := [(1, .int (a + (we i))), (2, .int (nI i)), (0, .ref b)]) hx hb dX8_load1_33 rfl hl (by decide) rfl (fun ls hl => ?_)
          refine lv_iinc (v := nI (i + 1)) (lv' := [(2, .int (nI (i + 1))), (1, .int (a + (we i))), (0, .ref b)]) hx hb dX8_load1_34 hl (k := 1) rfl (nI_add (i) 1) (by decide) rfl (fun ls hl => ?_)
          refine lv_goto (tgt := 4) hx hb dX8_load1_37 (by decide) ?_
          exact ih (i + 1) _ (by omega) (by omega) (lpN_next (by omega) hv (by simp only [sWR, if_neg c_1, if_pos c_2, Int32.add_zero])) _ (lv_sub hl [0, 1, 2] rfl)
  exact loop (n + 1) 0 _ (Nat.zero_le _) (by omega) rfl _ (lv_sub hl [0, 1, 2] rfl)
abbrev rm_X8_reason : Room := { frames := 1, cells := 0, slots := 0, locals := 22 }
set_option maxHeartbeats 4000000 in
set_option maxRecDepth 100000 in
theorem c_X8_reason (l : Launch) (D : va_G) (cy : Nat → ClassId) (b : Nat) (n : Nat) (hn : n ≤ 4) (x : HS) (hg : x.1.1 = nI n) (j : Nat) (hj : j < n) : Met l yX8_reason wsX8_reason rm_X8_reason (rdP D cy [.ref b, .int (nI j)] (mW cy b x)) (QcRead (vReas x.1.2.1 x.2.1 x.2.2.1 x.2.2.2.2.2.2.1 x.2.2.2.2.2.2.2.1 j)) 0 0 (fun _ => False) := by
  obtain ⟨⟨gu, fl, se, pr, re, go, ch⟩, ⟨sg, bu, wa, ho, we, st, gr, po, ri⟩⟩ := x
  obtain rfl : gu = nI n := hg
  refine Mrd (cc := cX8_reason) (maxL := 2) (ty := .int) (by decide) rfl (Nat.le_of_ble_eq_true rfl) rfl ?_
  intro p e s m args below meth c Q ls hF hK hP hl hret
  obtain ⟨hx, hb, hml, hown, hts⟩ := id hF
  have hown : s.vm.findClass RX8 = some m.cls := hown
  have hl : lv_has ls 2 [(0, .ref b), (1, .int (nI j))] := hl
  refine lv_aload_n hx hb dX8_reason_0 rfl (lv_at hl 0 rfl) ?_
  refine lv_iload_n hx hb dX8_reason_1 rfl (lv_at hl 1 rfl) ?_
  refine lv_iconst (v := 3) hx hb dX8_reason_2 (by decide) ?_
  refine rd_S (As := [.ref b, .int (nI j), .int 3]) (rest := []) hF (c_X8_of l D cy b n hn ((nI n, fl, se, pr, re, go, ch), (sg, bu, wa, ho, we, st, gr, po, ri)) rfl j 3 (by omega) (by decide)) (va_cwS 3 hts gX8_reason_X8_of rfl rfl rfl (by decide +kernel) ⟨Nat.le_of_ble_eq_true rfl, Nat.le_of_ble_eq_true rfl⟩) hK hP rfl hl.1 rfl (Nat.le_of_ble_eq_true rfl) dX8_reason_3 ⟨Nat.le_of_ble_eq_true rfl, Nat.le_of_ble_eq_true rfl⟩ ?_
  refine zz_top (y := st j) rfl ?_
  refine lv_iconst (v := 2) hx hb dX8_reason_6 (by decide) ?_
  refine lv_icmp_ne (tgt := 14) hx hb dX8_reason_7 (by decide) (fun c_1 => ?_) (fun c_1 => ?_)
  · have c_1 : ¬ (st j) = 2 := c_1
    refine lv_aload_n hx hb dX8_reason_14 rfl (lv_at hl 0 rfl) ?_
    refine lv_iload_n hx hb dX8_reason_15 rfl (lv_at hl 1 rfl) ?_
    refine lv_iconst (v := 5) hx hb dX8_reason_16 (by decide) ?_
    refine rd_S (As := [.ref b, .int (nI j), .int 5]) (rest := []) hF (c_X8_of l D cy b n hn ((nI n, fl, se, pr, re, go, ch), (sg, bu, wa, ho, we, st, gr, po, ri)) rfl j 5 (by omega) (by decide)) (va_cwS 3 hts gX8_reason_X8_of rfl rfl rfl (by decide +kernel) ⟨Nat.le_of_ble_eq_true rfl, Nat.le_of_ble_eq_true rfl⟩) hK hP rfl hl.1 rfl (Nat.le_of_ble_eq_true rfl) dX8_reason_17 ⟨Nat.le_of_ble_eq_true rfl, Nat.le_of_ble_eq_true rfl⟩ ?_
    refine zz_top (y := gr j) rfl ?_
    refine lv_aload_n hx hb dX8_reason_20 rfl (lv_at hl 0 rfl) ?_
    refine lv_bipush (v := 8) hx hb dX8_reason_21 (by decide) ?_
    refine zz_iald hx hb hK hP 0 0 8 rfl rfl rfl ⟨by decide, Nat.le_of_ble_eq_true rfl⟩ dX8_reason_23 ?_
    refine zz_top (y := sg 1) rfl ?_
    refine lv_icmp_lt (tgt := 31) hx hb dX8_reason_24 (by decide) (fun c_2 => ?_) (fun c_2 => ?_)
    · have c_2 : (gr j) < (sg 1) := c_2
      refine lv_aload_n hx hb dX8_reason_31 rfl (lv_at hl 0 rfl) ?_
      refine lv_iload_n hx hb dX8_reason_32 rfl (lv_at hl 1 rfl) ?_
      refine lv_iconst (v := 0) hx hb dX8_reason_33 (by decide) ?_
      refine rd_S (As := [.ref b, .int (nI j), .int 0]) (rest := []) hF (c_X8_of l D cy b n hn ((nI n, fl, se, pr, re, go, ch), (sg, bu, wa, ho, we, st, gr, po, ri)) rfl j 0 (by omega) (by decide)) (va_cwS 3 hts gX8_reason_X8_of rfl rfl rfl (by decide +kernel) ⟨Nat.le_of_ble_eq_true rfl, Nat.le_of_ble_eq_true rfl⟩) hK hP rfl hl.1 rfl (Nat.le_of_ble_eq_true rfl) dX8_reason_34 ⟨Nat.le_of_ble_eq_true rfl, Nat.le_of_ble_eq_true rfl⟩ ?_
      refine zz_top (y := bu j) rfl ?_
      refine lv_aload_n hx hb dX8_reason_37 rfl (lv_at hl 0 rfl) ?_
      refine lv_iconst (v := 1) hx hb dX8_reason_38 (by decide) ?_
      refine zz_iald hx hb hK hP 0 0 1 rfl rfl rfl ⟨by decide, Nat.le_of_ble_eq_true rfl⟩ dX8_reason_39 ?_
      refine zz_top (y := fl) rfl ?_
      refine lv_icmp_ne (tgt := 47) hx hb dX8_reason_40 (by decide) (fun c_3 => ?_) (fun c_3 => ?_)
      · have c_3 : ¬ (bu j) = fl := c_3
        refine lv_iconst (v := 0) hx hb dX8_reason_47 (by decide) ?_
        exact zz_top (by simp only [vReas, if_neg c_1, if_pos c_2, if_neg (fun q => c_3 (Eq.symm q))]) (hret _ _ dX8_reason_48)
      · have c_3 : (bu j) = fl := c_3
        refine lv_iconst (v := 3) hx hb dX8_reason_43 (by decide) ?_
        refine lv_goto (tgt := 48) hx hb dX8_reason_44 (by decide) ?_
        exact zz_top (by simp only [vReas, if_neg c_1, if_pos c_2, if_pos (Eq.symm c_3)]) (hret _ _ dX8_reason_48)
    · have c_2 : ¬ (gr j) < (sg 1) := c_2
      refine lv_iconst (v := 2) hx hb dX8_reason_27 (by decide) ?_
      refine lv_goto (tgt := 48) hx hb dX8_reason_28 (by decide) ?_
      exact zz_top (by simp only [vReas, if_neg c_1, if_neg c_2]) (hret _ _ dX8_reason_48)
  · have c_1 : (st j) = 2 := c_1
    refine lv_iconst (v := 1) hx hb dX8_reason_10 (by decide) ?_
    refine lv_goto (tgt := 48) hx hb dX8_reason_11 (by decide) ?_
    exact zz_top (by simp only [vReas, if_pos c_1]) (hret _ _ dX8_reason_48)
abbrev rm_X8_grudge : Room := { frames := 1, cells := 0, slots := 0, locals := 23 }
set_option maxHeartbeats 4000000 in
set_option maxRecDepth 100000 in
theorem c_X8_grudge (l : Launch) (D : va_G) (cy : Nat → ClassId) (b : Nat) (n : Nat) (hn : n ≤ 4) (x : HS) (hg : x.1.1 = nI n) (sz : Nat) (j : Nat) (hj : j < n) : Met l yX8_grudge wsX8_grudge rm_X8_grudge (wrP D cy [.ref b, .int (nI j)] (mW cy b x) sz) (va_Qv (fun u : HS => u = mGrudge j x) (wrB D (va_A (mW cy b x) sz) (fun u => mW cy b u)) (va_A (mW cy b x) sz)) 0 0 (va_A (mW cy b x) sz) := by
  obtain ⟨⟨gu, fl, se, pr, re, go, ch⟩, ⟨sg, bu, wa, ho, we, st, gr, po, ri⟩⟩ := x
  obtain rfl : gu = nI n := hg
  refine Mwv (cc := cX8_grudge) (maxL := 2) (by decide) rfl (Nat.le_of_ble_eq_true rfl) ?_
  intro p e s m args below meth c Q ls A hsz hinit hF hK hP hD hA hl hret
  obtain ⟨hx, hb, hml, hown, hts⟩ := id hF
  have hown : s.vm.findClass RX8 = some m.cls := hown
  have hl : lv_has ls 2 [(0, .ref b), (1, .int (nI j))] := hl
  suffices key : ∀ (H : Heap) (locs : List Loc), va_P D vwCl (mW cy b ((nI n, fl, se, pr, re, go, ch), (sg, bu, wa, ho, we, st, gr, po, ri))) H → va_D A (mW cy b ((nI n, fl, se, pr, re, go, ch), (sg, bu, wa, ho, we, st, gr, po, ri))) → va_S A s.heap H locs → W p l e rm_X8_grudge s m args below meth c H locs 0 0 Q (F0 m 0 ls []) from key s.heap [] hP hD va_S.rf
  intro H locs hP hD hS
  refine lv_aload_n hx hb dX8_grudge_0 rfl (lv_at hl 0 rfl) ?_
  refine lv_iload_n hx hb dX8_grudge_1 rfl (lv_at hl 1 rfl) ?_
  refine lv_iconst (v := 5) hx hb dX8_grudge_2 (by decide) ?_
  refine lv_aload_n hx hb dX8_grudge_3 rfl (lv_at hl 0 rfl) ?_
  refine lv_iload_n hx hb dX8_grudge_4 rfl (lv_at hl 1 rfl) ?_
  refine lv_iconst (v := 5) hx hb dX8_grudge_5 (by decide) ?_
  refine rd_S (As := [.ref b, .int (nI j), .int 5]) (rest := [.int 5, .int (nI j), .ref b]) hF (c_X8_of l D cy b n hn ((nI n, fl, se, pr, re, go, ch), (sg, bu, wa, ho, we, st, gr, po, ri)) rfl j 5 (by omega) (by decide)) (va_cwS 3 hts gX8_grudge_X8_of rfl rfl rfl (by decide +kernel) ⟨Nat.le_of_ble_eq_true rfl, Nat.le_of_ble_eq_true rfl⟩) hK hP rfl hl.1 rfl (Nat.le_of_ble_eq_true rfl) dX8_grudge_6 ⟨Nat.le_of_ble_eq_true rfl, Nat.le_of_ble_eq_true rfl⟩ ?_
  refine zz_top (y := gr j) rfl ?_
  refine lv_bipush (v := 9) hx hb dX8_grudge_9 (by decide) ?_
  refine lv_icmp_ge (tgt := 25) hx hb dX8_grudge_11 (by decide) (fun c_1 => ?_) (fun c_1 => ?_)
  · have c_1 : 9 ≤ (gr j) := c_1
    refine lv_bipush (v := 9) hx hb dX8_grudge_25 (by decide) ?_
    refine wr_v (fun u => mW cy b u) (va_runS (As := [.ref b, .int (nI j), .int 5, .int 9]) (rest := []) hF (c_X8_lay l D cy b n hn ((nI n, fl, se, pr, re, go, ch), (sg, bu, wa, ho, we, st, gr, po, ri)) rfl H.size j 5 (by omega) (by decide) 9) (va_cwS 4 hts gX8_grudge_X8_lay rfl rfl rfl (by decide +kernel) ⟨Nat.le_of_ble_eq_true rfl, Nat.le_of_ble_eq_true rfl⟩) (wr_preS hK hP hD (zz_all _)) rfl rfl hl.1 rfl (lv_room (Nat.le_of_ble_eq_true rfl)) dX8_grudge_27 ⟨Nat.le_of_ble_eq_true rfl, Nat.le_of_ble_eq_true rfl⟩) hP hD hS hA (zz_all _) (fun _ => zz_all _) (fun u_2 H locs e_3 hP hD hS => ?_)
    obtain rfl : u_2 = ((nI n, fl, se, pr, re, go, ch), (sg, bu, wa, ho, we, st, (upd gr j 9), po, ri)) := e_3
    have hP : va_P D vwCl (mW cy b ((nI n, fl, se, pr, re, go, ch), (sg, bu, wa, ho, we, st, (upd gr j 9), po, ri))) H := hP
    have hD : va_D A (mW cy b ((nI n, fl, se, pr, re, go, ch), (sg, bu, wa, ho, we, st, (upd gr j 9), po, ri))) := hD
    exact hret _ _ H locs ((nI n, fl, se, pr, re, go, ch), (sg, bu, wa, ho, we, st, (upd gr j 9), po, ri)) dX8_grudge_30 hP hD hS (by simp only [mGrudge, vAddM, if_pos c_1])
  · have c_1 : ¬ 9 ≤ (gr j) := c_1
    refine lv_aload_n hx hb dX8_grudge_14 rfl (lv_at hl 0 rfl) ?_
    refine lv_iload_n hx hb dX8_grudge_15 rfl (lv_at hl 1 rfl) ?_
    refine lv_iconst (v := 5) hx hb dX8_grudge_16 (by decide) ?_
    refine rd_S (As := [.ref b, .int (nI j), .int 5]) (rest := [.int 5, .int (nI j), .ref b]) hF (c_X8_of l D cy b n hn ((nI n, fl, se, pr, re, go, ch), (sg, bu, wa, ho, we, st, gr, po, ri)) rfl j 5 (by omega) (by decide)) (va_cwS 3 hts gX8_grudge_X8_of rfl rfl rfl (by decide +kernel) ⟨Nat.le_of_ble_eq_true rfl, Nat.le_of_ble_eq_true rfl⟩) hK hP rfl hl.1 rfl (Nat.le_of_ble_eq_true rfl) dX8_grudge_17 ⟨Nat.le_of_ble_eq_true rfl, Nat.le_of_ble_eq_true rfl⟩ ?_
    refine zz_top (y := gr j) rfl ?_
    refine lv_iconst (v := 1) hx hb dX8_grudge_20 (by decide) ?_
    refine lv_iadd hx hb dX8_grudge_21 ?_
    refine lv_goto (tgt := 27) hx hb dX8_grudge_22 (by decide) ?_
    refine wr_v (fun u => mW cy b u) (va_runS (As := [.ref b, .int (nI j), .int 5, .int ((gr j) + 1)]) (rest := []) hF (c_X8_lay l D cy b n hn ((nI n, fl, se, pr, re, go, ch), (sg, bu, wa, ho, we, st, gr, po, ri)) rfl H.size j 5 (by omega) (by decide) ((gr j) + 1)) (va_cwS 4 hts gX8_grudge_X8_lay rfl rfl rfl (by decide +kernel) ⟨Nat.le_of_ble_eq_true rfl, Nat.le_of_ble_eq_true rfl⟩) (wr_preS hK hP hD (zz_all _)) rfl rfl hl.1 rfl (lv_room (Nat.le_of_ble_eq_true rfl)) dX8_grudge_27 ⟨Nat.le_of_ble_eq_true rfl, Nat.le_of_ble_eq_true rfl⟩) hP hD hS hA (zz_all _) (fun _ => zz_all _) (fun u_4 H locs e_5 hP hD hS => ?_)
    obtain rfl : u_4 = ((nI n, fl, se, pr, re, go, ch), (sg, bu, wa, ho, we, st, (upd gr j ((gr j) + 1)), po, ri)) := e_5
    have hP : va_P D vwCl (mW cy b ((nI n, fl, se, pr, re, go, ch), (sg, bu, wa, ho, we, st, (upd gr j ((gr j) + 1)), po, ri))) H := hP
    have hD : va_D A (mW cy b ((nI n, fl, se, pr, re, go, ch), (sg, bu, wa, ho, we, st, (upd gr j ((gr j) + 1)), po, ri))) := hD
    exact hret _ _ H locs ((nI n, fl, se, pr, re, go, ch), (sg, bu, wa, ho, we, st, (upd gr j ((gr j) + 1)), po, ri)) dX8_grudge_30 hP hD hS (by simp only [mGrudge, vAddM, if_neg c_1])
abbrev rm_X8_passes : Room := { frames := 2, cells := 0, slots := 0, locals := 44 }
set_option maxHeartbeats 4000000 in
set_option maxRecDepth 100000 in
theorem c_X8_passes (l : Launch) (D : va_G) (cy : Nat → ClassId) (b : Nat) (n : Nat) (hn : n ≤ 4) (x : HS) (hg : x.1.1 = nI n) (sz : Nat) (f : Int32) : Met l yX8_passes wsX8_passes rm_X8_passes (wrP D cy [.ref b, .int f] (mW cy b x) sz) (va_Qv (fun u : HS => u = mPass n f x) (wrB D (va_A (mW cy b x) sz) (fun u => mW cy b u)) (va_A (mW cy b x) sz)) 0 0 (va_A (mW cy b x) sz) := by
  obtain ⟨⟨gu, fl, se, pr, re, go, ch⟩, ⟨sg, bu, wa, ho, we, st, gr, po, ri⟩⟩ := x
  obtain rfl : gu = nI n := hg
  refine Mwv (cc := cX8_passes) (maxL := 4) (by decide) rfl (Nat.le_of_ble_eq_true rfl) ?_
  intro p e s m args below meth c Q ls A hsz hinit hF hK hP hD hA hl hret
  obtain ⟨hx, hb, hml, hown, hts⟩ := id hF
  have hown : s.vm.findClass RX8 = some m.cls := hown
  have hl : lv_has ls 4 [(0, .ref b), (1, .int f)] := hl
  suffices key : ∀ (H : Heap) (locs : List Loc), va_P D vwCl (mW cy b ((nI n, fl, se, pr, re, go, ch), (sg, bu, wa, ho, we, st, gr, po, ri))) H → va_D A (mW cy b ((nI n, fl, se, pr, re, go, ch), (sg, bu, wa, ho, we, st, gr, po, ri))) → va_S A s.heap H locs → W p l e rm_X8_passes s m args below meth c H locs 0 0 Q (F0 m 0 ls []) from key s.heap [] hP hD va_S.rf
  intro H locs hP hD hS
  refine lv_iconst (v := 0) hx hb dX8_passes_0 (by decide) ?_
  refine lv_istore_n (lv' := [(2, .int 0), (0, .ref b), (1, .int f)]) hx hb dX8_passes_1 rfl hl (by decide) rfl (fun ls hl => ?_)
  have loop : ∀ (k i : Nat) (gv : Nat → Int32), i ≤ n → n + 1 ≤ i + k → lpN (sPass st wa ho f) (n - i) i gv = lpN (sPass st wa ho f) n 0 gr → ∀ (H : Heap) (locs : List Loc) (ls : Array Slot), va_P D vwCl (mW cy b ((nI n, fl, se, pr, re, go, ch), (sg, bu, wa, ho, we, st, gv, po, ri))) H → va_D A (mW cy b ((nI n, fl, se, pr, re, go, ch), (sg, bu, wa, ho, we, st, gv, po, ri))) → va_S A s.heap H locs → lv_has ls 4 [(2, .int (nI i)), (0, .ref b), (1, .int f)] → W p l e rm_X8_passes s m args below meth c H locs 0 0 Q (F0 m 2 ls []) := by
    intro k
    induction k with
    | zero =>
      intro i gv hi hk hv
      exact absurd hk (by omega)
    | succ k ih =>
      intro i gv hi hk hv H locs ls hP hD hS hl
      refine lv_iload_n hx hb dX8_passes_2 rfl (lv_at hl 0 rfl) ?_
      refine lv_aload_n hx hb dX8_passes_3 rfl (lv_at hl 1 rfl) ?_
      refine lv_iconst (v := 0) hx hb dX8_passes_4 (by decide) ?_
      refine zz_iald hx hb hK hP 0 0 0 rfl rfl rfl ⟨by decide, Nat.le_of_ble_eq_true rfl⟩ dX8_passes_5 ?_
      refine zz_top (y := nI n) rfl ?_
      refine lv_icmp_ge (tgt := 69) hx hb dX8_passes_6 (by decide) (fun c_1 => ?_) (fun c_1 => ?_)
      · have c_1 : n ≤ i := (nI_leI (a := n) (b := i) (by omega) (by omega)).mp c_1
        exact hret _ _ H locs ((nI n, fl, se, pr, re, go, ch), (sg, bu, wa, ho, we, st, gv, po, ri)) dX8_passes_69 hP hD hS (by have q := lpN_end c_1 hv; simp only [mPass, ← q])
      · have c_1 : ¬ n ≤ i := fun q => c_1 ((nI_leI (a := n) (b := i) (by omega) (by omega)).mpr q)
        refine lv_aload_n hx hb dX8_passes_9 rfl (lv_at hl 1 rfl) ?_
        refine lv_iload_n hx hb dX8_passes_10 rfl (lv_at hl 0 rfl) ?_
        refine lv_iconst (v := 3) hx hb dX8_passes_11 (by decide) ?_
        refine rd_S (As := [.ref b, .int (nI i), .int 3]) (rest := []) hF (c_X8_of l D cy b n hn ((nI n, fl, se, pr, re, go, ch), (sg, bu, wa, ho, we, st, gv, po, ri)) rfl i 3 (by omega) (by decide)) (va_cwS 3 hts gX8_passes_X8_of rfl rfl rfl (by decide +kernel) ⟨Nat.le_of_ble_eq_true rfl, Nat.le_of_ble_eq_true rfl⟩) hK hP rfl hl.1 rfl (Nat.le_of_ble_eq_true rfl) dX8_passes_12 ⟨Nat.le_of_ble_eq_true rfl, Nat.le_of_ble_eq_true rfl⟩ ?_
        refine zz_top (y := st i) rfl ?_
        refine lv_if_ne (tgt := 32) hx hb dX8_passes_15 (by decide) (fun c_2 => ?_) (fun c_2 => ?_)
        · have c_2 : ¬ (st i) = 0 := c_2
          refine lv_iconst (v := 0) hx hb dX8_passes_32 (by decide) ?_
          refine lv_istore_n (lv' := [(3, .int 0), (2, .int (nI i)), (0, .ref b), (1, .int f)]) hx hb dX8_passes_33 rfl hl (by decide) rfl (fun ls hl => ?_)
          refine lv_iload_n hx hb dX8_passes_34 rfl (lv_at hl 0 rfl) ?_
          refine lv_if_ne (tgt := 58) hx hb dX8_passes_35 (by decide) (fun c_3 => ?_) (fun c_3 => ?_)
          · exact absurd c_3 (by decide)
          · refine lv_aload_n hx hb dX8_passes_38 rfl (lv_at hl 2 rfl) ?_
            refine lv_iload_n hx hb dX8_passes_39 rfl (lv_at hl 1 rfl) ?_
            refine lv_iconst (v := 3) hx hb dX8_passes_40 (by decide) ?_
            refine rd_S (As := [.ref b, .int (nI i), .int 3]) (rest := []) hF (c_X8_of l D cy b n hn ((nI n, fl, se, pr, re, go, ch), (sg, bu, wa, ho, we, st, gv, po, ri)) rfl i 3 (by omega) (by decide)) (va_cwS 3 hts gX8_passes_X8_of rfl rfl rfl (by decide +kernel) ⟨Nat.le_of_ble_eq_true rfl, Nat.le_of_ble_eq_true rfl⟩) hK hP rfl hl.1 rfl (Nat.le_of_ble_eq_true rfl) dX8_passes_41 ⟨Nat.le_of_ble_eq_true rfl, Nat.le_of_ble_eq_true rfl⟩ ?_
            refine zz_top (y := st i) rfl ?_
            refine lv_iconst (v := 1) hx hb dX8_passes_44 (by decide) ?_
            refine lv_icmp_ne (tgt := 63) hx hb dX8_passes_45 (by decide) (fun c_4 => ?_) (fun c_4 => ?_)
            · have c_4 : ¬ (st i) = 1 := c_4
              refine lv_iinc (v := nI (i + 1)) (lv' := [(2, .int (nI (i + 1))), (3, .int 0), (0, .ref b), (1, .int f)]) hx hb dX8_passes_63 hl (k := 1) rfl (nI_add (i) 1) (by decide) rfl (fun ls hl => ?_)
              refine lv_goto (tgt := 2) hx hb dX8_passes_66 (by decide) ?_
              exact ih (i + 1) _ (by omega) (by omega) (lpN_next (by omega) hv (by simp only [sPass, if_neg c_1, if_neg c_2, if_pos c_3, if_neg c_4])) _ _ _ hP hD hS (lv_sub hl [0, 2, 3] rfl)
            · have c_4 : (st i) = 1 := c_4
              refine lv_aload_n hx hb dX8_passes_48 rfl (lv_at hl 2 rfl) ?_
              refine lv_iload_n hx hb dX8_passes_49 rfl (lv_at hl 1 rfl) ?_
              refine lv_iconst (v := 1) hx hb dX8_passes_50 (by decide) ?_
              refine rd_S (As := [.ref b, .int (nI i), .int 1]) (rest := []) hF (c_X8_of l D cy b n hn ((nI n, fl, se, pr, re, go, ch), (sg, bu, wa, ho, we, st, gv, po, ri)) rfl i 1 (by omega) (by decide)) (va_cwS 3 hts gX8_passes_X8_of rfl rfl rfl (by decide +kernel) ⟨Nat.le_of_ble_eq_true rfl, Nat.le_of_ble_eq_true rfl⟩) hK hP rfl hl.1 rfl (Nat.le_of_ble_eq_true rfl) dX8_passes_51 ⟨Nat.le_of_ble_eq_true rfl, Nat.le_of_ble_eq_true rfl⟩ ?_
              refine zz_top (y := ho i) rfl ?_
              refine lv_iload_n hx hb dX8_passes_54 rfl (lv_at hl 3 rfl) ?_
              refine lv_icmp_ne (tgt := 63) hx hb dX8_passes_55 (by decide) (fun c_5 => ?_) (fun c_5 => ?_)
              · have c_5 : ¬ (ho i) = f := c_5
                refine lv_iinc (v := nI (i + 1)) (lv' := [(2, .int (nI (i + 1))), (3, .int 0), (0, .ref b), (1, .int f)]) hx hb dX8_passes_63 hl (k := 1) rfl (nI_add (i) 1) (by decide) rfl (fun ls hl => ?_)
                refine lv_goto (tgt := 2) hx hb dX8_passes_66 (by decide) ?_
                exact ih (i + 1) _ (by omega) (by omega) (lpN_next (by omega) hv (by simp only [sPass, if_neg c_1, if_neg c_2, if_pos c_3, if_pos c_4, if_neg c_5])) _ _ _ hP hD hS (lv_sub hl [0, 2, 3] rfl)
              · have c_5 : (ho i) = f := c_5
                refine lv_aload_n hx hb dX8_passes_58 rfl (lv_at hl 2 rfl) ?_
                refine lv_iload_n hx hb dX8_passes_59 rfl (lv_at hl 1 rfl) ?_
                refine wr_v (fun u => mW cy b u) (va_runS (As := [.ref b, .int (nI i)]) (rest := []) hF (c_X8_grudge l D cy b n hn ((nI n, fl, se, pr, re, go, ch), (sg, bu, wa, ho, we, st, gv, po, ri)) rfl H.size i (by omega)) (va_cwS 2 hts gX8_passes_X8_grudge rfl rfl rfl (by decide +kernel) ⟨Nat.le_of_ble_eq_true rfl, Nat.le_of_ble_eq_true rfl⟩) (wr_preS hK hP hD (zz_all _)) rfl rfl hl.1 rfl (lv_room (Nat.le_of_ble_eq_true rfl)) dX8_passes_60 ⟨Nat.le_of_ble_eq_true rfl, Nat.le_of_ble_eq_true rfl⟩) hP hD hS hA (zz_all _) (fun _ => zz_all _) (fun u_6 H locs e_7 hP hD hS => ?_)
                obtain rfl : u_6 = ((nI n, fl, se, pr, re, go, ch), (sg, bu, wa, ho, we, st, (vAddM gv i), po, ri)) := e_7
                have hP : va_P D vwCl (mW cy b ((nI n, fl, se, pr, re, go, ch), (sg, bu, wa, ho, we, st, (vAddM gv i), po, ri))) H := hP
                have hD : va_D A (mW cy b ((nI n, fl, se, pr, re, go, ch), (sg, bu, wa, ho, we, st, (vAddM gv i), po, ri))) := hD
                refine lv_iinc (v := nI (i + 1)) (lv' := [(2, .int (nI (i + 1))), (3, .int 0), (0, .ref b), (1, .int f)]) hx hb dX8_passes_63 hl (k := 1) rfl (nI_add (i) 1) (by decide) rfl (fun ls hl => ?_)
                refine lv_goto (tgt := 2) hx hb dX8_passes_66 (by decide) ?_
                exact ih (i + 1) _ (by omega) (by omega) (lpN_next (by omega) hv (by simp only [sPass, if_neg c_1, if_neg c_2, if_pos c_3, if_pos c_4, if_pos c_5])) _ _ _ hP hD hS (lv_sub hl [0, 2, 3] rfl)
        · have c_2 : (st i) = 0 := c_2
          refine lv_aload_n hx hb dX8_passes_18 rfl (lv_at hl 1 rfl) ?_
          refine lv_iload_n hx hb dX8_passes_19 rfl (lv_at hl 0 rfl) ?_
          refine lv_iconst (v := 4) hx hb dX8_passes_20 (by decide) ?_
          refine rd_S (As := [.ref b, .int (nI i), .int 4]) (rest := []) hF (c_X8_of l D cy b n hn ((nI n, fl, se, pr, re, go, ch), (sg, bu, wa, ho, we, st, gv, po, ri)) rfl i 4 (by omega) (by decide)) (va_cwS 3 hts gX8_passes_X8_of rfl rfl rfl (by decide +kernel) ⟨Nat.le_of_ble_eq_true rfl, Nat.le_of_ble_eq_true rfl⟩) hK hP rfl hl.1 rfl (Nat.le_of_ble_eq_true rfl) dX8_passes_21 ⟨Nat.le_of_ble_eq_true rfl, Nat.le_of_ble_eq_true rfl⟩ ?_
          refine zz_top (y := wa i) rfl ?_
          refine lv_iload_n hx hb dX8_passes_24 rfl (lv_at hl 2 rfl) ?_
          refine lv_icmp_ne (tgt := 32) hx hb dX8_passes_25 (by decide) (fun c_8 => ?_) (fun c_8 => ?_)
          · have c_8 : ¬ (wa i) = f := c_8
            refine lv_iconst (v := 0) hx hb dX8_passes_32 (by decide) ?_
            refine lv_istore_n (lv' := [(3, .int 0), (2, .int (nI i)), (0, .ref b), (1, .int f)]) hx hb dX8_passes_33 rfl hl (by decide) rfl (fun ls hl => ?_)
            refine lv_iload_n hx hb dX8_passes_34 rfl (lv_at hl 0 rfl) ?_
            refine lv_if_ne (tgt := 58) hx hb dX8_passes_35 (by decide) (fun c_9 => ?_) (fun c_9 => ?_)
            · exact absurd c_9 (by decide)
            · refine lv_aload_n hx hb dX8_passes_38 rfl (lv_at hl 2 rfl) ?_
              refine lv_iload_n hx hb dX8_passes_39 rfl (lv_at hl 1 rfl) ?_
              refine lv_iconst (v := 3) hx hb dX8_passes_40 (by decide) ?_
              refine rd_S (As := [.ref b, .int (nI i), .int 3]) (rest := []) hF (c_X8_of l D cy b n hn ((nI n, fl, se, pr, re, go, ch), (sg, bu, wa, ho, we, st, gv, po, ri)) rfl i 3 (by omega) (by decide)) (va_cwS 3 hts gX8_passes_X8_of rfl rfl rfl (by decide +kernel) ⟨Nat.le_of_ble_eq_true rfl, Nat.le_of_ble_eq_true rfl⟩) hK hP rfl hl.1 rfl (Nat.le_of_ble_eq_true rfl) dX8_passes_41 ⟨Nat.le_of_ble_eq_true rfl, Nat.le_of_ble_eq_true rfl⟩ ?_
              refine zz_top (y := st i) rfl ?_
              refine lv_iconst (v := 1) hx hb dX8_passes_44 (by decide) ?_
              refine lv_icmp_ne (tgt := 63) hx hb dX8_passes_45 (by decide) (fun c_10 => ?_) (fun c_10 => ?_)
              · have c_10 : ¬ (st i) = 1 := c_10
                refine lv_iinc (v := nI (i + 1)) (lv' := [(2, .int (nI (i + 1))), (3, .int 0), (0, .ref b), (1, .int f)]) hx hb dX8_passes_63 hl (k := 1) rfl (nI_add (i) 1) (by decide) rfl (fun ls hl => ?_)
                refine lv_goto (tgt := 2) hx hb dX8_passes_66 (by decide) ?_
                exact ih (i + 1) _ (by omega) (by omega) (lpN_next (by omega) hv (by simp only [sPass, if_neg c_1, if_pos c_2, if_neg c_8, if_pos c_9, if_neg c_10])) _ _ _ hP hD hS (lv_sub hl [0, 2, 3] rfl)
              · have c_10 : (st i) = 1 := c_10
                refine lv_aload_n hx hb dX8_passes_48 rfl (lv_at hl 2 rfl) ?_
                refine lv_iload_n hx hb dX8_passes_49 rfl (lv_at hl 1 rfl) ?_
                refine lv_iconst (v := 1) hx hb dX8_passes_50 (by decide) ?_
                refine rd_S (As := [.ref b, .int (nI i), .int 1]) (rest := []) hF (c_X8_of l D cy b n hn ((nI n, fl, se, pr, re, go, ch), (sg, bu, wa, ho, we, st, gv, po, ri)) rfl i 1 (by omega) (by decide)) (va_cwS 3 hts gX8_passes_X8_of rfl rfl rfl (by decide +kernel) ⟨Nat.le_of_ble_eq_true rfl, Nat.le_of_ble_eq_true rfl⟩) hK hP rfl hl.1 rfl (Nat.le_of_ble_eq_true rfl) dX8_passes_51 ⟨Nat.le_of_ble_eq_true rfl, Nat.le_of_ble_eq_true rfl⟩ ?_
                refine zz_top (y := ho i) rfl ?_
                refine lv_iload_n hx hb dX8_passes_54 rfl (lv_at hl 3 rfl) ?_
                refine lv_icmp_ne (tgt := 63) hx hb dX8_passes_55 (by decide) (fun c_11 => ?_) (fun c_11 => ?_)
                · have c_11 : ¬ (ho i) = f := c_11
                  refine lv_iinc (v := nI (i + 1)) (lv' := [(2, .int (nI (i + 1))), (3, .int 0), (0, .ref b), (1, .int f)]) hx hb dX8_passes_63 hl (k := 1) rfl (nI_add (i) 1) (by decide) rfl (fun ls hl => ?_)
                  refine lv_goto (tgt := 2) hx hb dX8_passes_66 (by decide) ?_
                  exact ih (i + 1) _ (by omega) (by omega) (lpN_next (by omega) hv (by simp only [sPass, if_neg c_1, if_pos c_2, if_neg c_8, if_pos c_9, if_pos c_10, if_neg c_11])) _ _ _ hP hD hS (lv_sub hl [0, 2, 3] rfl)
                · have c_11 : (ho i) = f := c_11
                  refine lv_aload_n hx hb dX8_passes_58 rfl (lv_at hl 2 rfl) ?_
                  refine lv_iload_n hx hb dX8_passes_59 rfl (lv_at hl 1 rfl) ?_
                  refine wr_v (fun u => mW cy b u) (va_runS (As := [.ref b, .int (nI i)]) (rest := []) hF (c_X8_grudge l D cy b n hn ((nI n, fl, se, pr, re, go, ch), (sg, bu, wa, ho, we, st, gv, po, ri)) rfl H.size i (by omega)) (va_cwS 2 hts gX8_passes_X8_grudge rfl rfl rfl (by decide +kernel) ⟨Nat.le_of_ble_eq_true rfl, Nat.le_of_ble_eq_true rfl⟩) (wr_preS hK hP hD (zz_all _)) rfl rfl hl.1 rfl (lv_room (Nat.le_of_ble_eq_true rfl)) dX8_passes_60 ⟨Nat.le_of_ble_eq_true rfl, Nat.le_of_ble_eq_true rfl⟩) hP hD hS hA (zz_all _) (fun _ => zz_all _) (fun u_12 H locs e_13 hP hD hS => ?_)
                  obtain rfl : u_12 = ((nI n, fl, se, pr, re, go, ch), (sg, bu, wa, ho, we, st, (vAddM gv i), po, ri)) := e_13
                  have hP : va_P D vwCl (mW cy b ((nI n, fl, se, pr, re, go, ch), (sg, bu, wa, ho, we, st, (vAddM gv i), po, ri))) H := hP
                  have hD : va_D A (mW cy b ((nI n, fl, se, pr, re, go, ch), (sg, bu, wa, ho, we, st, (vAddM gv i), po, ri))) := hD
                  refine lv_iinc (v := nI (i + 1)) (lv' := [(2, .int (nI (i + 1))), (3, .int 0), (0, .ref b), (1, .int f)]) hx hb dX8_passes_63 hl (k := 1) rfl (nI_add (i) 1) (by decide) rfl (fun ls hl => ?_)
                  refine lv_goto (tgt := 2) hx hb dX8_passes_66 (by decide) ?_
                  exact ih (i + 1) _ (by omega) (by omega) (lpN_next (by omega) hv (by simp only [sPass, if_neg c_1, if_pos c_2, if_neg c_8, if_pos c_9, if_pos c_10, if_pos c_11])) _ _ _ hP hD hS (lv_sub hl [0, 2, 3] rfl)
          · have c_8 : (wa i) = f := c_8
            refine lv_iconst (v := 1) hx hb dX8_passes_28 (by decide) ?_
            refine lv_goto (tgt := 33) hx hb dX8_passes_29 (by decide) ?_
            refine lv_istore_n (lv' := [(3, .int 1), (2, .int (nI i)), (0, .ref b), (1, .int f)]) hx hb dX8_passes_33 rfl hl (by decide) rfl (fun ls hl => ?_)
            refine lv_iload_n hx hb dX8_passes_34 rfl (lv_at hl 0 rfl) ?_
            refine lv_if_ne (tgt := 58) hx hb dX8_passes_35 (by decide) (fun c_14 => ?_) (fun c_14 => ?_)
            · refine lv_aload_n hx hb dX8_passes_58 rfl (lv_at hl 2 rfl) ?_
              refine lv_iload_n hx hb dX8_passes_59 rfl (lv_at hl 1 rfl) ?_
              refine wr_v (fun u => mW cy b u) (va_runS (As := [.ref b, .int (nI i)]) (rest := []) hF (c_X8_grudge l D cy b n hn ((nI n, fl, se, pr, re, go, ch), (sg, bu, wa, ho, we, st, gv, po, ri)) rfl H.size i (by omega)) (va_cwS 2 hts gX8_passes_X8_grudge rfl rfl rfl (by decide +kernel) ⟨Nat.le_of_ble_eq_true rfl, Nat.le_of_ble_eq_true rfl⟩) (wr_preS hK hP hD (zz_all _)) rfl rfl hl.1 rfl (lv_room (Nat.le_of_ble_eq_true rfl)) dX8_passes_60 ⟨Nat.le_of_ble_eq_true rfl, Nat.le_of_ble_eq_true rfl⟩) hP hD hS hA (zz_all _) (fun _ => zz_all _) (fun u_15 H locs e_16 hP hD hS => ?_)
              obtain rfl : u_15 = ((nI n, fl, se, pr, re, go, ch), (sg, bu, wa, ho, we, st, (vAddM gv i), po, ri)) := e_16
              have hP : va_P D vwCl (mW cy b ((nI n, fl, se, pr, re, go, ch), (sg, bu, wa, ho, we, st, (vAddM gv i), po, ri))) H := hP
              have hD : va_D A (mW cy b ((nI n, fl, se, pr, re, go, ch), (sg, bu, wa, ho, we, st, (vAddM gv i), po, ri))) := hD
              refine lv_iinc (v := nI (i + 1)) (lv' := [(2, .int (nI (i + 1))), (3, .int 1), (0, .ref b), (1, .int f)]) hx hb dX8_passes_63 hl (k := 1) rfl (nI_add (i) 1) (by decide) rfl (fun ls hl => ?_)
              refine lv_goto (tgt := 2) hx hb dX8_passes_66 (by decide) ?_
              exact ih (i + 1) _ (by omega) (by omega) (lpN_next (by omega) hv (by simp only [sPass, if_neg c_1, if_pos c_2, if_pos c_8, if_neg c_14])) _ _ _ hP hD hS (lv_sub hl [0, 2, 3] rfl)
            · exact absurd c_14 (by decide)
  exact loop (n + 1) 0 _ (Nat.zero_le _) (by omega) rfl _ _ _ hP hD hS (lv_sub hl [0, 1, 2] rfl)
abbrev rm_X8_stops : Room := { frames := 2, cells := 0, slots := 0, locals := 44 }
set_option maxHeartbeats 4000000 in
set_option maxRecDepth 100000 in
theorem c_X8_stops (l : Launch) (D : va_G) (cy : Nat → ClassId) (b : Nat) (n : Nat) (hn : n ≤ 4) (x : HS) (hg : x.1.1 = nI n) (sz : Nat) : Met l yX8_stops wsX8_stops rm_X8_stops (wrP D cy [.ref b] (mW cy b x) sz) (va_Qv (fun u : HS => u = mStops n x) (wrB D (va_A (mW cy b x) sz) (fun u => mW cy b u)) (va_A (mW cy b x) sz)) 0 0 (va_A (mW cy b x) sz) := by
  obtain ⟨⟨gu, fl, se, pr, re, go, ch⟩, ⟨sg, bu, wa, ho, we, st, gr, po, ri⟩⟩ := x
  obtain rfl : gu = nI n := hg
  refine Mwv (cc := cX8_stops) (maxL := 2) (by decide) rfl (Nat.le_of_ble_eq_true rfl) ?_
  intro p e s m args below meth c Q ls A hsz hinit hF hK hP hD hA hl hret
  obtain ⟨hx, hb, hml, hown, hts⟩ := id hF
  have hown : s.vm.findClass RX8 = some m.cls := hown
  have hl : lv_has ls 2 [(0, .ref b)] := hl
  suffices key : ∀ (H : Heap) (locs : List Loc), va_P D vwCl (mW cy b ((nI n, fl, se, pr, re, go, ch), (sg, bu, wa, ho, we, st, gr, po, ri))) H → va_D A (mW cy b ((nI n, fl, se, pr, re, go, ch), (sg, bu, wa, ho, we, st, gr, po, ri))) → va_S A s.heap H locs → W p l e rm_X8_stops s m args below meth c H locs 0 0 Q (F0 m 0 ls []) from key s.heap [] hP hD va_S.rf
  intro H locs hP hD hS
  refine lv_iconst (v := 0) hx hb dX8_stops_0 (by decide) ?_
  refine lv_istore_n (lv' := [(1, .int 0), (0, .ref b)]) hx hb dX8_stops_1 rfl hl (by decide) rfl (fun ls hl => ?_)
  have loop : ∀ (k i : Nat) (cv : Int32) (sv gv : Nat → Int32), i ≤ n → n + 1 ≤ i + k → lpN (sOut fl ho) (n - i) i (cv, sv, gv) = lpN (sOut fl ho) n 0 (ch, st, gr) → ∀ (H : Heap) (locs : List Loc) (ls : Array Slot), va_P D vwCl (mW cy b ((nI n, fl, se, pr, re, go, cv), (sg, bu, wa, ho, we, sv, gv, po, ri))) H → va_D A (mW cy b ((nI n, fl, se, pr, re, go, cv), (sg, bu, wa, ho, we, sv, gv, po, ri))) → va_S A s.heap H locs → lv_has ls 2 [(1, .int (nI i)), (0, .ref b)] → W p l e rm_X8_stops s m args below meth c H locs 0 0 Q (F0 m 2 ls []) := by
    intro k
    induction k with
    | zero =>
      intro i cv sv gv hi hk hv
      exact absurd hk (by omega)
    | succ k ih =>
      intro i cv sv gv hi hk hv H locs ls hP hD hS hl
      refine lv_iload_n hx hb dX8_stops_2 rfl (lv_at hl 0 rfl) ?_
      refine lv_aload_n hx hb dX8_stops_3 rfl (lv_at hl 1 rfl) ?_
      refine lv_iconst (v := 0) hx hb dX8_stops_4 (by decide) ?_
      refine zz_iald hx hb hK hP 0 0 0 rfl rfl rfl ⟨by decide, Nat.le_of_ble_eq_true rfl⟩ dX8_stops_5 ?_
      refine zz_top (y := nI n) rfl ?_
      refine lv_icmp_ge (tgt := 59) hx hb dX8_stops_6 (by decide) (fun c_1 => ?_) (fun c_1 => ?_)
      · have c_1 : n ≤ i := (nI_leI (a := n) (b := i) (by omega) (by omega)).mp c_1
        have q1 := lpN_end c_1 hv
        refine lv_iconst (v := 0) hx hb dX8_stops_59 (by decide) ?_
        refine lv_istore_n (lv' := [(1, .int 0), (0, .ref b)]) hx hb dX8_stops_60 rfl hl (by decide) rfl (fun ls hl => ?_)
        have loop2 : ∀ (k i : Nat) (sw gw : Nat → Int32), i ≤ n → n + 1 ≤ i + k → lpN (sInM fl (sg 0) wa we n) (n - i) i (sw, gw) = lpN (sInM fl (sg 0) wa we n) n 0 (sv, gv) → ∀ (H : Heap) (locs : List Loc) (ls : Array Slot), va_P D vwCl (mW cy b ((nI n, fl, se, pr, re, go, cv), (sg, bu, wa, ho, we, sw, gw, po, ri))) H → va_D A (mW cy b ((nI n, fl, se, pr, re, go, cv), (sg, bu, wa, ho, we, sw, gw, po, ri))) → va_S A s.heap H locs → lv_has ls 2 [(1, .int (nI i)), (0, .ref b)] → W p l e rm_X8_stops s m args below meth c H locs 0 0 Q (F0 m 61 ls []) := by
          intro k
          induction k with
          | zero =>
            intro i sw gw hi hk hv
            exact absurd hk (by omega)
          | succ k ih =>
            intro i sw gw hi hk hv H locs ls hP hD hS hl
            refine lv_iload_n hx hb dX8_stops_61 rfl (lv_at hl 0 rfl) ?_
            refine lv_aload_n hx hb dX8_stops_62 rfl (lv_at hl 1 rfl) ?_
            refine lv_iconst (v := 0) hx hb dX8_stops_63 (by decide) ?_
            refine zz_iald hx hb hK hP 0 0 0 rfl rfl rfl ⟨by decide, Nat.le_of_ble_eq_true rfl⟩ dX8_stops_64 ?_
            refine zz_top (y := nI n) rfl ?_
            refine lv_icmp_ge (tgt := 135) hx hb dX8_stops_65 (by decide) (fun c_2 => ?_) (fun c_2 => ?_)
            · have c_2 : n ≤ i := (nI_leI (a := n) (b := i) (by omega) (by omega)).mp c_2
              exact hret _ _ H locs ((nI n, fl, se, pr, re, go, cv), (sg, bu, wa, ho, we, sw, gw, po, ri)) dX8_stops_135 hP hD hS (by have q2 := lpN_end c_2 hv; simp only [mStops, mInn, hOut, ← q1, ← q2])
            · have c_2 : ¬ n ≤ i := fun q => c_2 ((nI_leI (a := n) (b := i) (by omega) (by omega)).mpr q)
              refine lv_aload_n hx hb dX8_stops_68 rfl (lv_at hl 1 rfl) ?_
              refine lv_iload_n hx hb dX8_stops_69 rfl (lv_at hl 0 rfl) ?_
              refine lv_iconst (v := 3) hx hb dX8_stops_70 (by decide) ?_
              refine rd_S (As := [.ref b, .int (nI i), .int 3]) (rest := []) hF (c_X8_of l D cy b n hn ((nI n, fl, se, pr, re, go, cv), (sg, bu, wa, ho, we, sw, gw, po, ri)) rfl i 3 (by omega) (by decide)) (va_cwS 3 hts gX8_stops_X8_of rfl rfl rfl (by decide +kernel) ⟨Nat.le_of_ble_eq_true rfl, Nat.le_of_ble_eq_true rfl⟩) hK hP rfl hl.1 rfl (Nat.le_of_ble_eq_true rfl) dX8_stops_71 ⟨Nat.le_of_ble_eq_true rfl, Nat.le_of_ble_eq_true rfl⟩ ?_
              refine zz_top (y := sw i) rfl ?_
              refine lv_if_ne (tgt := 129) hx hb dX8_stops_74 (by decide) (fun c_3 => ?_) (fun c_3 => ?_)
              · have c_3 : ¬ (sw i) = 0 := c_3
                refine lv_iinc (v := nI (i + 1)) (lv' := [(1, .int (nI (i + 1))), (0, .ref b)]) hx hb dX8_stops_129 hl (k := 0) rfl (nI_add (i) 1) (by decide) rfl (fun ls hl => ?_)
                refine lv_goto (tgt := 61) hx hb dX8_stops_132 (by decide) ?_
                exact ih (i + 1) _ _ (by omega) (by omega) (lpN_next (by omega) hv (by simp only [sInM, hWR, if_neg c_2, if_neg c_3])) _ _ _ hP hD hS (lv_sub hl [0, 1] rfl)
              · have c_3 : (sw i) = 0 := c_3
                refine lv_aload_n hx hb dX8_stops_77 rfl (lv_at hl 1 rfl) ?_
                refine lv_iload_n hx hb dX8_stops_78 rfl (lv_at hl 0 rfl) ?_
                refine lv_iconst (v := 4) hx hb dX8_stops_79 (by decide) ?_
                refine rd_S (As := [.ref b, .int (nI i), .int 4]) (rest := []) hF (c_X8_of l D cy b n hn ((nI n, fl, se, pr, re, go, cv), (sg, bu, wa, ho, we, sw, gw, po, ri)) rfl i 4 (by omega) (by decide)) (va_cwS 3 hts gX8_stops_X8_of rfl rfl rfl (by decide +kernel) ⟨Nat.le_of_ble_eq_true rfl, Nat.le_of_ble_eq_true rfl⟩) hK hP rfl hl.1 rfl (Nat.le_of_ble_eq_true rfl) dX8_stops_80 ⟨Nat.le_of_ble_eq_true rfl, Nat.le_of_ble_eq_true rfl⟩ ?_
                refine zz_top (y := wa i) rfl ?_
                refine lv_aload_n hx hb dX8_stops_83 rfl (lv_at hl 1 rfl) ?_
                refine lv_iconst (v := 1) hx hb dX8_stops_84 (by decide) ?_
                refine zz_iald hx hb hK hP 0 0 1 rfl rfl rfl ⟨by decide, Nat.le_of_ble_eq_true rfl⟩ dX8_stops_85 ?_
                refine zz_top (y := fl) rfl ?_
                refine lv_icmp_ne (tgt := 129) hx hb dX8_stops_86 (by decide) (fun c_4 => ?_) (fun c_4 => ?_)
                · have c_4 : ¬ (wa i) = fl := c_4
                  refine lv_iinc (v := nI (i + 1)) (lv' := [(1, .int (nI (i + 1))), (0, .ref b)]) hx hb dX8_stops_129 hl (k := 0) rfl (nI_add (i) 1) (by decide) rfl (fun ls hl => ?_)
                  refine lv_goto (tgt := 61) hx hb dX8_stops_132 (by decide) ?_
                  exact ih (i + 1) _ _ (by omega) (by omega) (lpN_next (by omega) hv (by simp only [sInM, hWR, if_neg c_2, if_pos c_3, if_neg c_4])) _ _ _ hP hD hS (lv_sub hl [0, 1] rfl)
                · have c_4 : (wa i) = fl := c_4
                  refine lv_aload_n hx hb dX8_stops_89 rfl (lv_at hl 1 rfl) ?_
                  refine rd_S (As := [.ref b]) (rest := []) hF (c_X8_load1 l D cy b n hn ((nI n, fl, se, pr, re, go, cv), (sg, bu, wa, ho, we, sw, gw, po, ri)) rfl ) (va_cwS 1 hts gX8_stops_X8_load1 rfl rfl rfl (by decide +kernel) ⟨Nat.le_of_ble_eq_true rfl, Nat.le_of_ble_eq_true rfl⟩) hK hP rfl hl.1 rfl (Nat.le_of_ble_eq_true rfl) dX8_stops_90 ⟨Nat.le_of_ble_eq_true rfl, Nat.le_of_ble_eq_true rfl⟩ ?_
                  refine zz_top (y := lpN (sWR sw we) n 0 0) rfl ?_
                  refine lv_aload_n hx hb dX8_stops_93 rfl (lv_at hl 1 rfl) ?_
                  refine lv_iload_n hx hb dX8_stops_94 rfl (lv_at hl 0 rfl) ?_
                  refine lv_iconst (v := 2) hx hb dX8_stops_95 (by decide) ?_
                  refine rd_S (As := [.ref b, .int (nI i), .int 2]) (rest := [.int (lpN (sWR sw we) n 0 0)]) hF (c_X8_of l D cy b n hn ((nI n, fl, se, pr, re, go, cv), (sg, bu, wa, ho, we, sw, gw, po, ri)) rfl i 2 (by omega) (by decide)) (va_cwS 3 hts gX8_stops_X8_of rfl rfl rfl (by decide +kernel) ⟨Nat.le_of_ble_eq_true rfl, Nat.le_of_ble_eq_true rfl⟩) hK hP rfl hl.1 rfl (Nat.le_of_ble_eq_true rfl) dX8_stops_96 ⟨Nat.le_of_ble_eq_true rfl, Nat.le_of_ble_eq_true rfl⟩ ?_
                  refine zz_top (y := we i) rfl ?_
                  refine lv_iadd hx hb dX8_stops_99 ?_
                  refine lv_aload_n hx hb dX8_stops_100 rfl (lv_at hl 1 rfl) ?_
                  refine lv_bipush (v := 7) hx hb dX8_stops_101 (by decide) ?_
                  refine zz_iald hx hb hK hP 0 0 7 rfl rfl rfl ⟨by decide, Nat.le_of_ble_eq_true rfl⟩ dX8_stops_103 ?_
                  refine zz_top (y := sg 0) rfl ?_
                  refine lv_icmp_gt (tgt := 124) hx hb dX8_stops_104 (by decide) (fun c_5 => ?_) (fun c_5 => ?_)
                  · have c_5 : (sg 0) < ((lpN (sWR sw we) n 0 0) + (we i)) := c_5
                    refine lv_aload_n hx hb dX8_stops_124 rfl (lv_at hl 1 rfl) ?_
                    refine lv_iload_n hx hb dX8_stops_125 rfl (lv_at hl 0 rfl) ?_
                    refine wr_v (fun u => mW cy b u) (va_runS (As := [.ref b, .int (nI i)]) (rest := []) hF (c_X8_grudge l D cy b n hn ((nI n, fl, se, pr, re, go, cv), (sg, bu, wa, ho, we, sw, gw, po, ri)) rfl H.size i (by omega)) (va_cwS 2 hts gX8_stops_X8_grudge rfl rfl rfl (by decide +kernel) ⟨Nat.le_of_ble_eq_true rfl, Nat.le_of_ble_eq_true rfl⟩) (wr_preS hK hP hD (zz_all _)) rfl rfl hl.1 rfl (lv_room (Nat.le_of_ble_eq_true rfl)) dX8_stops_126 ⟨Nat.le_of_ble_eq_true rfl, Nat.le_of_ble_eq_true rfl⟩) hP hD hS hA (zz_all _) (fun _ => zz_all _) (fun u_6 H locs e_7 hP hD hS => ?_)
                    obtain rfl : u_6 = ((nI n, fl, se, pr, re, go, cv), (sg, bu, wa, ho, we, sw, (vAddM gw i), po, ri)) := e_7
                    have hP : va_P D vwCl (mW cy b ((nI n, fl, se, pr, re, go, cv), (sg, bu, wa, ho, we, sw, (vAddM gw i), po, ri))) H := hP
                    have hD : va_D A (mW cy b ((nI n, fl, se, pr, re, go, cv), (sg, bu, wa, ho, we, sw, (vAddM gw i), po, ri))) := hD
                    refine lv_iinc (v := nI (i + 1)) (lv' := [(1, .int (nI (i + 1))), (0, .ref b)]) hx hb dX8_stops_129 hl (k := 0) rfl (nI_add (i) 1) (by decide) rfl (fun ls hl => ?_)
                    refine lv_goto (tgt := 61) hx hb dX8_stops_132 (by decide) ?_
                    exact ih (i + 1) _ _ (by omega) (by omega) (lpN_next (by omega) hv (by simp only [sInM, hWR, if_neg c_2, if_pos c_3, if_pos c_4, if_pos c_5])) _ _ _ hP hD hS (lv_sub hl [0, 1] rfl)
                  · have c_5 : ¬ (sg 0) < ((lpN (sWR sw we) n 0 0) + (we i)) := c_5
                    refine lv_aload_n hx hb dX8_stops_107 rfl (lv_at hl 1 rfl) ?_
                    refine lv_iload_n hx hb dX8_stops_108 rfl (lv_at hl 0 rfl) ?_
                    refine lv_iconst (v := 3) hx hb dX8_stops_109 (by decide) ?_
                    refine lv_iconst (v := 1) hx hb dX8_stops_110 (by decide) ?_
                    refine wr_v (fun u => mW cy b u) (va_runS (As := [.ref b, .int (nI i), .int 3, .int 1]) (rest := []) hF (c_X8_lay l D cy b n hn ((nI n, fl, se, pr, re, go, cv), (sg, bu, wa, ho, we, sw, gw, po, ri)) rfl H.size i 3 (by omega) (by decide) 1) (va_cwS 4 hts gX8_stops_X8_lay rfl rfl rfl (by decide +kernel) ⟨Nat.le_of_ble_eq_true rfl, Nat.le_of_ble_eq_true rfl⟩) (wr_preS hK hP hD (zz_all _)) rfl rfl hl.1 rfl (lv_room (Nat.le_of_ble_eq_true rfl)) dX8_stops_111 ⟨Nat.le_of_ble_eq_true rfl, Nat.le_of_ble_eq_true rfl⟩) hP hD hS hA (zz_all _) (fun _ => zz_all _) (fun u_8 H locs e_9 hP hD hS => ?_)
                    obtain rfl : u_8 = ((nI n, fl, se, pr, re, go, cv), (sg, bu, wa, ho, we, (upd sw i 1), gw, po, ri)) := e_9
                    have hP : va_P D vwCl (mW cy b ((nI n, fl, se, pr, re, go, cv), (sg, bu, wa, ho, we, (upd sw i 1), gw, po, ri))) H := hP
                    have hD : va_D A (mW cy b ((nI n, fl, se, pr, re, go, cv), (sg, bu, wa, ho, we, (upd sw i 1), gw, po, ri))) := hD
                    refine lv_aload_n hx hb dX8_stops_114 rfl (lv_at hl 1 rfl) ?_
                    refine lv_iload_n hx hb dX8_stops_115 rfl (lv_at hl 0 rfl) ?_
                    refine lv_iconst (v := 5) hx hb dX8_stops_116 (by decide) ?_
                    refine lv_iconst (v := 0) hx hb dX8_stops_117 (by decide) ?_
                    refine wr_v (fun u => mW cy b u) (va_runS (As := [.ref b, .int (nI i), .int 5, .int 0]) (rest := []) hF (c_X8_lay l D cy b n hn ((nI n, fl, se, pr, re, go, cv), (sg, bu, wa, ho, we, (upd sw i 1), gw, po, ri)) rfl H.size i 5 (by omega) (by decide) 0) (va_cwS 4 hts gX8_stops_X8_lay rfl rfl rfl (by decide +kernel) ⟨Nat.le_of_ble_eq_true rfl, Nat.le_of_ble_eq_true rfl⟩) (wr_preS hK hP hD (zz_all _)) rfl rfl hl.1 rfl (lv_room (Nat.le_of_ble_eq_true rfl)) dX8_stops_118 ⟨Nat.le_of_ble_eq_true rfl, Nat.le_of_ble_eq_true rfl⟩) hP hD hS hA (zz_all _) (fun _ => zz_all _) (fun u_10 H locs e_11 hP hD hS => ?_)
                    obtain rfl : u_10 = ((nI n, fl, se, pr, re, go, cv), (sg, bu, wa, ho, we, (upd sw i 1), (upd gw i 0), po, ri)) := e_11
                    have hP : va_P D vwCl (mW cy b ((nI n, fl, se, pr, re, go, cv), (sg, bu, wa, ho, we, (upd sw i 1), (upd gw i 0), po, ri))) H := hP
                    have hD : va_D A (mW cy b ((nI n, fl, se, pr, re, go, cv), (sg, bu, wa, ho, we, (upd sw i 1), (upd gw i 0), po, ri))) := hD
                    refine lv_goto (tgt := 129) hx hb dX8_stops_121 (by decide) ?_
                    refine lv_iinc (v := nI (i + 1)) (lv' := [(1, .int (nI (i + 1))), (0, .ref b)]) hx hb dX8_stops_129 hl (k := 0) rfl (nI_add (i) 1) (by decide) rfl (fun ls hl => ?_)
                    refine lv_goto (tgt := 61) hx hb dX8_stops_132 (by decide) ?_
                    exact ih (i + 1) _ _ (by omega) (by omega) (lpN_next (by omega) hv (by simp only [sInM, hWR, if_neg c_2, if_pos c_3, if_pos c_4, if_neg c_5])) _ _ _ hP hD hS (lv_sub hl [0, 1] rfl)
        exact loop2 (n + 1) 0 _ _ (Nat.zero_le _) (by omega) rfl _ _ _ hP hD hS (lv_sub hl [0, 1] rfl)
      · have c_1 : ¬ n ≤ i := fun q => c_1 ((nI_leI (a := n) (b := i) (by omega) (by omega)).mpr q)
        refine lv_aload_n hx hb dX8_stops_9 rfl (lv_at hl 1 rfl) ?_
        refine lv_iload_n hx hb dX8_stops_10 rfl (lv_at hl 0 rfl) ?_
        refine lv_iconst (v := 3) hx hb dX8_stops_11 (by decide) ?_
        refine rd_S (As := [.ref b, .int (nI i), .int 3]) (rest := []) hF (c_X8_of l D cy b n hn ((nI n, fl, se, pr, re, go, cv), (sg, bu, wa, ho, we, sv, gv, po, ri)) rfl i 3 (by omega) (by decide)) (va_cwS 3 hts gX8_stops_X8_of rfl rfl rfl (by decide +kernel) ⟨Nat.le_of_ble_eq_true rfl, Nat.le_of_ble_eq_true rfl⟩) hK hP rfl hl.1 rfl (Nat.le_of_ble_eq_true rfl) dX8_stops_12 ⟨Nat.le_of_ble_eq_true rfl, Nat.le_of_ble_eq_true rfl⟩ ?_
        refine zz_top (y := sv i) rfl ?_
        refine lv_iconst (v := 1) hx hb dX8_stops_15 (by decide) ?_
        refine lv_icmp_ne (tgt := 53) hx hb dX8_stops_16 (by decide) (fun c_12 => ?_) (fun c_12 => ?_)
        · have c_12 : ¬ (sv i) = 1 := c_12
          refine lv_iinc (v := nI (i + 1)) (lv' := [(1, .int (nI (i + 1))), (0, .ref b)]) hx hb dX8_stops_53 hl (k := 0) rfl (nI_add (i) 1) (by decide) rfl (fun ls hl => ?_)
          refine lv_goto (tgt := 2) hx hb dX8_stops_56 (by decide) ?_
          exact ih (i + 1) _ _ _ (by omega) (by omega) (lpN_next (by omega) hv (by simp only [sOut, if_neg c_1, if_neg c_12])) _ _ _ hP hD hS (lv_sub hl [0, 1] rfl)
        · have c_12 : (sv i) = 1 := c_12
          refine lv_aload_n hx hb dX8_stops_19 rfl (lv_at hl 1 rfl) ?_
          refine lv_iload_n hx hb dX8_stops_20 rfl (lv_at hl 0 rfl) ?_
          refine lv_iconst (v := 1) hx hb dX8_stops_21 (by decide) ?_
          refine rd_S (As := [.ref b, .int (nI i), .int 1]) (rest := []) hF (c_X8_of l D cy b n hn ((nI n, fl, se, pr, re, go, cv), (sg, bu, wa, ho, we, sv, gv, po, ri)) rfl i 1 (by omega) (by decide)) (va_cwS 3 hts gX8_stops_X8_of rfl rfl rfl (by decide +kernel) ⟨Nat.le_of_ble_eq_true rfl, Nat.le_of_ble_eq_true rfl⟩) hK hP rfl hl.1 rfl (Nat.le_of_ble_eq_true rfl) dX8_stops_22 ⟨Nat.le_of_ble_eq_true rfl, Nat.le_of_ble_eq_true rfl⟩ ?_
          refine zz_top (y := ho i) rfl ?_
          refine lv_aload_n hx hb dX8_stops_25 rfl (lv_at hl 1 rfl) ?_
          refine lv_iconst (v := 1) hx hb dX8_stops_26 (by decide) ?_
          refine zz_iald hx hb hK hP 0 0 1 rfl rfl rfl ⟨by decide, Nat.le_of_ble_eq_true rfl⟩ dX8_stops_27 ?_
          refine zz_top (y := fl) rfl ?_
          refine lv_icmp_ne (tgt := 53) hx hb dX8_stops_28 (by decide) (fun c_13 => ?_) (fun c_13 => ?_)
          · have c_13 : ¬ (ho i) = fl := c_13
            refine lv_iinc (v := nI (i + 1)) (lv' := [(1, .int (nI (i + 1))), (0, .ref b)]) hx hb dX8_stops_53 hl (k := 0) rfl (nI_add (i) 1) (by decide) rfl (fun ls hl => ?_)
            refine lv_goto (tgt := 2) hx hb dX8_stops_56 (by decide) ?_
            exact ih (i + 1) _ _ _ (by omega) (by omega) (lpN_next (by omega) hv (by simp only [sOut, if_neg c_1, if_pos c_12, if_neg c_13])) _ _ _ hP hD hS (lv_sub hl [0, 1] rfl)
          · have c_13 : (ho i) = fl := c_13
            refine lv_aload_n hx hb dX8_stops_31 rfl (lv_at hl 1 rfl) ?_
            refine lv_iload_n hx hb dX8_stops_32 rfl (lv_at hl 0 rfl) ?_
            refine lv_iconst (v := 3) hx hb dX8_stops_33 (by decide) ?_
            refine lv_iconst (v := 2) hx hb dX8_stops_34 (by decide) ?_
            refine wr_v (fun u => mW cy b u) (va_runS (As := [.ref b, .int (nI i), .int 3, .int 2]) (rest := []) hF (c_X8_lay l D cy b n hn ((nI n, fl, se, pr, re, go, cv), (sg, bu, wa, ho, we, sv, gv, po, ri)) rfl H.size i 3 (by omega) (by decide) 2) (va_cwS 4 hts gX8_stops_X8_lay rfl rfl rfl (by decide +kernel) ⟨Nat.le_of_ble_eq_true rfl, Nat.le_of_ble_eq_true rfl⟩) (wr_preS hK hP hD (zz_all _)) rfl rfl hl.1 rfl (lv_room (Nat.le_of_ble_eq_true rfl)) dX8_stops_35 ⟨Nat.le_of_ble_eq_true rfl, Nat.le_of_ble_eq_true rfl⟩) hP hD hS hA (zz_all _) (fun _ => zz_all _) (fun u_14 H locs e_15 hP hD hS => ?_)
            obtain rfl : u_14 = ((nI n, fl, se, pr, re, go, cv), (sg, bu, wa, ho, we, (upd sv i 2), gv, po, ri)) := e_15
            have hP : va_P D vwCl (mW cy b ((nI n, fl, se, pr, re, go, cv), (sg, bu, wa, ho, we, (upd sv i 2), gv, po, ri))) H := hP
            have hD : va_D A (mW cy b ((nI n, fl, se, pr, re, go, cv), (sg, bu, wa, ho, we, (upd sv i 2), gv, po, ri))) := hD
            refine lv_aload_n hx hb dX8_stops_38 rfl (lv_at hl 1 rfl) ?_
            refine lv_iload_n hx hb dX8_stops_39 rfl (lv_at hl 0 rfl) ?_
            refine lv_iconst (v := 5) hx hb dX8_stops_40 (by decide) ?_
            refine lv_iconst (v := 0) hx hb dX8_stops_41 (by decide) ?_
            refine wr_v (fun u => mW cy b u) (va_runS (As := [.ref b, .int (nI i), .int 5, .int 0]) (rest := []) hF (c_X8_lay l D cy b n hn ((nI n, fl, se, pr, re, go, cv), (sg, bu, wa, ho, we, (upd sv i 2), gv, po, ri)) rfl H.size i 5 (by omega) (by decide) 0) (va_cwS 4 hts gX8_stops_X8_lay rfl rfl rfl (by decide +kernel) ⟨Nat.le_of_ble_eq_true rfl, Nat.le_of_ble_eq_true rfl⟩) (wr_preS hK hP hD (zz_all _)) rfl rfl hl.1 rfl (lv_room (Nat.le_of_ble_eq_true rfl)) dX8_stops_42 ⟨Nat.le_of_ble_eq_true rfl, Nat.le_of_ble_eq_true rfl⟩) hP hD hS hA (zz_all _) (fun _ => zz_all _) (fun u_16 H locs e_17 hP hD hS => ?_)
            obtain rfl : u_16 = ((nI n, fl, se, pr, re, go, cv), (sg, bu, wa, ho, we, (upd sv i 2), (upd gv i 0), po, ri)) := e_17
            have hP : va_P D vwCl (mW cy b ((nI n, fl, se, pr, re, go, cv), (sg, bu, wa, ho, we, (upd sv i 2), (upd gv i 0), po, ri))) H := hP
            have hD : va_D A (mW cy b ((nI n, fl, se, pr, re, go, cv), (sg, bu, wa, ho, we, (upd sv i 2), (upd gv i 0), po, ri))) := hD
            refine lv_aload_n hx hb dX8_stops_45 rfl (lv_at hl 1 rfl) ?_
            refine lv_bipush (v := 6) hx hb dX8_stops_46 (by decide) ?_
            refine lv_dup2_11 hx hb dX8_stops_48 rfl rfl ?_
            refine zz_iald hx hb hK hP 0 0 6 rfl rfl rfl ⟨by decide, Nat.le_of_ble_eq_true rfl⟩ dX8_stops_49 ?_
            refine zz_top (y := cv) rfl ?_
            refine lv_iconst (v := 1) hx hb dX8_stops_50 (by decide) ?_
            refine lv_iadd hx hb dX8_stops_51 ?_
            refine zz_iast hx hb hK hP hD hS 0 0 6 rfl rfl rfl ⟨by decide, Nat.le_of_ble_eq_true rfl⟩ dX8_stops_52 (fun H locs hP hD hS => ?_)
            rw [mOf_setN (y := ((nI n, fl, se, pr, re, go, cv), (sg, bu, wa, ho, we, (upd sv i 2), (upd gv i 0), po, ri))) (k := 6) (v := (cv + 1)) (by decide)] at hP hD
            have hP : va_P D vwCl (mW cy b ((nI n, fl, se, pr, re, go, cv + 1), (sg, bu, wa, ho, we, (upd sv i 2), (upd gv i 0), po, ri))) H := hP
            have hD : va_D A (mW cy b ((nI n, fl, se, pr, re, go, cv + 1), (sg, bu, wa, ho, we, (upd sv i 2), (upd gv i 0), po, ri))) := hD
            refine lv_iinc (v := nI (i + 1)) (lv' := [(1, .int (nI (i + 1))), (0, .ref b)]) hx hb dX8_stops_53 hl (k := 0) rfl (nI_add (i) 1) (by decide) rfl (fun ls hl => ?_)
            refine lv_goto (tgt := 2) hx hb dX8_stops_56 (by decide) ?_
            exact ih (i + 1) _ _ _ (by omega) (by omega) (lpN_next (by omega) hv (by simp only [sOut, if_neg c_1, if_pos c_12, if_pos c_13])) _ _ _ hP hD hS (lv_sub hl [0, 1] rfl)
  exact loop (n + 1) 0 _ _ _ (Nat.zero_le _) (by omega) rfl _ _ _ hP hD hS (lv_sub hl [0, 1] rfl)
abbrev rm_X8_restOn : Room := { frames := 2, cells := 0, slots := 0, locals := 44 }
set_option maxHeartbeats 4000000 in
set_option maxRecDepth 100000 in
theorem c_X8_restOn (l : Launch) (D : va_G) (cy : Nat → ClassId) (b : Nat) (n : Nat) (hn : n ≤ 4) (x : HS) (hg : x.1.1 = nI n) (sz : Nat) : Met l yX8_restOn wsX8_restOn rm_X8_restOn (wrP D cy [.ref b] (mW cy b x) sz) (va_Qi (fun (r : Int32) (u : HS) => r = hAG n (mRest n x) ∧ u = mRest n x) (wrB D (va_A (mW cy b x) sz) (fun u => mW cy b u)) (va_A (mW cy b x) sz)) 0 0 (va_A (mW cy b x) sz) := by
  obtain ⟨⟨gu, fl, se, pr, re, go, ch⟩, ⟨sg, bu, wa, ho, we, st, gr, po, ri⟩⟩ := x
  obtain rfl : gu = nI n := hg
  refine Mwi (cc := cX8_restOn) (maxL := 2) (ty := .int) (by decide) rfl (Nat.le_of_ble_eq_true rfl) (fun _ _ _ => rfl) ?_
  intro p e s m args below meth c Q ls A hsz hF hK hP hD hA hl hret
  obtain ⟨hx, hb, hml, hown, hts⟩ := id hF
  have hown : s.vm.findClass RX8 = some m.cls := hown
  have hl : lv_has ls 2 [(0, .ref b)] := hl
  suffices key : ∀ (H : Heap) (locs : List Loc), va_P D vwCl (mW cy b ((nI n, fl, se, pr, re, go, ch), (sg, bu, wa, ho, we, st, gr, po, ri))) H → va_D A (mW cy b ((nI n, fl, se, pr, re, go, ch), (sg, bu, wa, ho, we, st, gr, po, ri))) → va_S A s.heap H locs → W p l e rm_X8_restOn s m args below meth c H locs 0 0 Q (F0 m 0 ls []) from key s.heap [] hP hD va_S.rf
  intro H locs hP hD hS
  refine lv_aload_n hx hb dX8_restOn_0 rfl (lv_at hl 0 rfl) ?_
  refine lv_iconst (v := 2) hx hb dX8_restOn_1 (by decide) ?_
  refine lv_dup2_11 hx hb dX8_restOn_2 rfl rfl ?_
  refine zz_iald hx hb hK hP 0 0 2 rfl rfl rfl ⟨by decide, Nat.le_of_ble_eq_true rfl⟩ dX8_restOn_3 ?_
  refine zz_top (y := se) rfl ?_
  refine lv_bipush (v := 30) hx hb dX8_restOn_4 (by decide) ?_
  refine lv_iadd hx hb dX8_restOn_6 ?_
  refine zz_iast hx hb hK hP hD hS 0 0 2 rfl rfl rfl ⟨by decide, Nat.le_of_ble_eq_true rfl⟩ dX8_restOn_7 (fun H locs hP hD hS => ?_)
  rw [mOf_setN (y := ((nI n, fl, se, pr, re, go, ch), (sg, bu, wa, ho, we, st, gr, po, ri))) (k := 2) (v := (se + 30)) (by decide)] at hP hD
  have hP : va_P D vwCl (mW cy b ((nI n, fl, se + 30, pr, re, go, ch), (sg, bu, wa, ho, we, st, gr, po, ri))) H := hP
  have hD : va_D A (mW cy b ((nI n, fl, se + 30, pr, re, go, ch), (sg, bu, wa, ho, we, st, gr, po, ri))) := hD
  refine lv_iconst (v := 0) hx hb dX8_restOn_8 (by decide) ?_
  refine lv_istore_n (lv' := [(1, .int 0), (0, .ref b)]) hx hb dX8_restOn_9 rfl hl (by decide) rfl (fun ls hl => ?_)
  have loop : ∀ (k i : Nat) (gv : Nat → Int32), i ≤ n → n + 1 ≤ i + k → lpN sReM (n - i) i gv = lpN sReM n 0 gr → ∀ (H : Heap) (locs : List Loc) (ls : Array Slot), va_P D vwCl (mW cy b ((nI n, fl, se + 30, pr, re, go, ch), (sg, bu, wa, ho, we, st, gv, po, ri))) H → va_D A (mW cy b ((nI n, fl, se + 30, pr, re, go, ch), (sg, bu, wa, ho, we, st, gv, po, ri))) → va_S A s.heap H locs → lv_has ls 2 [(1, .int (nI i)), (0, .ref b)] → W p l e rm_X8_restOn s m args below meth c H locs 0 0 Q (F0 m 10 ls []) := by
    intro k
    induction k with
    | zero =>
      intro i gv hi hk hv
      exact absurd hk (by omega)
    | succ k ih =>
      intro i gv hi hk hv H locs ls hP hD hS hl
      refine lv_iload_n hx hb dX8_restOn_10 rfl (lv_at hl 0 rfl) ?_
      refine lv_aload_n hx hb dX8_restOn_11 rfl (lv_at hl 1 rfl) ?_
      refine lv_iconst (v := 0) hx hb dX8_restOn_12 (by decide) ?_
      refine zz_iald hx hb hK hP 0 0 0 rfl rfl rfl ⟨by decide, Nat.le_of_ble_eq_true rfl⟩ dX8_restOn_13 ?_
      refine zz_top (y := nI n) rfl ?_
      refine lv_icmp_ge (tgt := 50) hx hb dX8_restOn_14 (by decide) (fun c_1 => ?_) (fun c_1 => ?_)
      · have c_1 : n ≤ i := (nI_leI (a := n) (b := i) (by omega) (by omega)).mp c_1
        refine lv_aload_n hx hb dX8_restOn_50 rfl (lv_at hl 1 rfl) ?_
        refine rd_S (As := [.ref b]) (rest := []) hF (c_X8_allGrudges l D cy b n hn ((nI n, fl, se + 30, pr, re, go, ch), (sg, bu, wa, ho, we, st, gv, po, ri)) rfl ) (va_cwS 1 hts gX8_restOn_X8_allGrudges rfl rfl rfl (by decide +kernel) ⟨Nat.le_of_ble_eq_true rfl, Nat.le_of_ble_eq_true rfl⟩) hK hP rfl hl.1 rfl (Nat.le_of_ble_eq_true rfl) dX8_restOn_51 ⟨Nat.le_of_ble_eq_true rfl, Nat.le_of_ble_eq_true rfl⟩ ?_
        exact hret _ _ H locs _ ((nI n, fl, se + 30, pr, re, go, ch), (sg, bu, wa, ho, we, st, gv, po, ri)) dX8_restOn_54 hP hD hS (by have q := lpN_end c_1 hv; simp only [mRest, ← q, and_self])
      · have c_1 : ¬ n ≤ i := fun q => c_1 ((nI_leI (a := n) (b := i) (by omega) (by omega)).mpr q)
        refine lv_aload_n hx hb dX8_restOn_17 rfl (lv_at hl 1 rfl) ?_
        refine lv_iload_n hx hb dX8_restOn_18 rfl (lv_at hl 0 rfl) ?_
        refine lv_iconst (v := 5) hx hb dX8_restOn_19 (by decide) ?_
        refine lv_aload_n hx hb dX8_restOn_20 rfl (lv_at hl 1 rfl) ?_
        refine lv_iload_n hx hb dX8_restOn_21 rfl (lv_at hl 0 rfl) ?_
        refine lv_iconst (v := 5) hx hb dX8_restOn_22 (by decide) ?_
        refine rd_S (As := [.ref b, .int (nI i), .int 5]) (rest := [.int 5, .int (nI i), .ref b]) hF (c_X8_of l D cy b n hn ((nI n, fl, se + 30, pr, re, go, ch), (sg, bu, wa, ho, we, st, gv, po, ri)) rfl i 5 (by omega) (by decide)) (va_cwS 3 hts gX8_restOn_X8_of rfl rfl rfl (by decide +kernel) ⟨Nat.le_of_ble_eq_true rfl, Nat.le_of_ble_eq_true rfl⟩) hK hP rfl hl.1 rfl (Nat.le_of_ble_eq_true rfl) dX8_restOn_23 ⟨Nat.le_of_ble_eq_true rfl, Nat.le_of_ble_eq_true rfl⟩ ?_
        refine zz_top (y := gv i) rfl ?_
        refine lv_if_le (tgt := 40) hx hb dX8_restOn_26 (by decide) (fun c_2 => ?_) (fun c_2 => ?_)
        · have c_2 : (gv i) ≤ 0 := c_2
          refine lv_iconst (v := 0) hx hb dX8_restOn_40 (by decide) ?_
          refine wr_v (fun u => mW cy b u) (va_runS (As := [.ref b, .int (nI i), .int 5, .int 0]) (rest := []) hF (c_X8_lay l D cy b n hn ((nI n, fl, se + 30, pr, re, go, ch), (sg, bu, wa, ho, we, st, gv, po, ri)) rfl H.size i 5 (by omega) (by decide) 0) (va_cwS 4 hts gX8_restOn_X8_lay rfl rfl rfl (by decide +kernel) ⟨Nat.le_of_ble_eq_true rfl, Nat.le_of_ble_eq_true rfl⟩) (wr_preS hK hP hD (zz_all _)) rfl rfl hl.1 rfl (lv_room (Nat.le_of_ble_eq_true rfl)) dX8_restOn_41 ⟨Nat.le_of_ble_eq_true rfl, Nat.le_of_ble_eq_true rfl⟩) hP hD hS hA (zz_all _) (fun _ => zz_all _) (fun u_3 H locs e_4 hP hD hS => ?_)
          obtain rfl : u_3 = ((nI n, fl, se + 30, pr, re, go, ch), (sg, bu, wa, ho, we, st, (upd gv i 0), po, ri)) := e_4
          have hP : va_P D vwCl (mW cy b ((nI n, fl, se + 30, pr, re, go, ch), (sg, bu, wa, ho, we, st, (upd gv i 0), po, ri))) H := hP
          have hD : va_D A (mW cy b ((nI n, fl, se + 30, pr, re, go, ch), (sg, bu, wa, ho, we, st, (upd gv i 0), po, ri))) := hD
          refine lv_iinc (v := nI (i + 1)) (lv' := [(1, .int (nI (i + 1))), (0, .ref b)]) hx hb dX8_restOn_44 hl (k := 0) rfl (nI_add (i) 1) (by decide) rfl (fun ls hl => ?_)
          refine lv_goto (tgt := 10) hx hb dX8_restOn_47 (by decide) ?_
          exact ih (i + 1) _ (by omega) (by omega) (lpN_next (by omega) hv (by simp only [sReM, if_neg c_1, if_pos c_2])) _ _ _ hP hD hS (lv_sub hl [0, 1] rfl)
        · have c_2 : ¬ (gv i) ≤ 0 := c_2
          refine lv_aload_n hx hb dX8_restOn_29 rfl (lv_at hl 1 rfl) ?_
          refine lv_iload_n hx hb dX8_restOn_30 rfl (lv_at hl 0 rfl) ?_
          refine lv_iconst (v := 5) hx hb dX8_restOn_31 (by decide) ?_
          refine rd_S (As := [.ref b, .int (nI i), .int 5]) (rest := [.int 5, .int (nI i), .ref b]) hF (c_X8_of l D cy b n hn ((nI n, fl, se + 30, pr, re, go, ch), (sg, bu, wa, ho, we, st, gv, po, ri)) rfl i 5 (by omega) (by decide)) (va_cwS 3 hts gX8_restOn_X8_of rfl rfl rfl (by decide +kernel) ⟨Nat.le_of_ble_eq_true rfl, Nat.le_of_ble_eq_true rfl⟩) hK hP rfl hl.1 rfl (Nat.le_of_ble_eq_true rfl) dX8_restOn_32 ⟨Nat.le_of_ble_eq_true rfl, Nat.le_of_ble_eq_true rfl⟩ ?_
          refine zz_top (y := gv i) rfl ?_
          refine lv_iconst (v := 1) hx hb dX8_restOn_35 (by decide) ?_
          refine lv_isub hx hb dX8_restOn_36 ?_
          refine lv_goto (tgt := 41) hx hb dX8_restOn_37 (by decide) ?_
          refine wr_v (fun u => mW cy b u) (va_runS (As := [.ref b, .int (nI i), .int 5, .int ((gv i) - 1)]) (rest := []) hF (c_X8_lay l D cy b n hn ((nI n, fl, se + 30, pr, re, go, ch), (sg, bu, wa, ho, we, st, gv, po, ri)) rfl H.size i 5 (by omega) (by decide) ((gv i) - 1)) (va_cwS 4 hts gX8_restOn_X8_lay rfl rfl rfl (by decide +kernel) ⟨Nat.le_of_ble_eq_true rfl, Nat.le_of_ble_eq_true rfl⟩) (wr_preS hK hP hD (zz_all _)) rfl rfl hl.1 rfl (lv_room (Nat.le_of_ble_eq_true rfl)) dX8_restOn_41 ⟨Nat.le_of_ble_eq_true rfl, Nat.le_of_ble_eq_true rfl⟩) hP hD hS hA (zz_all _) (fun _ => zz_all _) (fun u_5 H locs e_6 hP hD hS => ?_)
          obtain rfl : u_5 = ((nI n, fl, se + 30, pr, re, go, ch), (sg, bu, wa, ho, we, st, (upd gv i ((gv i) - 1)), po, ri)) := e_6
          have hP : va_P D vwCl (mW cy b ((nI n, fl, se + 30, pr, re, go, ch), (sg, bu, wa, ho, we, st, (upd gv i ((gv i) - 1)), po, ri))) H := hP
          have hD : va_D A (mW cy b ((nI n, fl, se + 30, pr, re, go, ch), (sg, bu, wa, ho, we, st, (upd gv i ((gv i) - 1)), po, ri))) := hD
          refine lv_iinc (v := nI (i + 1)) (lv' := [(1, .int (nI (i + 1))), (0, .ref b)]) hx hb dX8_restOn_44 hl (k := 0) rfl (nI_add (i) 1) (by decide) rfl (fun ls hl => ?_)
          refine lv_goto (tgt := 10) hx hb dX8_restOn_47 (by decide) ?_
          exact ih (i + 1) _ (by omega) (by omega) (lpN_next (by omega) hv (by simp only [sReM, if_neg c_1, if_neg c_2])) _ _ _ hP hD hS (lv_sub hl [0, 1] rfl)
  exact loop (n + 1) 0 _ (Nat.zero_le _) (by omega) rfl _ _ _ hP hD hS (lv_sub hl [0, 1] rfl)
abbrev rm_X8_change : Room := { frames := 0, cells := 0, slots := 0, locals := 0 }
set_option maxHeartbeats 4000000 in
set_option maxRecDepth 100000 in
theorem c_X8_change (l : Launch) (D : va_G) (cy : Nat → ClassId) (b : Nat) (n : Nat) (hn : n ≤ 4) (x : HS) (hg : x.1.1 = nI n) (sz : Nat) (w : Nat) (hw : w < 3) (v : Int32) : Met l yX8_change wsX8_change rm_X8_change (wrP D cy [.ref b, .int (nI w), .int v] (mW cy b x) sz) (va_Qi (fun (r : Int32) (u : HS) => r = x.2.1 w ∧ u = mSetS w v x) (wrB D (va_A (mW cy b x) sz) (fun u => mW cy b u)) (va_A (mW cy b x) sz)) 0 0 (va_A (mW cy b x) sz) := by
  obtain ⟨⟨gu, fl, se, pr, re, go, ch⟩, ⟨sg, bu, wa, ho, we, st, gr, po, ri⟩⟩ := x
  obtain rfl : gu = nI n := hg
  refine Mwi (cc := cX8_change) (maxL := 4) (ty := .int) (by decide) rfl (Nat.le_of_ble_eq_true rfl) (fun _ _ _ => rfl) ?_
  intro p e s m args below meth c Q ls A hsz hF hK hP hD hA hl hret
  obtain ⟨hx, hb, hml, hown, hts⟩ := id hF
  have hown : s.vm.findClass RX8 = some m.cls := hown
  have hl : lv_has ls 4 [(0, .ref b), (1, .int (nI w)), (2, .int v)] := hl
  suffices key : ∀ (H : Heap) (locs : List Loc), va_P D vwCl (mW cy b ((nI n, fl, se, pr, re, go, ch), (sg, bu, wa, ho, we, st, gr, po, ri))) H → va_D A (mW cy b ((nI n, fl, se, pr, re, go, ch), (sg, bu, wa, ho, we, st, gr, po, ri))) → va_S A s.heap H locs → W p l e rm_X8_change s m args below meth c H locs 0 0 Q (F0 m 0 ls []) from key s.heap [] hP hD va_S.rf
  intro H locs hP hD hS
  refine lv_aload_n hx hb dX8_change_0 rfl (lv_at hl 0 rfl) ?_
  refine lv_bipush (v := 7) hx hb dX8_change_1 (by decide) ?_
  refine lv_iload_n hx hb dX8_change_3 rfl (lv_at hl 1 rfl) ?_
  refine lv_iadd hx hb dX8_change_4 ?_
  refine zz_top (y := nI (7 + w)) (nI_add 7 w) ?_
  refine zz_iald hx hb hK hP 0 0 (7 + w) rfl rfl rfl ⟨by omega, Nat.le_of_ble_eq_true rfl⟩ dX8_change_5 ?_
  refine zz_top (y := sg w) (mOf_s hw) ?_
  refine lv_istore_n (lv' := [(3, .int (sg w)), (0, .ref b), (1, .int (nI w)), (2, .int v)]) hx hb dX8_change_6 rfl hl (by decide) rfl (fun ls hl => ?_)
  refine lv_aload_n hx hb dX8_change_7 rfl (lv_at hl 1 rfl) ?_
  refine lv_bipush (v := 7) hx hb dX8_change_8 (by decide) ?_
  refine lv_iload_n hx hb dX8_change_10 rfl (lv_at hl 2 rfl) ?_
  refine lv_iadd hx hb dX8_change_11 ?_
  refine zz_top (y := nI (7 + w)) (nI_add 7 w) ?_
  refine lv_iload_n hx hb dX8_change_12 rfl (lv_at hl 3 rfl) ?_
  refine zz_iast hx hb hK hP hD hS 0 0 (7 + w) rfl rfl rfl ⟨by omega, Nat.le_of_ble_eq_true rfl⟩ dX8_change_13 (fun H locs hP hD hS => ?_)
  rw [mOf_setS (y := ((nI n, fl, se, pr, re, go, ch), (sg, bu, wa, ho, we, st, gr, po, ri))) (w := w) (v := v) hw] at hP hD
  have hP : va_P D vwCl (mW cy b ((nI n, fl, se, pr, re, go, ch), ((upd sg w v), bu, wa, ho, we, st, gr, po, ri))) H := hP
  have hD : va_D A (mW cy b ((nI n, fl, se, pr, re, go, ch), ((upd sg w v), bu, wa, ho, we, st, gr, po, ri))) := hD
  refine lv_iload_n hx hb dX8_change_14 rfl (lv_at hl 0 rfl) ?_
  exact hret _ _ H locs _ ((nI n, fl, se, pr, re, go, ch), ((upd sg w v), bu, wa, ho, we, st, gr, po, ri)) dX8_change_15 hP hD hS (⟨rfl, rfl⟩)
abbrev rm_X8_comeOn : Room := { frames := 1, cells := 0, slots := 0, locals := 23 }
set_option maxHeartbeats 4000000 in
set_option maxRecDepth 100000 in
theorem c_X8_comeOn (l : Launch) (D : va_G) (cy : Nat → ClassId) (b : Nat) (n : Nat) (hn : n ≤ 4) (x : HS) (hg : x.1.1 = nI n) (sz : Nat) (hn4 : n < 4) (bb a z v : Int32) : Met l yX8_comeOn wsX8_comeOn rm_X8_comeOn (wrP D cy [.ref b, .int bb, .int a, .int z, .int v] (mW cy b x) sz) (va_Qi (fun (r : Int32) (u : HS) => r = nI n ∧ u = hCome n bb a z v x) (wrB D (va_A (mW cy b x) sz) (fun u => mW cy b u)) (va_A (mW cy b x) sz)) 0 0 (va_A (mW cy b x) sz) := by
  obtain ⟨⟨gu, fl, se, pr, re, go, ch⟩, ⟨sg, bu, wa, ho, we, st, gr, po, ri⟩⟩ := x
  obtain rfl : gu = nI n := hg
  refine Mwi (cc := cX8_comeOn) (maxL := 6) (ty := .int) (by decide) rfl (Nat.le_of_ble_eq_true rfl) (fun _ _ _ => rfl) ?_
  intro p e s m args below meth c Q ls A hsz hF hK hP hD hA hl hret
  obtain ⟨hx, hb, hml, hown, hts⟩ := id hF
  have hown : s.vm.findClass RX8 = some m.cls := hown
  have hl : lv_has ls 6 [(0, .ref b), (1, .int bb), (2, .int a), (3, .int z), (4, .int v)] := hl
  suffices key : ∀ (H : Heap) (locs : List Loc), va_P D vwCl (mW cy b ((nI n, fl, se, pr, re, go, ch), (sg, bu, wa, ho, we, st, gr, po, ri))) H → va_D A (mW cy b ((nI n, fl, se, pr, re, go, ch), (sg, bu, wa, ho, we, st, gr, po, ri))) → va_S A s.heap H locs → W p l e rm_X8_comeOn s m args below meth c H locs 0 0 Q (F0 m 0 ls []) from key s.heap [] hP hD va_S.rf
  intro H locs hP hD hS
  refine lv_aload_n hx hb dX8_comeOn_0 rfl (lv_at hl 0 rfl) ?_
  refine lv_iconst (v := 0) hx hb dX8_comeOn_1 (by decide) ?_
  refine zz_iald hx hb hK hP 0 0 0 rfl rfl rfl ⟨by decide, Nat.le_of_ble_eq_true rfl⟩ dX8_comeOn_2 ?_
  refine zz_top (y := nI n) rfl ?_
  refine lv_istore (lv' := [(5, .int (nI n)), (0, .ref b), (1, .int bb), (2, .int a), (3, .int z), (4, .int v)]) hx hb dX8_comeOn_3 hl (by decide) rfl (fun ls hl => ?_)
  refine lv_aload_n hx hb dX8_comeOn_5 rfl (lv_at hl 1 rfl) ?_
  refine lv_iload hx hb dX8_comeOn_6 (lv_at hl 0 rfl) ?_
  refine lv_iconst (v := 0) hx hb dX8_comeOn_8 (by decide) ?_
  refine lv_iload_n hx hb dX8_comeOn_9 rfl (lv_at hl 2 rfl) ?_
  refine wr_v (fun u => mW cy b u) (va_runS (As := [.ref b, .int (nI n), .int 0, .int bb]) (rest := []) hF (c_X8_lay l D cy b n hn ((nI n, fl, se, pr, re, go, ch), (sg, bu, wa, ho, we, st, gr, po, ri)) rfl H.size n 0 (by omega) (by decide) bb) (va_cwS 4 hts gX8_comeOn_X8_lay rfl rfl rfl (by decide +kernel) ⟨Nat.le_of_ble_eq_true rfl, Nat.le_of_ble_eq_true rfl⟩) (wr_preS hK hP hD (zz_all _)) rfl rfl hl.1 rfl (lv_room (Nat.le_of_ble_eq_true rfl)) dX8_comeOn_10 ⟨Nat.le_of_ble_eq_true rfl, Nat.le_of_ble_eq_true rfl⟩) hP hD hS hA (zz_all _) (fun _ => zz_all _) (fun u_1 H locs e_2 hP hD hS => ?_)
  obtain rfl : u_1 = ((nI n, fl, se, pr, re, go, ch), (sg, (upd bu n bb), wa, ho, we, st, gr, po, ri)) := e_2
  have hP : va_P D vwCl (mW cy b ((nI n, fl, se, pr, re, go, ch), (sg, (upd bu n bb), wa, ho, we, st, gr, po, ri))) H := hP
  have hD : va_D A (mW cy b ((nI n, fl, se, pr, re, go, ch), (sg, (upd bu n bb), wa, ho, we, st, gr, po, ri))) := hD
  refine lv_aload_n hx hb dX8_comeOn_13 rfl (lv_at hl 1 rfl) ?_
  refine lv_iload hx hb dX8_comeOn_14 (lv_at hl 0 rfl) ?_
  refine lv_iconst (v := 1) hx hb dX8_comeOn_16 (by decide) ?_
  refine lv_iload_n hx hb dX8_comeOn_17 rfl (lv_at hl 4 rfl) ?_
  refine wr_v (fun u => mW cy b u) (va_runS (As := [.ref b, .int (nI n), .int 1, .int z]) (rest := []) hF (c_X8_lay l D cy b n hn ((nI n, fl, se, pr, re, go, ch), (sg, (upd bu n bb), wa, ho, we, st, gr, po, ri)) rfl H.size n 1 (by omega) (by decide) z) (va_cwS 4 hts gX8_comeOn_X8_lay rfl rfl rfl (by decide +kernel) ⟨Nat.le_of_ble_eq_true rfl, Nat.le_of_ble_eq_true rfl⟩) (wr_preS hK hP hD (zz_all _)) rfl rfl hl.1 rfl (lv_room (Nat.le_of_ble_eq_true rfl)) dX8_comeOn_18 ⟨Nat.le_of_ble_eq_true rfl, Nat.le_of_ble_eq_true rfl⟩) hP hD hS hA (zz_all _) (fun _ => zz_all _) (fun u_3 H locs e_4 hP hD hS => ?_)
  obtain rfl : u_3 = ((nI n, fl, se, pr, re, go, ch), (sg, (upd bu n bb), wa, (upd ho n z), we, st, gr, po, ri)) := e_4
  have hP : va_P D vwCl (mW cy b ((nI n, fl, se, pr, re, go, ch), (sg, (upd bu n bb), wa, (upd ho n z), we, st, gr, po, ri))) H := hP
  have hD : va_D A (mW cy b ((nI n, fl, se, pr, re, go, ch), (sg, (upd bu n bb), wa, (upd ho n z), we, st, gr, po, ri))) := hD
  refine lv_aload_n hx hb dX8_comeOn_21 rfl (lv_at hl 1 rfl) ?_
  refine lv_iload hx hb dX8_comeOn_22 (lv_at hl 0 rfl) ?_
  refine lv_iconst (v := 2) hx hb dX8_comeOn_24 (by decide) ?_
  refine lv_iload hx hb dX8_comeOn_25 (lv_at hl 5 rfl) ?_
  refine wr_v (fun u => mW cy b u) (va_runS (As := [.ref b, .int (nI n), .int 2, .int v]) (rest := []) hF (c_X8_lay l D cy b n hn ((nI n, fl, se, pr, re, go, ch), (sg, (upd bu n bb), wa, (upd ho n z), we, st, gr, po, ri)) rfl H.size n 2 (by omega) (by decide) v) (va_cwS 4 hts gX8_comeOn_X8_lay rfl rfl rfl (by decide +kernel) ⟨Nat.le_of_ble_eq_true rfl, Nat.le_of_ble_eq_true rfl⟩) (wr_preS hK hP hD (zz_all _)) rfl rfl hl.1 rfl (lv_room (Nat.le_of_ble_eq_true rfl)) dX8_comeOn_27 ⟨Nat.le_of_ble_eq_true rfl, Nat.le_of_ble_eq_true rfl⟩) hP hD hS hA (zz_all _) (fun _ => zz_all _) (fun u_5 H locs e_6 hP hD hS => ?_)
  obtain rfl : u_5 = ((nI n, fl, se, pr, re, go, ch), (sg, (upd bu n bb), wa, (upd ho n z), (upd we n v), st, gr, po, ri)) := e_6
  have hP : va_P D vwCl (mW cy b ((nI n, fl, se, pr, re, go, ch), (sg, (upd bu n bb), wa, (upd ho n z), (upd we n v), st, gr, po, ri))) H := hP
  have hD : va_D A (mW cy b ((nI n, fl, se, pr, re, go, ch), (sg, (upd bu n bb), wa, (upd ho n z), (upd we n v), st, gr, po, ri))) := hD
  refine lv_aload_n hx hb dX8_comeOn_30 rfl (lv_at hl 1 rfl) ?_
  refine lv_iload hx hb dX8_comeOn_31 (lv_at hl 0 rfl) ?_
  refine lv_iconst (v := 3) hx hb dX8_comeOn_33 (by decide) ?_
  refine lv_iload_n hx hb dX8_comeOn_34 rfl (lv_at hl 3 rfl) ?_
  refine lv_iload_n hx hb dX8_comeOn_35 rfl (lv_at hl 4 rfl) ?_
  refine lv_icmp_ne (tgt := 43) hx hb dX8_comeOn_36 (by decide) (fun c_7 => ?_) (fun c_7 => ?_)
  · have c_7 : ¬ a = z := c_7
    refine lv_iconst (v := 0) hx hb dX8_comeOn_43 (by decide) ?_
    refine wr_v (fun u => mW cy b u) (va_runS (As := [.ref b, .int (nI n), .int 3, .int 0]) (rest := []) hF (c_X8_lay l D cy b n hn ((nI n, fl, se, pr, re, go, ch), (sg, (upd bu n bb), wa, (upd ho n z), (upd we n v), st, gr, po, ri)) rfl H.size n 3 (by omega) (by decide) 0) (va_cwS 4 hts gX8_comeOn_X8_lay rfl rfl rfl (by decide +kernel) ⟨Nat.le_of_ble_eq_true rfl, Nat.le_of_ble_eq_true rfl⟩) (wr_preS hK hP hD (zz_all _)) rfl rfl hl.1 rfl (lv_room (Nat.le_of_ble_eq_true rfl)) dX8_comeOn_44 ⟨Nat.le_of_ble_eq_true rfl, Nat.le_of_ble_eq_true rfl⟩) hP hD hS hA (zz_all _) (fun _ => zz_all _) (fun u_8 H locs e_9 hP hD hS => ?_)
    obtain rfl : u_8 = ((nI n, fl, se, pr, re, go, ch), (sg, (upd bu n bb), wa, (upd ho n z), (upd we n v), (upd st n 0), gr, po, ri)) := e_9
    have hP : va_P D vwCl (mW cy b ((nI n, fl, se, pr, re, go, ch), (sg, (upd bu n bb), wa, (upd ho n z), (upd we n v), (upd st n 0), gr, po, ri))) H := hP
    have hD : va_D A (mW cy b ((nI n, fl, se, pr, re, go, ch), (sg, (upd bu n bb), wa, (upd ho n z), (upd we n v), (upd st n 0), gr, po, ri))) := hD
    refine lv_aload_n hx hb dX8_comeOn_47 rfl (lv_at hl 1 rfl) ?_
    refine lv_iload hx hb dX8_comeOn_48 (lv_at hl 0 rfl) ?_
    refine lv_iconst (v := 4) hx hb dX8_comeOn_50 (by decide) ?_
    refine lv_iload_n hx hb dX8_comeOn_51 rfl (lv_at hl 3 rfl) ?_
    refine wr_v (fun u => mW cy b u) (va_runS (As := [.ref b, .int (nI n), .int 4, .int a]) (rest := []) hF (c_X8_lay l D cy b n hn ((nI n, fl, se, pr, re, go, ch), (sg, (upd bu n bb), wa, (upd ho n z), (upd we n v), (upd st n 0), gr, po, ri)) rfl H.size n 4 (by omega) (by decide) a) (va_cwS 4 hts gX8_comeOn_X8_lay rfl rfl rfl (by decide +kernel) ⟨Nat.le_of_ble_eq_true rfl, Nat.le_of_ble_eq_true rfl⟩) (wr_preS hK hP hD (zz_all _)) rfl rfl hl.1 rfl (lv_room (Nat.le_of_ble_eq_true rfl)) dX8_comeOn_52 ⟨Nat.le_of_ble_eq_true rfl, Nat.le_of_ble_eq_true rfl⟩) hP hD hS hA (zz_all _) (fun _ => zz_all _) (fun u_10 H locs e_11 hP hD hS => ?_)
    obtain rfl : u_10 = ((nI n, fl, se, pr, re, go, ch), (sg, (upd bu n bb), (upd wa n a), (upd ho n z), (upd we n v), (upd st n 0), gr, po, ri)) := e_11
    have hP : va_P D vwCl (mW cy b ((nI n, fl, se, pr, re, go, ch), (sg, (upd bu n bb), (upd wa n a), (upd ho n z), (upd we n v), (upd st n 0), gr, po, ri))) H := hP
    have hD : va_D A (mW cy b ((nI n, fl, se, pr, re, go, ch), (sg, (upd bu n bb), (upd wa n a), (upd ho n z), (upd we n v), (upd st n 0), gr, po, ri))) := hD
    refine lv_aload_n hx hb dX8_comeOn_55 rfl (lv_at hl 1 rfl) ?_
    refine lv_iload hx hb dX8_comeOn_56 (lv_at hl 0 rfl) ?_
    refine lv_iconst (v := 5) hx hb dX8_comeOn_58 (by decide) ?_
    refine lv_iconst (v := 0) hx hb dX8_comeOn_59 (by decide) ?_
    refine wr_v (fun u => mW cy b u) (va_runS (As := [.ref b, .int (nI n), .int 5, .int 0]) (rest := []) hF (c_X8_lay l D cy b n hn ((nI n, fl, se, pr, re, go, ch), (sg, (upd bu n bb), (upd wa n a), (upd ho n z), (upd we n v), (upd st n 0), gr, po, ri)) rfl H.size n 5 (by omega) (by decide) 0) (va_cwS 4 hts gX8_comeOn_X8_lay rfl rfl rfl (by decide +kernel) ⟨Nat.le_of_ble_eq_true rfl, Nat.le_of_ble_eq_true rfl⟩) (wr_preS hK hP hD (zz_all _)) rfl rfl hl.1 rfl (lv_room (Nat.le_of_ble_eq_true rfl)) dX8_comeOn_60 ⟨Nat.le_of_ble_eq_true rfl, Nat.le_of_ble_eq_true rfl⟩) hP hD hS hA (zz_all _) (fun _ => zz_all _) (fun u_12 H locs e_13 hP hD hS => ?_)
    obtain rfl : u_12 = ((nI n, fl, se, pr, re, go, ch), (sg, (upd bu n bb), (upd wa n a), (upd ho n z), (upd we n v), (upd st n 0), (upd gr n 0), po, ri)) := e_13
    have hP : va_P D vwCl (mW cy b ((nI n, fl, se, pr, re, go, ch), (sg, (upd bu n bb), (upd wa n a), (upd ho n z), (upd we n v), (upd st n 0), (upd gr n 0), po, ri))) H := hP
    have hD : va_D A (mW cy b ((nI n, fl, se, pr, re, go, ch), (sg, (upd bu n bb), (upd wa n a), (upd ho n z), (upd we n v), (upd st n 0), (upd gr n 0), po, ri))) := hD
    refine lv_aload_n hx hb dX8_comeOn_63 rfl (lv_at hl 1 rfl) ?_
    refine lv_iload hx hb dX8_comeOn_64 (lv_at hl 0 rfl) ?_
    refine lv_bipush (v := 6) hx hb dX8_comeOn_66 (by decide) ?_
    refine lv_iconst (v := 0) hx hb dX8_comeOn_68 (by decide) ?_
    refine wr_v (fun u => mW cy b u) (va_runS (As := [.ref b, .int (nI n), .int 6, .int 0]) (rest := []) hF (c_X8_lay l D cy b n hn ((nI n, fl, se, pr, re, go, ch), (sg, (upd bu n bb), (upd wa n a), (upd ho n z), (upd we n v), (upd st n 0), (upd gr n 0), po, ri)) rfl H.size n 6 (by omega) (by decide) 0) (va_cwS 4 hts gX8_comeOn_X8_lay rfl rfl rfl (by decide +kernel) ⟨Nat.le_of_ble_eq_true rfl, Nat.le_of_ble_eq_true rfl⟩) (wr_preS hK hP hD (zz_all _)) rfl rfl hl.1 rfl (lv_room (Nat.le_of_ble_eq_true rfl)) dX8_comeOn_69 ⟨Nat.le_of_ble_eq_true rfl, Nat.le_of_ble_eq_true rfl⟩) hP hD hS hA (zz_all _) (fun _ => zz_all _) (fun u_14 H locs e_15 hP hD hS => ?_)
    obtain rfl : u_14 = ((nI n, fl, se, pr, re, go, ch), (sg, (upd bu n bb), (upd wa n a), (upd ho n z), (upd we n v), (upd st n 0), (upd gr n 0), (upd po n 0), ri)) := e_15
    have hP : va_P D vwCl (mW cy b ((nI n, fl, se, pr, re, go, ch), (sg, (upd bu n bb), (upd wa n a), (upd ho n z), (upd we n v), (upd st n 0), (upd gr n 0), (upd po n 0), ri))) H := hP
    have hD : va_D A (mW cy b ((nI n, fl, se, pr, re, go, ch), (sg, (upd bu n bb), (upd wa n a), (upd ho n z), (upd we n v), (upd st n 0), (upd gr n 0), (upd po n 0), ri))) := hD
    refine lv_aload_n hx hb dX8_comeOn_72 rfl (lv_at hl 1 rfl) ?_
    refine lv_iload hx hb dX8_comeOn_73 (lv_at hl 0 rfl) ?_
    refine lv_bipush (v := 7) hx hb dX8_comeOn_75 (by decide) ?_
    refine lv_iconst (v := 0) hx hb dX8_comeOn_77 (by decide) ?_
    refine wr_v (fun u => mW cy b u) (va_runS (As := [.ref b, .int (nI n), .int 7, .int 0]) (rest := []) hF (c_X8_lay l D cy b n hn ((nI n, fl, se, pr, re, go, ch), (sg, (upd bu n bb), (upd wa n a), (upd ho n z), (upd we n v), (upd st n 0), (upd gr n 0), (upd po n 0), ri)) rfl H.size n 7 (by omega) (by decide) 0) (va_cwS 4 hts gX8_comeOn_X8_lay rfl rfl rfl (by decide +kernel) ⟨Nat.le_of_ble_eq_true rfl, Nat.le_of_ble_eq_true rfl⟩) (wr_preS hK hP hD (zz_all _)) rfl rfl hl.1 rfl (lv_room (Nat.le_of_ble_eq_true rfl)) dX8_comeOn_78 ⟨Nat.le_of_ble_eq_true rfl, Nat.le_of_ble_eq_true rfl⟩) hP hD hS hA (zz_all _) (fun _ => zz_all _) (fun u_16 H locs e_17 hP hD hS => ?_)
    obtain rfl : u_16 = ((nI n, fl, se, pr, re, go, ch), (sg, (upd bu n bb), (upd wa n a), (upd ho n z), (upd we n v), (upd st n 0), (upd gr n 0), (upd po n 0), (upd ri n 0))) := e_17
    have hP : va_P D vwCl (mW cy b ((nI n, fl, se, pr, re, go, ch), (sg, (upd bu n bb), (upd wa n a), (upd ho n z), (upd we n v), (upd st n 0), (upd gr n 0), (upd po n 0), (upd ri n 0)))) H := hP
    have hD : va_D A (mW cy b ((nI n, fl, se, pr, re, go, ch), (sg, (upd bu n bb), (upd wa n a), (upd ho n z), (upd we n v), (upd st n 0), (upd gr n 0), (upd po n 0), (upd ri n 0)))) := hD
    refine lv_aload_n hx hb dX8_comeOn_81 rfl (lv_at hl 1 rfl) ?_
    refine lv_iconst (v := 0) hx hb dX8_comeOn_82 (by decide) ?_
    refine lv_dup2_11 hx hb dX8_comeOn_83 rfl rfl ?_
    refine zz_iald hx hb hK hP 0 0 0 rfl rfl rfl ⟨by decide, Nat.le_of_ble_eq_true rfl⟩ dX8_comeOn_84 ?_
    refine zz_top (y := nI n) rfl ?_
    refine lv_iconst (v := 1) hx hb dX8_comeOn_85 (by decide) ?_
    refine lv_iadd hx hb dX8_comeOn_86 ?_
    refine zz_iast hx hb hK hP hD hS 0 0 0 rfl rfl rfl ⟨by decide, Nat.le_of_ble_eq_true rfl⟩ dX8_comeOn_87 (fun H locs hP hD hS => ?_)
    rw [mOf_setN (y := ((nI n, fl, se, pr, re, go, ch), (sg, (upd bu n bb), (upd wa n a), (upd ho n z), (upd we n v), (upd st n 0), (upd gr n 0), (upd po n 0), (upd ri n 0)))) (k := 0) (v := ((nI n) + 1)) (by decide)] at hP hD
    have hP : va_P D vwCl (mW cy b (((nI n) + 1, fl, se, pr, re, go, ch), (sg, (upd bu n bb), (upd wa n a), (upd ho n z), (upd we n v), (upd st n 0), (upd gr n 0), (upd po n 0), (upd ri n 0)))) H := hP
    have hD : va_D A (mW cy b (((nI n) + 1, fl, se, pr, re, go, ch), (sg, (upd bu n bb), (upd wa n a), (upd ho n z), (upd we n v), (upd st n 0), (upd gr n 0), (upd po n 0), (upd ri n 0)))) := hD
    refine lv_iload hx hb dX8_comeOn_88 (lv_at hl 0 rfl) ?_
    exact hret _ _ H locs _ (((nI n) + 1, fl, se, pr, re, go, ch), (sg, (upd bu n bb), (upd wa n a), (upd ho n z), (upd we n v), (upd st n 0), (upd gr n 0), (upd po n 0), (upd ri n 0))) dX8_comeOn_90 hP hD hS (⟨rfl, by simp only [hCome, if_neg c_7]⟩)
  · have c_7 : a = z := c_7
    refine lv_iconst (v := 2) hx hb dX8_comeOn_39 (by decide) ?_
    refine lv_goto (tgt := 44) hx hb dX8_comeOn_40 (by decide) ?_
    refine wr_v (fun u => mW cy b u) (va_runS (As := [.ref b, .int (nI n), .int 3, .int 2]) (rest := []) hF (c_X8_lay l D cy b n hn ((nI n, fl, se, pr, re, go, ch), (sg, (upd bu n bb), wa, (upd ho n z), (upd we n v), st, gr, po, ri)) rfl H.size n 3 (by omega) (by decide) 2) (va_cwS 4 hts gX8_comeOn_X8_lay rfl rfl rfl (by decide +kernel) ⟨Nat.le_of_ble_eq_true rfl, Nat.le_of_ble_eq_true rfl⟩) (wr_preS hK hP hD (zz_all _)) rfl rfl hl.1 rfl (lv_room (Nat.le_of_ble_eq_true rfl)) dX8_comeOn_44 ⟨Nat.le_of_ble_eq_true rfl, Nat.le_of_ble_eq_true rfl⟩) hP hD hS hA (zz_all _) (fun _ => zz_all _) (fun u_18 H locs e_19 hP hD hS => ?_)
    obtain rfl : u_18 = ((nI n, fl, se, pr, re, go, ch), (sg, (upd bu n bb), wa, (upd ho n z), (upd we n v), (upd st n 2), gr, po, ri)) := e_19
    have hP : va_P D vwCl (mW cy b ((nI n, fl, se, pr, re, go, ch), (sg, (upd bu n bb), wa, (upd ho n z), (upd we n v), (upd st n 2), gr, po, ri))) H := hP
    have hD : va_D A (mW cy b ((nI n, fl, se, pr, re, go, ch), (sg, (upd bu n bb), wa, (upd ho n z), (upd we n v), (upd st n 2), gr, po, ri))) := hD
    refine lv_aload_n hx hb dX8_comeOn_47 rfl (lv_at hl 1 rfl) ?_
    refine lv_iload hx hb dX8_comeOn_48 (lv_at hl 0 rfl) ?_
    refine lv_iconst (v := 4) hx hb dX8_comeOn_50 (by decide) ?_
    refine lv_iload_n hx hb dX8_comeOn_51 rfl (lv_at hl 3 rfl) ?_
    refine wr_v (fun u => mW cy b u) (va_runS (As := [.ref b, .int (nI n), .int 4, .int a]) (rest := []) hF (c_X8_lay l D cy b n hn ((nI n, fl, se, pr, re, go, ch), (sg, (upd bu n bb), wa, (upd ho n z), (upd we n v), (upd st n 2), gr, po, ri)) rfl H.size n 4 (by omega) (by decide) a) (va_cwS 4 hts gX8_comeOn_X8_lay rfl rfl rfl (by decide +kernel) ⟨Nat.le_of_ble_eq_true rfl, Nat.le_of_ble_eq_true rfl⟩) (wr_preS hK hP hD (zz_all _)) rfl rfl hl.1 rfl (lv_room (Nat.le_of_ble_eq_true rfl)) dX8_comeOn_52 ⟨Nat.le_of_ble_eq_true rfl, Nat.le_of_ble_eq_true rfl⟩) hP hD hS hA (zz_all _) (fun _ => zz_all _) (fun u_20 H locs e_21 hP hD hS => ?_)
    obtain rfl : u_20 = ((nI n, fl, se, pr, re, go, ch), (sg, (upd bu n bb), (upd wa n a), (upd ho n z), (upd we n v), (upd st n 2), gr, po, ri)) := e_21
    have hP : va_P D vwCl (mW cy b ((nI n, fl, se, pr, re, go, ch), (sg, (upd bu n bb), (upd wa n a), (upd ho n z), (upd we n v), (upd st n 2), gr, po, ri))) H := hP
    have hD : va_D A (mW cy b ((nI n, fl, se, pr, re, go, ch), (sg, (upd bu n bb), (upd wa n a), (upd ho n z), (upd we n v), (upd st n 2), gr, po, ri))) := hD
    refine lv_aload_n hx hb dX8_comeOn_55 rfl (lv_at hl 1 rfl) ?_
    refine lv_iload hx hb dX8_comeOn_56 (lv_at hl 0 rfl) ?_
    refine lv_iconst (v := 5) hx hb dX8_comeOn_58 (by decide) ?_
    refine lv_iconst (v := 0) hx hb dX8_comeOn_59 (by decide) ?_
    refine wr_v (fun u => mW cy b u) (va_runS (As := [.ref b, .int (nI n), .int 5, .int 0]) (rest := []) hF (c_X8_lay l D cy b n hn ((nI n, fl, se, pr, re, go, ch), (sg, (upd bu n bb), (upd wa n a), (upd ho n z), (upd we n v), (upd st n 2), gr, po, ri)) rfl H.size n 5 (by omega) (by decide) 0) (va_cwS 4 hts gX8_comeOn_X8_lay rfl rfl rfl (by decide +kernel) ⟨Nat.le_of_ble_eq_true rfl, Nat.le_of_ble_eq_true rfl⟩) (wr_preS hK hP hD (zz_all _)) rfl rfl hl.1 rfl (lv_room (Nat.le_of_ble_eq_true rfl)) dX8_comeOn_60 ⟨Nat.le_of_ble_eq_true rfl, Nat.le_of_ble_eq_true rfl⟩) hP hD hS hA (zz_all _) (fun _ => zz_all _) (fun u_22 H locs e_23 hP hD hS => ?_)
    obtain rfl : u_22 = ((nI n, fl, se, pr, re, go, ch), (sg, (upd bu n bb), (upd wa n a), (upd ho n z), (upd we n v), (upd st n 2), (upd gr n 0), po, ri)) := e_23
    have hP : va_P D vwCl (mW cy b ((nI n, fl, se, pr, re, go, ch), (sg, (upd bu n bb), (upd wa n a), (upd ho n z), (upd we n v), (upd st n 2), (upd gr n 0), po, ri))) H := hP
    have hD : va_D A (mW cy b ((nI n, fl, se, pr, re, go, ch), (sg, (upd bu n bb), (upd wa n a), (upd ho n z), (upd we n v), (upd st n 2), (upd gr n 0), po, ri))) := hD
    refine lv_aload_n hx hb dX8_comeOn_63 rfl (lv_at hl 1 rfl) ?_
    refine lv_iload hx hb dX8_comeOn_64 (lv_at hl 0 rfl) ?_
    refine lv_bipush (v := 6) hx hb dX8_comeOn_66 (by decide) ?_
    refine lv_iconst (v := 0) hx hb dX8_comeOn_68 (by decide) ?_
    refine wr_v (fun u => mW cy b u) (va_runS (As := [.ref b, .int (nI n), .int 6, .int 0]) (rest := []) hF (c_X8_lay l D cy b n hn ((nI n, fl, se, pr, re, go, ch), (sg, (upd bu n bb), (upd wa n a), (upd ho n z), (upd we n v), (upd st n 2), (upd gr n 0), po, ri)) rfl H.size n 6 (by omega) (by decide) 0) (va_cwS 4 hts gX8_comeOn_X8_lay rfl rfl rfl (by decide +kernel) ⟨Nat.le_of_ble_eq_true rfl, Nat.le_of_ble_eq_true rfl⟩) (wr_preS hK hP hD (zz_all _)) rfl rfl hl.1 rfl (lv_room (Nat.le_of_ble_eq_true rfl)) dX8_comeOn_69 ⟨Nat.le_of_ble_eq_true rfl, Nat.le_of_ble_eq_true rfl⟩) hP hD hS hA (zz_all _) (fun _ => zz_all _) (fun u_24 H locs e_25 hP hD hS => ?_)
    obtain rfl : u_24 = ((nI n, fl, se, pr, re, go, ch), (sg, (upd bu n bb), (upd wa n a), (upd ho n z), (upd we n v), (upd st n 2), (upd gr n 0), (upd po n 0), ri)) := e_25
    have hP : va_P D vwCl (mW cy b ((nI n, fl, se, pr, re, go, ch), (sg, (upd bu n bb), (upd wa n a), (upd ho n z), (upd we n v), (upd st n 2), (upd gr n 0), (upd po n 0), ri))) H := hP
    have hD : va_D A (mW cy b ((nI n, fl, se, pr, re, go, ch), (sg, (upd bu n bb), (upd wa n a), (upd ho n z), (upd we n v), (upd st n 2), (upd gr n 0), (upd po n 0), ri))) := hD
    refine lv_aload_n hx hb dX8_comeOn_72 rfl (lv_at hl 1 rfl) ?_
    refine lv_iload hx hb dX8_comeOn_73 (lv_at hl 0 rfl) ?_
    refine lv_bipush (v := 7) hx hb dX8_comeOn_75 (by decide) ?_
    refine lv_iconst (v := 0) hx hb dX8_comeOn_77 (by decide) ?_
    refine wr_v (fun u => mW cy b u) (va_runS (As := [.ref b, .int (nI n), .int 7, .int 0]) (rest := []) hF (c_X8_lay l D cy b n hn ((nI n, fl, se, pr, re, go, ch), (sg, (upd bu n bb), (upd wa n a), (upd ho n z), (upd we n v), (upd st n 2), (upd gr n 0), (upd po n 0), ri)) rfl H.size n 7 (by omega) (by decide) 0) (va_cwS 4 hts gX8_comeOn_X8_lay rfl rfl rfl (by decide +kernel) ⟨Nat.le_of_ble_eq_true rfl, Nat.le_of_ble_eq_true rfl⟩) (wr_preS hK hP hD (zz_all _)) rfl rfl hl.1 rfl (lv_room (Nat.le_of_ble_eq_true rfl)) dX8_comeOn_78 ⟨Nat.le_of_ble_eq_true rfl, Nat.le_of_ble_eq_true rfl⟩) hP hD hS hA (zz_all _) (fun _ => zz_all _) (fun u_26 H locs e_27 hP hD hS => ?_)
    obtain rfl : u_26 = ((nI n, fl, se, pr, re, go, ch), (sg, (upd bu n bb), (upd wa n a), (upd ho n z), (upd we n v), (upd st n 2), (upd gr n 0), (upd po n 0), (upd ri n 0))) := e_27
    have hP : va_P D vwCl (mW cy b ((nI n, fl, se, pr, re, go, ch), (sg, (upd bu n bb), (upd wa n a), (upd ho n z), (upd we n v), (upd st n 2), (upd gr n 0), (upd po n 0), (upd ri n 0)))) H := hP
    have hD : va_D A (mW cy b ((nI n, fl, se, pr, re, go, ch), (sg, (upd bu n bb), (upd wa n a), (upd ho n z), (upd we n v), (upd st n 2), (upd gr n 0), (upd po n 0), (upd ri n 0)))) := hD
    refine lv_aload_n hx hb dX8_comeOn_81 rfl (lv_at hl 1 rfl) ?_
    refine lv_iconst (v := 0) hx hb dX8_comeOn_82 (by decide) ?_
    refine lv_dup2_11 hx hb dX8_comeOn_83 rfl rfl ?_
    refine zz_iald hx hb hK hP 0 0 0 rfl rfl rfl ⟨by decide, Nat.le_of_ble_eq_true rfl⟩ dX8_comeOn_84 ?_
    refine zz_top (y := nI n) rfl ?_
    refine lv_iconst (v := 1) hx hb dX8_comeOn_85 (by decide) ?_
    refine lv_iadd hx hb dX8_comeOn_86 ?_
    refine zz_iast hx hb hK hP hD hS 0 0 0 rfl rfl rfl ⟨by decide, Nat.le_of_ble_eq_true rfl⟩ dX8_comeOn_87 (fun H locs hP hD hS => ?_)
    rw [mOf_setN (y := ((nI n, fl, se, pr, re, go, ch), (sg, (upd bu n bb), (upd wa n a), (upd ho n z), (upd we n v), (upd st n 2), (upd gr n 0), (upd po n 0), (upd ri n 0)))) (k := 0) (v := ((nI n) + 1)) (by decide)] at hP hD
    have hP : va_P D vwCl (mW cy b (((nI n) + 1, fl, se, pr, re, go, ch), (sg, (upd bu n bb), (upd wa n a), (upd ho n z), (upd we n v), (upd st n 2), (upd gr n 0), (upd po n 0), (upd ri n 0)))) H := hP
    have hD : va_D A (mW cy b (((nI n) + 1, fl, se, pr, re, go, ch), (sg, (upd bu n bb), (upd wa n a), (upd ho n z), (upd we n v), (upd st n 2), (upd gr n 0), (upd po n 0), (upd ri n 0)))) := hD
    refine lv_iload hx hb dX8_comeOn_88 (lv_at hl 0 rfl) ?_
    exact hret _ _ H locs _ (((nI n) + 1, fl, se, pr, re, go, ch), (sg, (upd bu n bb), (upd wa n a), (upd ho n z), (upd we n v), (upd st n 2), (upd gr n 0), (upd po n 0), (upd ri n 0))) dX8_comeOn_90 hP hD hS (⟨rfl, by simp only [hCome, if_pos c_7]⟩)
abbrev rm_X8_goes : Room := { frames := 3, cells := 0, slots := 0, locals := 67 }
set_option maxHeartbeats 4000000 in
set_option maxRecDepth 100000 in
theorem c_X8_goes (l : Launch) (D : va_G) (cy : Nat → ClassId) (b : Nat) (n : Nat) (hn : n ≤ 4) (x : HS) (hg : x.1.1 = nI n) (sz : Nat) (j : Nat) (hj : j < n) (hbu : okF (x.2.2.1 j)) (hfl : okF x.1.2.1) : Met l yX8_goes wsX8_goes rm_X8_goes (wrP D cy [.ref b, .int (nI j)] (mW cy b x) sz) (va_Qv (fun u : HS => u = mGo n j x) (wrB D (va_A (mW cy b x) sz) (fun u => mW cy b u)) (va_A (mW cy b x) sz)) 0 0 (va_A (mW cy b x) sz) := by
  obtain ⟨⟨gu, fl, se, pr, re, go, ch⟩, ⟨sg, bu, wa, ho, we, st, gr, po, ri⟩⟩ := x
  obtain rfl : gu = nI n := hg
  obtain ⟨t, ht7, et⟩ := okF_nat hbu
  obtain ⟨f, hf7, ef⟩ := okF_nat hfl
  obtain ⟨d, hd9⟩ : ∃ d, d = distF (bu j) fl := ⟨_, rfl⟩
  have et : bu j = nI t := et
  have ef : fl = nI f := ef
  have hdd : d = if t ≤ f then f - t else t - f := by rw [hd9, et, ef]; exact distF_nat hf7 ht7
  refine Mwv (cc := cX8_goes) (maxL := 6) (by decide) rfl (Nat.le_of_ble_eq_true rfl) ?_
  intro p e s m args below meth c Q ls A hsz hinit hF hK hP hD hA hl hret
  obtain ⟨hx, hb, hml, hown, hts⟩ := id hF
  have hown : s.vm.findClass RX8 = some m.cls := hown
  have hl : lv_has ls 6 [(0, .ref b), (1, .int (nI j))] := hl
  suffices key : ∀ (H : Heap) (locs : List Loc), va_P D vwCl (mW cy b ((nI n, fl, se, pr, re, go, ch), (sg, bu, wa, ho, we, st, gr, po, ri))) H → va_D A (mW cy b ((nI n, fl, se, pr, re, go, ch), (sg, bu, wa, ho, we, st, gr, po, ri))) → va_S A s.heap H locs → W p l e rm_X8_goes s m args below meth c H locs 0 0 Q (F0 m 0 ls []) from key s.heap [] hP hD va_S.rf
  intro H locs hP hD hS
  refine lv_aload_n hx hb dX8_goes_0 rfl (lv_at hl 0 rfl) ?_
  refine lv_iload_n hx hb dX8_goes_1 rfl (lv_at hl 1 rfl) ?_
  refine lv_iconst (v := 0) hx hb dX8_goes_2 (by decide) ?_
  refine rd_S (As := [.ref b, .int (nI j), .int 0]) (rest := []) hF (c_X8_of l D cy b n hn ((nI n, fl, se, pr, re, go, ch), (sg, bu, wa, ho, we, st, gr, po, ri)) rfl j 0 (by omega) (by decide)) (va_cwS 3 hts gX8_goes_X8_of rfl rfl rfl (by decide +kernel) ⟨Nat.le_of_ble_eq_true rfl, Nat.le_of_ble_eq_true rfl⟩) hK hP rfl hl.1 rfl (Nat.le_of_ble_eq_true rfl) dX8_goes_3 ⟨Nat.le_of_ble_eq_true rfl, Nat.le_of_ble_eq_true rfl⟩ ?_
  refine zz_top (y := bu j) rfl ?_
  refine lv_istore_n (lv' := [(2, .int (bu j)), (0, .ref b), (1, .int (nI j))]) hx hb dX8_goes_6 rfl hl (by decide) rfl (fun ls hl => ?_)
  have join1 : ∀ (H : Heap) (locs : List Loc) (ls : Array Slot), va_P D vwCl (mW cy b ((nI n, fl, se, pr, re, go, ch), (sg, bu, wa, ho, we, st, gr, po, ri))) H → va_D A (mW cy b ((nI n, fl, se, pr, re, go, ch), (sg, bu, wa, ho, we, st, gr, po, ri))) → va_S A s.heap H locs → lv_has ls 6 [(2, .int (bu j)), (0, .ref b), (1, .int (nI j))] → W p l e rm_X8_goes s m args below meth c H locs 0 0 Q (F0 m 19 ls [.int (vBy (bu j) fl)]) := by
    intro H locs ls hP hD hS hl
    refine lv_istore_n (lv' := [(3, .int (vBy (bu j) fl)), (2, .int (bu j)), (0, .ref b), (1, .int (nI j))]) hx hb dX8_goes_19 rfl hl (by decide) rfl (fun ls hl => ?_)
    refine lv_iconst (v := 0) hx hb dX8_goes_20 (by decide) ?_
    refine lv_istore (lv' := [(4, .int 0), (3, .int (vBy (bu j) fl)), (2, .int (bu j)), (0, .ref b), (1, .int (nI j))]) hx hb dX8_goes_21 hl (by decide) rfl (fun ls hl => ?_)
    have loop : ∀ (k i : Nat) (fv : Int32) (gv : Nat → Int32), i ≤ d → d + 1 ≤ i + k → fv = vFl f t i → lpN (sWay n (bu j) (vBy (bu j) fl) st wa ho) (d - i) i (fv, gv) = lpN (sWay n (bu j) (vBy (bu j) fl) st wa ho) d 0 (fl, gr) → ∀ (H : Heap) (locs : List Loc) (ls : Array Slot), va_P D vwCl (mW cy b ((nI n, fv, se, pr, re, go, ch), (sg, bu, wa, ho, we, st, gv, po, ri))) H → va_D A (mW cy b ((nI n, fv, se, pr, re, go, ch), (sg, bu, wa, ho, we, st, gv, po, ri))) → va_S A s.heap H locs → lv_has ls 6 [(4, .int (nI i)), (3, .int (vBy (bu j) fl)), (2, .int (bu j)), (0, .ref b), (1, .int (nI j))] → W p l e rm_X8_goes s m args below meth c H locs 0 0 Q (F0 m 23 ls []) := by
      intro k
      induction k with
      | zero =>
        intro i fv gv hi hk hfv hv
        exact absurd hk (by omega)
      | succ k ih =>
        intro i fv gv hi hk hfv hv H locs ls hP hD hS hl
        refine lv_aload_n hx hb dX8_goes_23 rfl (lv_at hl 3 rfl) ?_
        refine lv_iconst (v := 1) hx hb dX8_goes_24 (by decide) ?_
        refine zz_iald hx hb hK hP 0 0 1 rfl rfl rfl ⟨by decide, Nat.le_of_ble_eq_true rfl⟩ dX8_goes_25 ?_
        refine zz_top (y := fv) rfl ?_
        refine lv_iload_n hx hb dX8_goes_26 rfl (lv_at hl 2 rfl) ?_
        refine lv_icmp_eq (tgt := 57) hx hb dX8_goes_27 (by decide) (fun c_1 => ?_) (fun c_1 => ?_)
        · have c_1 : fv = (bu j) := c_1
          have hid : d = i := (vFl_end hf7 ht7 hdd hi).mp (by rw [← hfv, ← et]; exact c_1)
          subst hid
          have q1 := lpN_end (Nat.le_refl _) hv
          refine lv_aload_n hx hb dX8_goes_57 rfl (lv_at hl 3 rfl) ?_
          refine lv_iconst (v := 5) hx hb dX8_goes_58 (by decide) ?_
          refine lv_dup2_11 hx hb dX8_goes_59 rfl rfl ?_
          refine zz_iald hx hb hK hP 0 0 5 rfl rfl rfl ⟨by decide, Nat.le_of_ble_eq_true rfl⟩ dX8_goes_60 ?_
          refine zz_top (y := go) rfl ?_
          refine lv_iload hx hb dX8_goes_61 (lv_at hl 0 rfl) ?_
          refine lv_iadd hx hb dX8_goes_63 ?_
          refine zz_iast hx hb hK hP hD hS 0 0 5 rfl rfl rfl ⟨by decide, Nat.le_of_ble_eq_true rfl⟩ dX8_goes_64 (fun H locs hP hD hS => ?_)
          rw [mOf_setN (y := ((nI n, fv, se, pr, re, go, ch), (sg, bu, wa, ho, we, st, gv, po, ri))) (k := 5) (v := (go + (nI d))) (by decide)] at hP hD
          have hP : va_P D vwCl (mW cy b ((nI n, fv, se, pr, re, go + (nI d), ch), (sg, bu, wa, ho, we, st, gv, po, ri))) H := hP
          have hD : va_D A (mW cy b ((nI n, fv, se, pr, re, go + (nI d), ch), (sg, bu, wa, ho, we, st, gv, po, ri))) := hD
          refine lv_aload_n hx hb dX8_goes_65 rfl (lv_at hl 3 rfl) ?_
          refine lv_iconst (v := 2) hx hb dX8_goes_66 (by decide) ?_
          refine lv_dup2_11 hx hb dX8_goes_67 rfl rfl ?_
          refine zz_iald hx hb hK hP 0 0 2 rfl rfl rfl ⟨by decide, Nat.le_of_ble_eq_true rfl⟩ dX8_goes_68 ?_
          refine zz_top (y := se) rfl ?_
          refine lv_iload hx hb dX8_goes_69 (lv_at hl 0 rfl) ?_
          refine lv_aload_n hx hb dX8_goes_71 rfl (lv_at hl 3 rfl) ?_
          refine lv_bipush (v := 9) hx hb dX8_goes_72 (by decide) ?_
          refine zz_iald hx hb hK hP 0 0 9 rfl rfl rfl ⟨by decide, Nat.le_of_ble_eq_true rfl⟩ dX8_goes_74 ?_
          refine zz_top (y := sg 2) rfl ?_
          refine lv_imul hx hb dX8_goes_75 ?_
          refine lv_iconst (v := 5) hx hb dX8_goes_76 (by decide) ?_
          refine lv_iadd hx hb dX8_goes_77 ?_
          refine lv_iadd hx hb dX8_goes_78 ?_
          refine zz_iast hx hb hK hP hD hS 0 0 2 rfl rfl rfl ⟨by decide, Nat.le_of_ble_eq_true rfl⟩ dX8_goes_79 (fun H locs hP hD hS => ?_)
          rw [mOf_setN (y := ((nI n, fv, se, pr, re, go + (nI d), ch), (sg, bu, wa, ho, we, st, gv, po, ri))) (k := 2) (v := (se + (((nI d) * (sg 2)) + 5))) (by decide)] at hP hD
          have hP : va_P D vwCl (mW cy b ((nI n, fv, se + (((nI d) * (sg 2)) + 5), pr, re, go + (nI d), ch), (sg, bu, wa, ho, we, st, gv, po, ri))) H := hP
          have hD : va_D A (mW cy b ((nI n, fv, se + (((nI d) * (sg 2)) + 5), pr, re, go + (nI d), ch), (sg, bu, wa, ho, we, st, gv, po, ri))) := hD
          refine lv_aload_n hx hb dX8_goes_80 rfl (lv_at hl 3 rfl) ?_
          refine lv_iconst (v := 3) hx hb dX8_goes_81 (by decide) ?_
          refine lv_dup2_11 hx hb dX8_goes_82 rfl rfl ?_
          refine zz_iald hx hb hK hP 0 0 3 rfl rfl rfl ⟨by decide, Nat.le_of_ble_eq_true rfl⟩ dX8_goes_83 ?_
          refine zz_top (y := pr) rfl ?_
          refine lv_iconst (v := 1) hx hb dX8_goes_84 (by decide) ?_
          refine lv_iadd hx hb dX8_goes_85 ?_
          refine zz_iast hx hb hK hP hD hS 0 0 3 rfl rfl rfl ⟨by decide, Nat.le_of_ble_eq_true rfl⟩ dX8_goes_86 (fun H locs hP hD hS => ?_)
          rw [mOf_setN (y := ((nI n, fv, se + (((nI d) * (sg 2)) + 5), pr, re, go + (nI d), ch), (sg, bu, wa, ho, we, st, gv, po, ri))) (k := 3) (v := (pr + 1)) (by decide)] at hP hD
          have hP : va_P D vwCl (mW cy b ((nI n, fv, se + (((nI d) * (sg 2)) + 5), pr + 1, re, go + (nI d), ch), (sg, bu, wa, ho, we, st, gv, po, ri))) H := hP
          have hD : va_D A (mW cy b ((nI n, fv, se + (((nI d) * (sg 2)) + 5), pr + 1, re, go + (nI d), ch), (sg, bu, wa, ho, we, st, gv, po, ri))) := hD
          refine lv_aload_n hx hb dX8_goes_87 rfl (lv_at hl 3 rfl) ?_
          refine lv_iload_n hx hb dX8_goes_88 rfl (lv_at hl 4 rfl) ?_
          refine lv_bipush (v := 6) hx hb dX8_goes_89 (by decide) ?_
          refine lv_aload_n hx hb dX8_goes_91 rfl (lv_at hl 3 rfl) ?_
          refine lv_iload_n hx hb dX8_goes_92 rfl (lv_at hl 4 rfl) ?_
          refine lv_bipush (v := 6) hx hb dX8_goes_93 (by decide) ?_
          refine rd_S (As := [.ref b, .int (nI j), .int 6]) (rest := [.int 6, .int (nI j), .ref b]) hF (c_X8_of l D cy b n hn ((nI n, fv, se + (((nI d) * (sg 2)) + 5), pr + 1, re, go + (nI d), ch), (sg, bu, wa, ho, we, st, gv, po, ri)) rfl j 6 (by omega) (by decide)) (va_cwS 3 hts gX8_goes_X8_of rfl rfl rfl (by decide +kernel) ⟨Nat.le_of_ble_eq_true rfl, Nat.le_of_ble_eq_true rfl⟩) hK hP rfl hl.1 rfl (Nat.le_of_ble_eq_true rfl) dX8_goes_95 ⟨Nat.le_of_ble_eq_true rfl, Nat.le_of_ble_eq_true rfl⟩ ?_
          refine zz_top (y := po j) rfl ?_
          refine lv_iconst (v := 1) hx hb dX8_goes_98 (by decide) ?_
          refine lv_iadd hx hb dX8_goes_99 ?_
          refine wr_v (fun u => mW cy b u) (va_runS (As := [.ref b, .int (nI j), .int 6, .int ((po j) + 1)]) (rest := []) hF (c_X8_lay l D cy b n hn ((nI n, fv, se + (((nI d) * (sg 2)) + 5), pr + 1, re, go + (nI d), ch), (sg, bu, wa, ho, we, st, gv, po, ri)) rfl H.size j 6 (by omega) (by decide) ((po j) + 1)) (va_cwS 4 hts gX8_goes_X8_lay rfl rfl rfl (by decide +kernel) ⟨Nat.le_of_ble_eq_true rfl, Nat.le_of_ble_eq_true rfl⟩) (wr_preS hK hP hD (zz_all _)) rfl rfl hl.1 rfl (lv_room (Nat.le_of_ble_eq_true rfl)) dX8_goes_100 ⟨Nat.le_of_ble_eq_true rfl, Nat.le_of_ble_eq_true rfl⟩) hP hD hS hA (zz_all _) (fun _ => zz_all _) (fun u_2 H locs e_3 hP hD hS => ?_)
          obtain rfl : u_2 = ((nI n, fv, se + (((nI d) * (sg 2)) + 5), pr + 1, re, go + (nI d), ch), (sg, bu, wa, ho, we, st, gv, (upd po j ((po j) + 1)), ri)) := e_3
          have hP : va_P D vwCl (mW cy b ((nI n, fv, se + (((nI d) * (sg 2)) + 5), pr + 1, re, go + (nI d), ch), (sg, bu, wa, ho, we, st, gv, (upd po j ((po j) + 1)), ri))) H := hP
          have hD : va_D A (mW cy b ((nI n, fv, se + (((nI d) * (sg 2)) + 5), pr + 1, re, go + (nI d), ch), (sg, bu, wa, ho, we, st, gv, (upd po j ((po j) + 1)), ri))) := hD
          refine lv_iconst (v := 0) hx hb dX8_goes_103 (by decide) ?_
          refine lv_istore (lv' := [(5, .int 0), (4, .int (nI d)), (3, .int (vBy (bu j) fl)), (2, .int (bu j)), (0, .ref b), (1, .int (nI j))]) hx hb dX8_goes_104 hl (by decide) rfl (fun ls hl => ?_)
          have loop2 : ∀ (k i : Nat) (wv rv : Nat → Int32), i ≤ n → n + 1 ≤ i + k → lpN (sGoM (nI d) (bu j) st) (n - i) i (wv, rv) = lpN (sGoM (nI d) (bu j) st) n 0 (wa, ri) → ∀ (H : Heap) (locs : List Loc) (ls : Array Slot), va_P D vwCl (mW cy b ((nI n, fv, se + (((nI d) * (sg 2)) + 5), pr + 1, re, go + (nI d), ch), (sg, bu, wv, ho, we, st, gv, (upd po j ((po j) + 1)), rv))) H → va_D A (mW cy b ((nI n, fv, se + (((nI d) * (sg 2)) + 5), pr + 1, re, go + (nI d), ch), (sg, bu, wv, ho, we, st, gv, (upd po j ((po j) + 1)), rv))) → va_S A s.heap H locs → lv_has ls 6 [(5, .int (nI i)), (4, .int (nI d)), (3, .int (vBy (bu j) fl)), (2, .int (bu j)), (0, .ref b), (1, .int (nI j))] → W p l e rm_X8_goes s m args below meth c H locs 0 0 Q (F0 m 106 ls []) := by
            intro k
            induction k with
            | zero =>
              intro i wv rv hi hk hv
              exact absurd hk (by omega)
            | succ k ih =>
              intro i wv rv hi hk hv H locs ls hP hD hS hl
              refine lv_iload hx hb dX8_goes_106 (lv_at hl 0 rfl) ?_
              refine lv_aload_n hx hb dX8_goes_108 rfl (lv_at hl 4 rfl) ?_
              refine lv_iconst (v := 0) hx hb dX8_goes_109 (by decide) ?_
              refine zz_iald hx hb hK hP 0 0 0 rfl rfl rfl ⟨by decide, Nat.le_of_ble_eq_true rfl⟩ dX8_goes_110 ?_
              refine zz_top (y := nI n) rfl ?_
              refine lv_icmp_ge (tgt := 158) hx hb dX8_goes_111 (by decide) (fun c_4 => ?_) (fun c_4 => ?_)
              · have c_4 : n ≤ i := (nI_leI (a := n) (b := i) (by omega) (by omega)).mp c_4
                refine lv_aload_n hx hb dX8_goes_158 rfl (lv_at hl 4 rfl) ?_
                refine wr_v (fun u => mW cy b u) (va_runS (As := [.ref b]) (rest := []) hF (c_X8_stops l D cy b n hn ((nI n, fv, se + (((nI d) * (sg 2)) + 5), pr + 1, re, go + (nI d), ch), (sg, bu, wv, ho, we, st, gv, (upd po j ((po j) + 1)), rv)) rfl H.size ) (va_cwS 1 hts gX8_goes_X8_stops rfl rfl rfl (by decide +kernel) ⟨Nat.le_of_ble_eq_true rfl, Nat.le_of_ble_eq_true rfl⟩) (wr_preS hK hP hD (zz_all _)) rfl rfl hl.1 rfl (lv_room (Nat.le_of_ble_eq_true rfl)) dX8_goes_159 ⟨Nat.le_of_ble_eq_true rfl, Nat.le_of_ble_eq_true rfl⟩) hP hD hS hA (zz_all _) (fun _ => zz_all _) (fun u_5 H locs e_6 hP hD hS => ?_)
                have hg_7 : u_5.1.1 = nI n := by rw [e_6]; exact rfl
                have hP : va_P D vwCl (mW cy b u_5) H := hP
                have hD : va_D A (mW cy b u_5) := hD
                exact hret _ _ H locs u_5 dX8_goes_162 hP hD hS (by have q2 := lpN_end c_4 hv; subst e_6; simp only [mGo, mGoD, mWay, mGo2, ← hd9, ← q1, ← q2])
              · have c_4 : ¬ n ≤ i := fun q => c_4 ((nI_leI (a := n) (b := i) (by omega) (by omega)).mpr q)
                refine lv_aload_n hx hb dX8_goes_114 rfl (lv_at hl 4 rfl) ?_
                refine lv_iload hx hb dX8_goes_115 (lv_at hl 0 rfl) ?_
                refine lv_iconst (v := 3) hx hb dX8_goes_117 (by decide) ?_
                refine rd_S (As := [.ref b, .int (nI i), .int 3]) (rest := []) hF (c_X8_of l D cy b n hn ((nI n, fv, se + (((nI d) * (sg 2)) + 5), pr + 1, re, go + (nI d), ch), (sg, bu, wv, ho, we, st, gv, (upd po j ((po j) + 1)), rv)) rfl i 3 (by omega) (by decide)) (va_cwS 3 hts gX8_goes_X8_of rfl rfl rfl (by decide +kernel) ⟨Nat.le_of_ble_eq_true rfl, Nat.le_of_ble_eq_true rfl⟩) hK hP rfl hl.1 rfl (Nat.le_of_ble_eq_true rfl) dX8_goes_118 ⟨Nat.le_of_ble_eq_true rfl, Nat.le_of_ble_eq_true rfl⟩ ?_
                refine zz_top (y := st i) rfl ?_
                refine lv_iconst (v := 1) hx hb dX8_goes_121 (by decide) ?_
                refine lv_icmp_ne (tgt := 152) hx hb dX8_goes_122 (by decide) (fun c_8 => ?_) (fun c_8 => ?_)
                · have c_8 : ¬ (st i) = 1 := c_8
                  refine lv_iinc (v := nI (i + 1)) (lv' := [(5, .int (nI (i + 1))), (4, .int (nI d)), (3, .int (vBy (bu j) fl)), (2, .int (bu j)), (0, .ref b), (1, .int (nI j))]) hx hb dX8_goes_152 hl (k := 0) rfl (nI_add (i) 1) (by decide) rfl (fun ls hl => ?_)
                  refine lv_goto (tgt := 106) hx hb dX8_goes_155 (by decide) ?_
                  exact ih (i + 1) _ _ (by omega) (by omega) (lpN_next (by omega) hv (by simp only [sGoM, if_neg c_4, if_neg c_8])) _ _ _ hP hD hS (lv_sub hl [0, 1, 2, 3, 4, 5] rfl)
                · have c_8 : (st i) = 1 := c_8
                  refine lv_aload_n hx hb dX8_goes_125 rfl (lv_at hl 4 rfl) ?_
                  refine lv_iload hx hb dX8_goes_126 (lv_at hl 0 rfl) ?_
                  refine lv_bipush (v := 7) hx hb dX8_goes_128 (by decide) ?_
                  refine lv_aload_n hx hb dX8_goes_130 rfl (lv_at hl 4 rfl) ?_
                  refine lv_iload hx hb dX8_goes_131 (lv_at hl 0 rfl) ?_
                  refine lv_bipush (v := 7) hx hb dX8_goes_133 (by decide) ?_
                  refine rd_S (As := [.ref b, .int (nI i), .int 7]) (rest := [.int 7, .int (nI i), .ref b]) hF (c_X8_of l D cy b n hn ((nI n, fv, se + (((nI d) * (sg 2)) + 5), pr + 1, re, go + (nI d), ch), (sg, bu, wv, ho, we, st, gv, (upd po j ((po j) + 1)), rv)) rfl i 7 (by omega) (by decide)) (va_cwS 3 hts gX8_goes_X8_of rfl rfl rfl (by decide +kernel) ⟨Nat.le_of_ble_eq_true rfl, Nat.le_of_ble_eq_true rfl⟩) hK hP rfl hl.1 rfl (Nat.le_of_ble_eq_true rfl) dX8_goes_135 ⟨Nat.le_of_ble_eq_true rfl, Nat.le_of_ble_eq_true rfl⟩ ?_
                  refine zz_top (y := rv i) rfl ?_
                  refine lv_iload hx hb dX8_goes_138 (lv_at hl 1 rfl) ?_
                  refine lv_iadd hx hb dX8_goes_140 ?_
                  refine wr_v (fun u => mW cy b u) (va_runS (As := [.ref b, .int (nI i), .int 7, .int ((rv i) + (nI d))]) (rest := []) hF (c_X8_lay l D cy b n hn ((nI n, fv, se + (((nI d) * (sg 2)) + 5), pr + 1, re, go + (nI d), ch), (sg, bu, wv, ho, we, st, gv, (upd po j ((po j) + 1)), rv)) rfl H.size i 7 (by omega) (by decide) ((rv i) + (nI d))) (va_cwS 4 hts gX8_goes_X8_lay rfl rfl rfl (by decide +kernel) ⟨Nat.le_of_ble_eq_true rfl, Nat.le_of_ble_eq_true rfl⟩) (wr_preS hK hP hD (zz_all _)) rfl rfl hl.1 rfl (lv_room (Nat.le_of_ble_eq_true rfl)) dX8_goes_141 ⟨Nat.le_of_ble_eq_true rfl, Nat.le_of_ble_eq_true rfl⟩) hP hD hS hA (zz_all _) (fun _ => zz_all _) (fun u_9 H locs e_10 hP hD hS => ?_)
                  obtain rfl : u_9 = ((nI n, fv, se + (((nI d) * (sg 2)) + 5), pr + 1, re, go + (nI d), ch), (sg, bu, wv, ho, we, st, gv, (upd po j ((po j) + 1)), (upd rv i ((rv i) + (nI d))))) := e_10
                  have hP : va_P D vwCl (mW cy b ((nI n, fv, se + (((nI d) * (sg 2)) + 5), pr + 1, re, go + (nI d), ch), (sg, bu, wv, ho, we, st, gv, (upd po j ((po j) + 1)), (upd rv i ((rv i) + (nI d)))))) H := hP
                  have hD : va_D A (mW cy b ((nI n, fv, se + (((nI d) * (sg 2)) + 5), pr + 1, re, go + (nI d), ch), (sg, bu, wv, ho, we, st, gv, (upd po j ((po j) + 1)), (upd rv i ((rv i) + (nI d)))))) := hD
                  refine lv_aload_n hx hb dX8_goes_144 rfl (lv_at hl 4 rfl) ?_
                  refine lv_iload hx hb dX8_goes_145 (lv_at hl 0 rfl) ?_
                  refine lv_iconst (v := 4) hx hb dX8_goes_147 (by decide) ?_
                  refine lv_iload_n hx hb dX8_goes_148 rfl (lv_at hl 3 rfl) ?_
                  refine wr_v (fun u => mW cy b u) (va_runS (As := [.ref b, .int (nI i), .int 4, .int (bu j)]) (rest := []) hF (c_X8_lay l D cy b n hn ((nI n, fv, se + (((nI d) * (sg 2)) + 5), pr + 1, re, go + (nI d), ch), (sg, bu, wv, ho, we, st, gv, (upd po j ((po j) + 1)), (upd rv i ((rv i) + (nI d))))) rfl H.size i 4 (by omega) (by decide) (bu j)) (va_cwS 4 hts gX8_goes_X8_lay rfl rfl rfl (by decide +kernel) ⟨Nat.le_of_ble_eq_true rfl, Nat.le_of_ble_eq_true rfl⟩) (wr_preS hK hP hD (zz_all _)) rfl rfl hl.1 rfl (lv_room (Nat.le_of_ble_eq_true rfl)) dX8_goes_149 ⟨Nat.le_of_ble_eq_true rfl, Nat.le_of_ble_eq_true rfl⟩) hP hD hS hA (zz_all _) (fun _ => zz_all _) (fun u_11 H locs e_12 hP hD hS => ?_)
                  obtain rfl : u_11 = ((nI n, fv, se + (((nI d) * (sg 2)) + 5), pr + 1, re, go + (nI d), ch), (sg, bu, (upd wv i (bu j)), ho, we, st, gv, (upd po j ((po j) + 1)), (upd rv i ((rv i) + (nI d))))) := e_12
                  have hP : va_P D vwCl (mW cy b ((nI n, fv, se + (((nI d) * (sg 2)) + 5), pr + 1, re, go + (nI d), ch), (sg, bu, (upd wv i (bu j)), ho, we, st, gv, (upd po j ((po j) + 1)), (upd rv i ((rv i) + (nI d)))))) H := hP
                  have hD : va_D A (mW cy b ((nI n, fv, se + (((nI d) * (sg 2)) + 5), pr + 1, re, go + (nI d), ch), (sg, bu, (upd wv i (bu j)), ho, we, st, gv, (upd po j ((po j) + 1)), (upd rv i ((rv i) + (nI d)))))) := hD
                  refine lv_iinc (v := nI (i + 1)) (lv' := [(5, .int (nI (i + 1))), (4, .int (nI d)), (3, .int (vBy (bu j) fl)), (2, .int (bu j)), (0, .ref b), (1, .int (nI j))]) hx hb dX8_goes_152 hl (k := 0) rfl (nI_add (i) 1) (by decide) rfl (fun ls hl => ?_)
                  refine lv_goto (tgt := 106) hx hb dX8_goes_155 (by decide) ?_
                  exact ih (i + 1) _ _ (by omega) (by omega) (lpN_next (by omega) hv (by simp only [sGoM, if_neg c_4, if_pos c_8])) _ _ _ hP hD hS (lv_sub hl [0, 1, 2, 3, 4, 5] rfl)
          exact loop2 (n + 1) 0 _ _ (Nat.zero_le _) (by omega) rfl _ _ _ hP hD hS (lv_sub hl [0, 1, 2, 3, 4, 5] rfl)
        · have c_1 : ¬ fv = (bu j) := c_1
          have hlt : i < d := Nat.lt_of_le_of_ne hi (fun q => c_1 (by rw [hfv, et]; exact (vFl_end hf7 ht7 hdd hi).mpr q.symm))
          refine lv_aload_n hx hb dX8_goes_30 rfl (lv_at hl 3 rfl) ?_
          refine lv_iconst (v := 1) hx hb dX8_goes_31 (by decide) ?_
          refine lv_dup2_11 hx hb dX8_goes_32 rfl rfl ?_
          refine zz_iald hx hb hK hP 0 0 1 rfl rfl rfl ⟨by decide, Nat.le_of_ble_eq_true rfl⟩ dX8_goes_33 ?_
          refine zz_top (y := fv) rfl ?_
          refine lv_iload_n hx hb dX8_goes_34 rfl (lv_at hl 1 rfl) ?_
          refine lv_iadd hx hb dX8_goes_35 ?_
          refine zz_iast hx hb hK hP hD hS 0 0 1 rfl rfl rfl ⟨by decide, Nat.le_of_ble_eq_true rfl⟩ dX8_goes_36 (fun H locs hP hD hS => ?_)
          rw [mOf_setN (y := ((nI n, fv, se, pr, re, go, ch), (sg, bu, wa, ho, we, st, gv, po, ri))) (k := 1) (v := (fv + (vBy (bu j) fl))) (by decide)] at hP hD
          have hP : va_P D vwCl (mW cy b ((nI n, fv + (vBy (bu j) fl), se, pr, re, go, ch), (sg, bu, wa, ho, we, st, gv, po, ri))) H := hP
          have hD : va_D A (mW cy b ((nI n, fv + (vBy (bu j) fl), se, pr, re, go, ch), (sg, bu, wa, ho, we, st, gv, po, ri))) := hD
          refine lv_iinc (v := nI (i + 1)) (lv' := [(4, .int (nI (i + 1))), (3, .int (vBy (bu j) fl)), (2, .int (bu j)), (0, .ref b), (1, .int (nI j))]) hx hb dX8_goes_37 hl (k := 0) rfl (nI_add (i) 1) (by decide) rfl (fun ls hl => ?_)
          refine lv_aload_n hx hb dX8_goes_40 rfl (lv_at hl 3 rfl) ?_
          refine lv_iconst (v := 1) hx hb dX8_goes_41 (by decide) ?_
          refine zz_iald hx hb hK hP 0 0 1 rfl rfl rfl ⟨by decide, Nat.le_of_ble_eq_true rfl⟩ dX8_goes_42 ?_
          refine zz_top (y := fv + (vBy (bu j) fl)) rfl ?_
          refine lv_iload_n hx hb dX8_goes_43 rfl (lv_at hl 2 rfl) ?_
          refine lv_icmp_eq (tgt := 23) hx hb dX8_goes_44 (by decide) (fun c_13 => ?_) (fun c_13 => ?_)
          · have c_13 : (fv + (vBy (bu j) fl)) = (bu j) := c_13
            exact ih (i + 1) _ _ (by omega) (by omega) (by rw [hfv, et, ef]; exact vFl_next hf7 ht7 hdd hlt) (lpN_next hlt hv (by simp only [sWay, if_pos c_13])) _ _ _ hP hD hS (lv_sub hl [0, 1, 2, 3, 4] rfl)
          · have c_13 : ¬ (fv + (vBy (bu j) fl)) = (bu j) := c_13
            refine lv_aload_n hx hb dX8_goes_47 rfl (lv_at hl 3 rfl) ?_
            refine lv_aload_n hx hb dX8_goes_48 rfl (lv_at hl 3 rfl) ?_
            refine lv_iconst (v := 1) hx hb dX8_goes_49 (by decide) ?_
            refine zz_iald hx hb hK hP 0 0 1 rfl rfl rfl ⟨by decide, Nat.le_of_ble_eq_true rfl⟩ dX8_goes_50 ?_
            refine zz_top (y := fv + (vBy (bu j) fl)) rfl ?_
            refine wr_v (fun u => mW cy b u) (va_runS (As := [.ref b, .int (fv + (vBy (bu j) fl))]) (rest := []) hF (c_X8_passes l D cy b n hn ((nI n, fv + (vBy (bu j) fl), se, pr, re, go, ch), (sg, bu, wa, ho, we, st, gv, po, ri)) rfl H.size (fv + (vBy (bu j) fl))) (va_cwS 2 hts gX8_goes_X8_passes rfl rfl rfl (by decide +kernel) ⟨Nat.le_of_ble_eq_true rfl, Nat.le_of_ble_eq_true rfl⟩) (wr_preS hK hP hD (zz_all _)) rfl rfl hl.1 rfl (lv_room (Nat.le_of_ble_eq_true rfl)) dX8_goes_51 ⟨Nat.le_of_ble_eq_true rfl, Nat.le_of_ble_eq_true rfl⟩) hP hD hS hA (zz_all _) (fun _ => zz_all _) (fun u_14 H locs e_15 hP hD hS => ?_)
            obtain rfl : u_14 = ((nI n, fv + (vBy (bu j) fl), se, pr, re, go, ch), (sg, bu, wa, ho, we, st, (lpN (sPass st wa ho (fv + (vBy (bu j) fl))) n 0 gv), po, ri)) := e_15
            have hP : va_P D vwCl (mW cy b ((nI n, fv + (vBy (bu j) fl), se, pr, re, go, ch), (sg, bu, wa, ho, we, st, (lpN (sPass st wa ho (fv + (vBy (bu j) fl))) n 0 gv), po, ri))) H := hP
            have hD : va_D A (mW cy b ((nI n, fv + (vBy (bu j) fl), se, pr, re, go, ch), (sg, bu, wa, ho, we, st, (lpN (sPass st wa ho (fv + (vBy (bu j) fl))) n 0 gv), po, ri))) := hD
            refine lv_goto (tgt := 23) hx hb dX8_goes_54 (by decide) ?_
            exact ih (i + 1) _ _ (by omega) (by omega) (by rw [hfv, et, ef]; exact vFl_next hf7 ht7 hdd hlt) (lpN_next hlt hv (by simp only [sWay, if_neg c_13])) _ _ _ hP hD hS (lv_sub hl [0, 1, 2, 3, 4] rfl)
    exact loop (d + 1) 0 _ _ (Nat.zero_le _) (by omega) (by rw [ef, vFl_0]) rfl _ _ _ hP hD hS (lv_sub hl [0, 1, 2, 3, 4] rfl)
  refine lv_iload_n hx hb dX8_goes_7 rfl (lv_at hl 0 rfl) ?_
  refine lv_aload_n hx hb dX8_goes_8 rfl (lv_at hl 1 rfl) ?_
  refine lv_iconst (v := 1) hx hb dX8_goes_9 (by decide) ?_
  refine zz_iald hx hb hK hP 0 0 1 rfl rfl rfl ⟨by decide, Nat.le_of_ble_eq_true rfl⟩ dX8_goes_10 ?_
  refine zz_top (y := fl) rfl ?_
  refine lv_icmp_le (tgt := 18) hx hb dX8_goes_11 (by decide) (fun c_16 => ?_) (fun c_16 => ?_)
  · have c_16 : (bu j) ≤ fl := c_16
    refine lv_iconst (v := (-1)) hx hb dX8_goes_18 (by decide) ?_
    exact zz_top (by simp only [vBy, if_pos c_16]) (join1 _ _ _ hP hD hS (lv_sub hl [0, 1, 2] rfl))
  · have c_16 : ¬ (bu j) ≤ fl := c_16
    refine lv_iconst (v := 1) hx hb dX8_goes_14 (by decide) ?_
    refine lv_goto (tgt := 19) hx hb dX8_goes_15 (by decide) ?_
    exact zz_top (by simp only [vBy, if_neg c_16]) (join1 _ _ _ hP hD hS (lv_sub hl [0, 1, 2] rfl))
abbrev rm_X8_pressOn : Room := { frames := 4, cells := 0, slots := 0, locals := 92 }
set_option maxHeartbeats 4000000 in
set_option maxRecDepth 100000 in
theorem c_X8_pressOn (l : Launch) (D : va_G) (cy : Nat → ClassId) (b : Nat) (n : Nat) (hn : n ≤ 4) (x : HS) (hg : x.1.1 = nI n) (sz : Nat) (j : Nat) (hj : j < n) (hbu : okF (x.2.2.1 j)) (hfl : okF x.1.2.1) : Met l yX8_pressOn wsX8_pressOn rm_X8_pressOn (wrP D cy [.ref b, .int (nI j)] (mW cy b x) sz) (va_Qi (fun (r : Int32) (u : HS) => r = vReas x.1.2.1 x.2.1 x.2.2.1 x.2.2.2.2.2.2.1 x.2.2.2.2.2.2.2.1 j ∧ u = mPress n j x) (wrB D (va_A (mW cy b x) sz) (fun u => mW cy b u)) (va_A (mW cy b x) sz)) 0 0 (va_A (mW cy b x) sz) := by
  obtain ⟨⟨gu, fl, se, pr, re, go, ch⟩, ⟨sg, bu, wa, ho, we, st, gr, po, ri⟩⟩ := x
  obtain rfl : gu = nI n := hg
  refine Mwi (cc := cX8_pressOn) (maxL := 3) (ty := .int) (by decide) rfl (Nat.le_of_ble_eq_true rfl) (fun _ _ _ => rfl) ?_
  intro p e s m args below meth c Q ls A hsz hF hK hP hD hA hl hret
  obtain ⟨hx, hb, hml, hown, hts⟩ := id hF
  have hown : s.vm.findClass RX8 = some m.cls := hown
  have hl : lv_has ls 3 [(0, .ref b), (1, .int (nI j))] := hl
  suffices key : ∀ (H : Heap) (locs : List Loc), va_P D vwCl (mW cy b ((nI n, fl, se, pr, re, go, ch), (sg, bu, wa, ho, we, st, gr, po, ri))) H → va_D A (mW cy b ((nI n, fl, se, pr, re, go, ch), (sg, bu, wa, ho, we, st, gr, po, ri))) → va_S A s.heap H locs → W p l e rm_X8_pressOn s m args below meth c H locs 0 0 Q (F0 m 0 ls []) from key s.heap [] hP hD va_S.rf
  intro H locs hP hD hS
  refine lv_aload_n hx hb dX8_pressOn_0 rfl (lv_at hl 0 rfl) ?_
  refine lv_iload_n hx hb dX8_pressOn_1 rfl (lv_at hl 1 rfl) ?_
  refine rd_S (As := [.ref b, .int (nI j)]) (rest := []) hF (c_X8_reason l D cy b n hn ((nI n, fl, se, pr, re, go, ch), (sg, bu, wa, ho, we, st, gr, po, ri)) rfl j (by omega)) (va_cwS 2 hts gX8_pressOn_X8_reason rfl rfl rfl (by decide +kernel) ⟨Nat.le_of_ble_eq_true rfl, Nat.le_of_ble_eq_true rfl⟩) hK hP rfl hl.1 rfl (Nat.le_of_ble_eq_true rfl) dX8_pressOn_2 ⟨Nat.le_of_ble_eq_true rfl, Nat.le_of_ble_eq_true rfl⟩ ?_
  refine lv_istore_n (lv' := [(2, .int (vReas fl sg bu st gr j)), (0, .ref b), (1, .int (nI j))]) hx hb dX8_pressOn_5 rfl hl (by decide) rfl (fun ls hl => ?_)
  refine lv_iload_n hx hb dX8_pressOn_6 rfl (lv_at hl 0 rfl) ?_
  refine lv_if_ne (tgt := 18) hx hb dX8_pressOn_7 (by decide) (fun c_1 => ?_) (fun c_1 => ?_)
  · have c_1 : ¬ (vReas fl sg bu st gr j) = 0 := c_1
    refine lv_aload_n hx hb dX8_pressOn_18 rfl (lv_at hl 1 rfl) ?_
    refine lv_iconst (v := 4) hx hb dX8_pressOn_19 (by decide) ?_
    refine lv_dup2_11 hx hb dX8_pressOn_20 rfl rfl ?_
    refine zz_iald hx hb hK hP 0 0 4 rfl rfl rfl ⟨by decide, Nat.le_of_ble_eq_true rfl⟩ dX8_pressOn_21 ?_
    refine zz_top (y := re) rfl ?_
    refine lv_iconst (v := 1) hx hb dX8_pressOn_22 (by decide) ?_
    refine lv_iadd hx hb dX8_pressOn_23 ?_
    refine zz_iast hx hb hK hP hD hS 0 0 4 rfl rfl rfl ⟨by decide, Nat.le_of_ble_eq_true rfl⟩ dX8_pressOn_24 (fun H locs hP hD hS => ?_)
    rw [mOf_setN (y := ((nI n, fl, se, pr, re, go, ch), (sg, bu, wa, ho, we, st, gr, po, ri))) (k := 4) (v := (re + 1)) (by decide)] at hP hD
    have hP : va_P D vwCl (mW cy b ((nI n, fl, se, pr, re + 1, go, ch), (sg, bu, wa, ho, we, st, gr, po, ri))) H := hP
    have hD : va_D A (mW cy b ((nI n, fl, se, pr, re + 1, go, ch), (sg, bu, wa, ho, we, st, gr, po, ri))) := hD
    refine lv_iload_n hx hb dX8_pressOn_25 rfl (lv_at hl 0 rfl) ?_
    exact hret _ _ H locs _ ((nI n, fl, se, pr, re + 1, go, ch), (sg, bu, wa, ho, we, st, gr, po, ri)) dX8_pressOn_26 hP hD hS (⟨rfl, by simp only [mPress, hRef, if_neg c_1]⟩)
  · have c_1 : (vReas fl sg bu st gr j) = 0 := c_1
    refine lv_aload_n hx hb dX8_pressOn_10 rfl (lv_at hl 1 rfl) ?_
    refine lv_iload_n hx hb dX8_pressOn_11 rfl (lv_at hl 2 rfl) ?_
    refine wr_v (fun u => mW cy b u) (va_runS (As := [.ref b, .int (nI j)]) (rest := []) hF (c_X8_goes l D cy b n hn ((nI n, fl, se, pr, re, go, ch), (sg, bu, wa, ho, we, st, gr, po, ri)) rfl H.size j (by omega) hbu hfl) (va_cwS 2 hts gX8_pressOn_X8_goes rfl rfl rfl (by decide +kernel) ⟨Nat.le_of_ble_eq_true rfl, Nat.le_of_ble_eq_true rfl⟩) (wr_preS hK hP hD (zz_all _)) rfl rfl hl.1 rfl (lv_room (Nat.le_of_ble_eq_true rfl)) dX8_pressOn_12 ⟨Nat.le_of_ble_eq_true rfl, Nat.le_of_ble_eq_true rfl⟩) hP hD hS hA (zz_all _) (fun _ => zz_all _) (fun u_2 H locs e_3 hP hD hS => ?_)
    have hg_4 : u_2.1.1 = nI n := by rw [e_3]; exact rfl
    have hP : va_P D vwCl (mW cy b u_2) H := hP
    have hD : va_D A (mW cy b u_2) := hD
    refine lv_goto (tgt := 25) hx hb dX8_pressOn_15 (by decide) ?_
    refine lv_iload_n hx hb dX8_pressOn_25 rfl (lv_at hl 0 rfl) ?_
    exact hret _ _ H locs _ u_2 dX8_pressOn_26 hP hD hS (⟨rfl, by simp only [mPress, if_pos c_1]; exact e_3⟩)
