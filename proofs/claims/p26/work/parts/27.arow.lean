abbrev rm_X5_aRowBringsAllHome (m9 : Nat) : Room := { frames := 4 + m9, cells := 0, slots := 0, locals := 89 + 23 * m9 }
theorem ar_le {a b m9 : Nat} (h : a ≤ b) : a ≤ b + m9 := Nat.le_trans h (Nat.le_add_right _ _)
theorem take_fr {n : Nat} {pk : Int32} {y : HS} : Fr n y (hTake n pk y) := by
  obtain ⟨⟨gu, fl, se, pr, re, go, ch⟩, ⟨sg, bu, wa, ho, we, st, gr, po, ri⟩⟩ := y
  refine ⟨rfl, rfl, rfl, rfl, rfl, rfl, fun g hg => ?_, fun g hg => ?_⟩
  · show st g = (lpN (sTk pk) n 0 (st, gr)).1 g
    rw [(lpN_sTk n 0 (st, gr) g).1, if_neg (by omega)]
  · show gr g = (lpN (sTk pk) n 0 (st, gr)).2 g
    rw [(lpN_sTk n 0 (st, gr) g).2, if_neg (by omega)]
set_option maxHeartbeats 4000000 in
set_option maxRecDepth 100000 in
theorem c_X5_aRowBringsAllHome (l : Launch) (D : va_G) (cy : Nat → ClassId) (h : Nat → Nat) (n : Nat) (hn : n ≤ 4) : ∀ (m9 : Nat), m9 ≤ 5 → ∀ (x x0 : HS) (hg : x.1.1 = nI n) (hfr : Fr n x0 x) (hok : okX n x0) (sz : Nat), Met l yX5_aRowBringsAllHome wsX5_aRowBringsAllHome (rm_X5_aRowBringsAllHome m9) (wrP D cy [.ref (h 0), .int (hPos n x0), .int (nI m9)] (hotelW cy h x) sz) (va_Qi (fun (r : Int32) (u : HS) => r = zb (dfsB n m9 x0 = true) ∧ Fr n x u) (wrB D (va_A (hotelW cy h x) sz) (fun u => hotelW cy h u)) (va_A (hotelW cy h x) sz)) 0 0 (va_A (hotelW cy h x) sz) := by
  intro m9
  induction m9 with
  | zero =>
    intro hm x x0 hg hfr hok sz
    refine Mwi (cc := cX5_aRowBringsAllHome) (maxL := 4) (ty := .boolean) (by decide) rfl (Nat.le_of_ble_eq_true rfl) (fun _ _ q => by rw [q.1]; exact zb_nar) ?_
    intro p e s m args below meth c Q ls A hsz hF hK hP hD hA hl hret
    obtain ⟨hx, hb, hml, hown, hts⟩ := id hF
    have hown : s.vm.findClass RX5 = some m.cls := hown
    have hl : lv_has ls 4 [(0, .ref (h 0)), (1, .int (hPos n x0)), (2, .int (nI 0))] := hl
    suffices key : ∀ (H : Heap) (locs : List Loc), va_P D vwCl (hotelW cy h x) H → va_D A (hotelW cy h x) → va_S A s.heap H locs → W p l e (rm_X5_aRowBringsAllHome 0) s m args below meth c H locs 0 0 Q (F0 m 0 ls []) from key s.heap [] hP hD va_S.rf
    intro H locs hP hD hS
    refine lv_aload_n hx hb dX5_aRowBringsAllHome_0 rfl (lv_at hl 0 rfl) ?_
    refine lv_iload_n hx hb dX5_aRowBringsAllHome_1 rfl (lv_at hl 1 rfl) ?_
    refine wr_v (fun u => hotelW cy h u) (va_runV (As := [.int (hPos n x0)]) (rest := []) hF (c_X1_takePosition l D cy h n hn x hg H.size (hPos n x0)) (cwV 1 hts gX5_aRowBringsAllHome_X1_takePosition rfl rfl rfl (by decide +kernel) ⟨(ar_le (Nat.le_of_ble_eq_true rfl)), (ar_le (Nat.le_of_ble_eq_true rfl))⟩) (wr_preV hK hP hD (zz_all _) 0 0 rfl rfl rfl) rfl rfl hl.1 rfl (lv_room (Nat.le_of_ble_eq_true rfl)) dX5_aRowBringsAllHome_2 ⟨Nat.le_of_ble_eq_true rfl, Nat.le_of_ble_eq_true rfl⟩) hP hD hS hA (zz_all _) (fun _ => zz_all _) (fun u_1 H locs e_2 hP hD hS => ?_)
    have hg_3 : u_1.1.1 = nI n := by rw [e_2]; exact hg
    have hP : va_P D vwCl (hotelW cy h u_1) H := hP
    have hD : va_D A (hotelW cy h u_1) := hD
    have hco_4 : Co u_1 x0 := by rw [e_2]; exact take_co hn hok.p hfr
    have hf_u_1 : Fr n x u_1 := (by rw [e_2]; exact take_fr)
    refine lv_iload_n hx hb dX5_aRowBringsAllHome_5 rfl (lv_at hl 2 rfl) ?_
    refine lv_if_le (tgt := 14) hx hb dX5_aRowBringsAllHome_6 (by decide) (fun c_5 => ?_) (fun c_5 => ?_)
    · have c_5 : (nI 0) ≤ 0 := c_5
      refine lv_iload_n hx hb dX5_aRowBringsAllHome_14 rfl (lv_at hl 2 rfl) ?_
      refine lv_if_ne (tgt := 29) hx hb dX5_aRowBringsAllHome_15 (by decide) (fun c_6 => ?_) (fun c_6 => ?_)
      · exact absurd (show nI 0 = 0 by decide) c_6
      · have c_6 : (nI 0) = 0 := c_6
        refine lv_aload_n hx hb dX5_aRowBringsAllHome_18 rfl (lv_at hl 0 rfl) ?_
        refine rd_V (As := []) (rest := []) hF (c_X1_areAllHome l D cy h n hn u_1 hg_3 ) (cwV 0 hts gX5_aRowBringsAllHome_X1_areAllHome rfl rfl rfl (by decide +kernel) ⟨(ar_le (Nat.le_of_ble_eq_true rfl)), (ar_le (Nat.le_of_ble_eq_true rfl))⟩) hK hP 0 0 rfl rfl rfl rfl hl.1 rfl (Nat.le_of_ble_eq_true rfl) dX5_aRowBringsAllHome_19 ⟨Nat.le_of_ble_eq_true rfl, Nat.le_of_ble_eq_true rfl⟩ ?_
        refine lv_if_eq (tgt := 29) hx hb dX5_aRowBringsAllHome_22 (by decide) (fun c_7 => ?_) (fun c_7 => ?_)
        · have c_7 := zb_eq.mp c_7
          refine lv_iconst (v := 0) hx hb dX5_aRowBringsAllHome_29 (by decide) ?_
          exact hret _ _ H locs _ u_1 dX5_aRowBringsAllHome_30 hP hD hS ⟨zb_f (fun q => by simp only [dfsB, decide_eq_true_eq] at q; rw [← Co_gi hco_4, ← hco_4.1] at q; exact c_7 q), hf_u_1⟩
        · have c_7 := zb_ne.mp c_7
          refine lv_iconst (v := 1) hx hb dX5_aRowBringsAllHome_25 (by decide) ?_
          refine lv_goto (tgt := 30) hx hb dX5_aRowBringsAllHome_26 (by decide) ?_
          exact hret _ _ H locs _ u_1 dX5_aRowBringsAllHome_30 hP hD hS ⟨zb_t (by simp only [dfsB, decide_eq_true_eq]; rw [← Co_gi hco_4, ← hco_4.1]; exact c_7), hf_u_1⟩
    · exact absurd (show nI 0 ≤ 0 by decide) c_5
  | succ m9 ihq =>
    intro hm x x0 hg hfr hok sz
    have ihm := ihq (by omega)
    refine Mwi (cc := cX5_aRowBringsAllHome) (maxL := 4) (ty := .boolean) (by decide) rfl (Nat.le_of_ble_eq_true rfl) (fun _ _ q => by rw [q.1]; exact zb_nar) ?_
    intro p e s m args below meth c Q ls A hsz hF hK hP hD hA hl hret
    obtain ⟨hx, hb, hml, hown, hts⟩ := id hF
    have hown : s.vm.findClass RX5 = some m.cls := hown
    have hl : lv_has ls 4 [(0, .ref (h 0)), (1, .int (hPos n x0)), (2, .int (nI (m9 + 1)))] := hl
    suffices key : ∀ (H : Heap) (locs : List Loc), va_P D vwCl (hotelW cy h x) H → va_D A (hotelW cy h x) → va_S A s.heap H locs → W p l e (rm_X5_aRowBringsAllHome (m9 + 1)) s m args below meth c H locs 0 0 Q (F0 m 0 ls []) from key s.heap [] hP hD va_S.rf
    intro H locs hP hD hS
    refine lv_aload_n hx hb dX5_aRowBringsAllHome_0 rfl (lv_at hl 0 rfl) ?_
    refine lv_iload_n hx hb dX5_aRowBringsAllHome_1 rfl (lv_at hl 1 rfl) ?_
    refine wr_v (fun u => hotelW cy h u) (va_runV (As := [.int (hPos n x0)]) (rest := []) hF (c_X1_takePosition l D cy h n hn x hg H.size (hPos n x0)) (cwV 1 hts gX5_aRowBringsAllHome_X1_takePosition rfl rfl rfl (by decide +kernel) ⟨(ar_le (Nat.le_of_ble_eq_true rfl)), (ar_le (Nat.le_of_ble_eq_true rfl))⟩) (wr_preV hK hP hD (zz_all _) 0 0 rfl rfl rfl) rfl rfl hl.1 rfl (lv_room (Nat.le_of_ble_eq_true rfl)) dX5_aRowBringsAllHome_2 ⟨Nat.le_of_ble_eq_true rfl, Nat.le_of_ble_eq_true rfl⟩) hP hD hS hA (zz_all _) (fun _ => zz_all _) (fun u_1 H locs e_2 hP hD hS => ?_)
    have hg_3 : u_1.1.1 = nI n := by rw [e_2]; exact hg
    have hP : va_P D vwCl (hotelW cy h u_1) H := hP
    have hD : va_D A (hotelW cy h u_1) := hD
    have hco_4 : Co u_1 x0 := by rw [e_2]; exact take_co hn hok.p hfr
    have hf_u_1 : Fr n x u_1 := (by rw [e_2]; exact take_fr)
    refine lv_iload_n hx hb dX5_aRowBringsAllHome_5 rfl (lv_at hl 2 rfl) ?_
    refine lv_if_le (tgt := 14) hx hb dX5_aRowBringsAllHome_6 (by decide) (fun c_5 => ?_) (fun c_5 => ?_)
    · have c_5 : m9 + 1 ≤ 0 := (nI_leI (a := m9 + 1) (b := 0) (by omega) (by omega)).mp c_5
      exact absurd c_5 (by omega)
    · have c_5 : ¬ m9 + 1 ≤ 0 := fun q => c_5 ((nI_leI (a := m9 + 1) (b := 0) (by omega) (by omega)).mpr q)
      refine lv_iload_n hx hb dX5_aRowBringsAllHome_9 rfl (lv_at hl 2 rfl) ?_
      refine lv_iconst (v := 5) hx hb dX5_aRowBringsAllHome_10 (by decide) ?_
      refine lv_icmp_le (tgt := 31) hx hb dX5_aRowBringsAllHome_11 (by decide) (fun c_6 => ?_) (fun c_6 => ?_)
      · have c_6 : m9 + 1 ≤ 5 := (nI_leI (a := m9 + 1) (b := 5) (by omega) (by omega)).mp c_6
        refine lv_iconst (v := 0) hx hb dX5_aRowBringsAllHome_31 (by decide) ?_
        refine lv_istore_n (lv' := [(3, .int 0), (0, .ref (h 0)), (1, .int (hPos n x0)), (2, .int (nI (m9 + 1)))]) hx hb dX5_aRowBringsAllHome_32 rfl hl (by decide) rfl (fun ls hl => ?_)
        have loop : ∀ (k i : Nat) (y : HS), i ≤ n → n + 1 ≤ i + k → y.1.1 = nI n → Fr n x y → (∀ g, g < i → ¬ (hReas x0 (nI g) = 0 ∧ dfsB n m9 (hGo n g x0) = true)) → ∀ (H : Heap) (locs : List Loc) (ls : Array Slot), va_P D vwCl (hotelW cy h y) H → va_D A (hotelW cy h y) → va_S A s.heap H locs → lv_has ls 4 [(3, .int (nI i)), (0, .ref (h 0)), (1, .int (hPos n x0)), (2, .int (nI (m9 + 1)))] → W p l e (rm_X5_aRowBringsAllHome (m9 + 1)) s m args below meth c H locs 0 0 Q (F0 m 33 ls []) := by
          intro k
          induction k with
          | zero =>
            intro i y hi hk hgy hfy hno
            exact absurd hk (by omega)
          | succ k ih =>
            intro i y hi hk hgy hfy hno H locs ls hP hD hS hl
            refine lv_iload_n hx hb dX5_aRowBringsAllHome_33 rfl (lv_at hl 0 rfl) ?_
            refine lv_aload_n hx hb dX5_aRowBringsAllHome_34 rfl (lv_at hl 1 rfl) ?_
            refine rd_V (As := []) (rest := [.int (nI i)]) hF (c_X1_guestCount l D cy h n hn y hgy ) (cwV 0 hts gX5_aRowBringsAllHome_X1_guestCount rfl rfl rfl (by decide +kernel) ⟨(ar_le (Nat.le_of_ble_eq_true rfl)), (ar_le (Nat.le_of_ble_eq_true rfl))⟩) hK hP 0 0 rfl rfl rfl rfl hl.1 rfl (Nat.le_of_ble_eq_true rfl) dX5_aRowBringsAllHome_35 ⟨Nat.le_of_ble_eq_true rfl, Nat.le_of_ble_eq_true rfl⟩ ?_
            refine zz_top (y := nI n) hgy ?_
            refine lv_icmp_ge (tgt := 76) hx hb dX5_aRowBringsAllHome_38 (by decide) (fun c_7 => ?_) (fun c_7 => ?_)
            · have c_7 : n ≤ i := (nI_leI (a := n) (b := i) (by omega) (by omega)).mp c_7
              refine lv_iconst (v := 0) hx hb dX5_aRowBringsAllHome_76 (by decide) ?_
              exact hret _ _ H locs _ y dX5_aRowBringsAllHome_77 hP hD hS ⟨zb_f (dfs_no (fun g hg => hno g (by omega))), hfy⟩
            · have c_7 : ¬ n ≤ i := fun q => c_7 ((nI_leI (a := n) (b := i) (by omega) (by omega)).mpr q)
              refine lv_aload_n hx hb dX5_aRowBringsAllHome_41 rfl (lv_at hl 1 rfl) ?_
              refine lv_iload_n hx hb dX5_aRowBringsAllHome_42 rfl (lv_at hl 2 rfl) ?_
              refine wr_v (fun u => hotelW cy h u) (va_runV (As := [.int (hPos n x0)]) (rest := []) hF (c_X1_takePosition l D cy h n hn y hgy H.size (hPos n x0)) (cwV 1 hts gX5_aRowBringsAllHome_X1_takePosition rfl rfl rfl (by decide +kernel) ⟨(ar_le (Nat.le_of_ble_eq_true rfl)), (ar_le (Nat.le_of_ble_eq_true rfl))⟩) (wr_preV hK hP hD (zz_all _) 0 0 rfl rfl rfl) rfl rfl hl.1 rfl (lv_room (Nat.le_of_ble_eq_true rfl)) dX5_aRowBringsAllHome_43 ⟨Nat.le_of_ble_eq_true rfl, Nat.le_of_ble_eq_true rfl⟩) hP hD hS hA (zz_all _) (fun _ => zz_all _) (fun u_8 H locs e_9 hP hD hS => ?_)
              have hg_10 : u_8.1.1 = nI n := by rw [e_9]; exact hgy
              have hP : va_P D vwCl (hotelW cy h u_8) H := hP
              have hD : va_D A (hotelW cy h u_8) := hD
              have hco_11 : Co u_8 x0 := by rw [e_9]; exact take_co hn hok.p (hfr.tr hfy)
              have hf_u_8 : Fr n x u_8 := (by rw [e_9]; exact (hfy.tr take_fr))
              refine lv_aload_n hx hb dX5_aRowBringsAllHome_46 rfl (lv_at hl 1 rfl) ?_
              refine lv_iload_n hx hb dX5_aRowBringsAllHome_47 rfl (lv_at hl 0 rfl) ?_
              refine wr_i (fun u => hotelW cy h u) (va_runV (As := [.int (nI i)]) (rest := []) hF (c_X1_goIfWilling l D cy h n hn u_8 hg_10 H.size (nI i)) (cwV 1 hts gX5_aRowBringsAllHome_X1_goIfWilling rfl rfl rfl (by decide +kernel) ⟨(ar_le (Nat.le_of_ble_eq_true rfl)), (ar_le (Nat.le_of_ble_eq_true rfl))⟩) (wr_preV hK hP hD (zz_all _) 0 0 rfl rfl rfl) rfl rfl hl.1 rfl (lv_room (Nat.le_of_ble_eq_true rfl)) dX5_aRowBringsAllHome_48 ⟨Nat.le_of_ble_eq_true rfl, Nat.le_of_ble_eq_true rfl⟩) hP hD hS hA (zz_all _) (fun _ => zz_all _) (fun r_12 u_13 H locs e_14 hP hD hS => ?_)
              obtain ⟨rfl, e_14⟩ := e_14
              have hP : va_P D vwCl (hotelW cy h u_13) H := hP
              have hD : va_D A (hotelW cy h u_13) := hD
              refine lv_if_eq (tgt := 70) hx hb dX5_aRowBringsAllHome_51 (by decide) (fun c_15 => ?_) (fun c_15 => ?_)
              · have c_15 := zb_eq.mp c_15
                have e_14 : u_8 = u_13 := by rw [e_14]; simp only [hWill, if_neg c_15]
                subst e_14
                have hP : va_P D vwCl (hotelW cy h u_8) H := hP
                have hD : va_D A (hotelW cy h u_8) := hD
                refine lv_iinc (v := nI (i + 1)) (lv' := [(3, .int (nI (i + 1))), (0, .ref (h 0)), (1, .int (hPos n x0)), (2, .int (nI (m9 + 1)))]) hx hb dX5_aRowBringsAllHome_70 hl (k := 0) rfl (nI_add (i) 1) (by decide) rfl (fun ls hl => ?_)
                refine lv_goto (tgt := 33) hx hb dX5_aRowBringsAllHome_73 (by decide) ?_
                exact ih (i + 1) u_8 (by omega) (by omega) hg_10 hf_u_8 (lt_s hno (fun q => c_15 (by rw [Co_reas hco_11]; exact q.1))) _ _ _ hP hD hS (lv_sub hl [0, 1, 2, 3] rfl)
              · have c_15 := zb_ne.mp c_15
                have hi2 : i < n := by omega
                have e_14 : u_13 = hGo n i u_8 := by rw [e_14]; simp only [hWill, if_pos c_15, nI_clamp (show i < 2 ^ 31 by omega)]
                obtain ⟨hk1, hk2⟩ := go_keep hi2 (hok.co hco_11.sy)
                rw [← e_14] at hk1 hk2
                have hg3 : u_13.1.1 = nI n := hk1.1.symm.trans hg_10
                refine lv_aload_n hx hb dX5_aRowBringsAllHome_54 rfl (lv_at hl 1 rfl) ?_
                refine lv_aload_n hx hb dX5_aRowBringsAllHome_55 rfl (lv_at hl 1 rfl) ?_
                refine rd_V (As := []) (rest := [.ref (h 0)]) hF (c_X1_position l D cy h n hn u_13 hg3 ) (cwV 0 hts gX5_aRowBringsAllHome_X1_position rfl rfl rfl (by decide +kernel) ⟨(ar_le (Nat.le_of_ble_eq_true rfl)), (ar_le (Nat.le_of_ble_eq_true rfl))⟩) hK hP 0 0 rfl rfl rfl rfl hl.1 rfl (Nat.le_of_ble_eq_true rfl) dX5_aRowBringsAllHome_56 ⟨Nat.le_of_ble_eq_true rfl, Nat.le_of_ble_eq_true rfl⟩ ?_
                refine lv_iload_n hx hb dX5_aRowBringsAllHome_59 rfl (lv_at hl 3 rfl) ?_
                refine lv_iconst (v := 1) hx hb dX5_aRowBringsAllHome_60 (by decide) ?_
                refine lv_isub hx hb dX5_aRowBringsAllHome_61 ?_
                refine zz_top (y := nI m9) (nI_pred m9) ?_
                refine wr_i (fun u => hotelW cy h u) (va_runS (As := [.ref (h 0), .int (hPos n u_13), .int (nI m9)]) (rest := []) hF (ihm u_13 u_13 hg3 Fr.rf hk2 H.size) (va_cwS 3 hts gX5_aRowBringsAllHome_X5_aRowBringsAllHome rfl rfl rfl (by decide +kernel) ⟨(by simp only [rm_X5_aRowBringsAllHome]; omega), (by simp only [rm_X5_aRowBringsAllHome]; omega)⟩) (wr_preS hK hP hD (zz_all _)) rfl rfl hl.1 rfl (lv_room (Nat.le_of_ble_eq_true rfl)) dX5_aRowBringsAllHome_62 ⟨Nat.le_of_ble_eq_true rfl, Nat.le_of_ble_eq_true rfl⟩) hP hD hS hA (zz_all _) (fun _ => zz_all _) (fun r_16 u_17 H locs e_18 hP hD hS => ?_)
                obtain ⟨rfl, e_18⟩ := e_18
                have hP : va_P D vwCl (hotelW cy h u_17) H := hP
                have hD : va_D A (hotelW cy h u_17) := hD
                refine lv_if_eq (tgt := 70) hx hb dX5_aRowBringsAllHome_65 (by decide) (fun c_19 => ?_) (fun c_19 => ?_)
                · have c_19 := zb_eq.mp c_19
                  refine lv_iinc (v := nI (i + 1)) (lv' := [(3, .int (nI (i + 1))), (0, .ref (h 0)), (1, .int (hPos n x0)), (2, .int (nI (m9 + 1)))]) hx hb dX5_aRowBringsAllHome_70 hl (k := 0) rfl (nI_add (i) 1) (by decide) rfl (fun ls hl => ?_)
                  refine lv_goto (tgt := 33) hx hb dX5_aRowBringsAllHome_73 (by decide) ?_
                  exact ih (i + 1) u_17 (by omega) (by omega) (e_18.1.symm.trans hg3) ((hf_u_8.tr hk1).tr e_18) (lt_s hno (fun q => c_19 (by rw [e_14, Co_dfs (Co_go hco_11)]; exact q.2))) _ _ _ hP hD hS (lv_sub hl [0, 1, 2, 3] rfl)
                · have c_19 := zb_ne.mp c_19
                  refine lv_iconst (v := 1) hx hb dX5_aRowBringsAllHome_68 (by decide) ?_
                  exact hret _ _ H locs _ u_17 dX5_aRowBringsAllHome_69 hP hD hS ⟨zb_t (dfs_yes hi2 (by rw [← Co_reas hco_11]; exact c_15) (by rw [← Co_dfs (Co_go hco_11), ← e_14]; exact c_19)), (hf_u_8.tr hk1).tr e_18⟩
        exact loop (n + 1) 0 u_1 (Nat.zero_le _) (by omega) hg_3 hf_u_1 lt_0 _ _ _ hP hD hS (lv_sub hl [0, 1, 2, 3] rfl)
      · have c_6 : ¬ m9 + 1 ≤ 5 := fun q => c_6 ((nI_leI (a := m9 + 1) (b := 5) (by omega) (by omega)).mpr q)
        exact absurd c_6 (by omega)
