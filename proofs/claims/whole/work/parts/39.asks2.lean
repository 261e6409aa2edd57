theorem inL_1 {v c : Int32} {k : Nat} (hk : k < 2 ^ 31) (hc : c = nI k) (h : inL v.toInt64 1 c.toInt64) : ∃ w : Nat, 1 ≤ w ∧ w ≤ k ∧ v = nI w := by
  obtain ⟨h1, h2⟩ := (inI (x := v) (a := 1) (c := c)).mp h
  have h0 : ¬ v < 0 := fun q => h1 (by
    rw [Int32.lt_iff_toInt_lt] at q ⊢
    have e0 : (0 : Int32).toInt = 0 := rfl
    have e1 : (1 : Int32).toInt = 1 := rfl
    omega)
  obtain ⟨j, hj, rfl⟩ := nI_of h0
  subst hc
  refine ⟨j, ?_, ?_, rfl⟩
  · rcases Nat.eq_zero_or_pos j with q | q
    · subst q; exact absurd (by decide) h1
    · exact q
  · rcases Nat.lt_or_ge k j with q | q
    · exact absurd (nI_lt q hj) h2
    · exact q
theorem vSim_eq {n : Nat} {x y z w : HS} (h : RelN (hN z) z w) (hR : RelN n x y) : 10000 * (w.1.2.2.2.1 - y.1.2.2.2.1) + 100 * (w.1.2.2.2.2.2.2 - y.1.2.2.2.2.2.2) + hAG (hN z) z = vSim x z := by
  unfold vSim
  rw [← h.2.1.1, ← hR.2.1.1]
/-- a row of presses, its digits from the left -/
def sPr (m row : Nat) : Nat → HS → HS := fun i z => hWill (hN z) z (nI (row / 10 ^ (m - 1 - i) % 10))
def kIfp (v row what : Int32) : Int32 := if inL v.toInt64 1 5 then (if inL row.toInt64 0 (nI (10 ^ min v.toNatClampNeg 5 - 1)).toInt64 then (if inL what.toInt64 0 4 then 0 else 1) else 1) else 1
def vIfp (n : Nat) (x z : HS) (what : Int32) : Int32 := if what = 0 then z.1.2.2.2.1 - x.1.2.2.2.1 else if what = 1 then z.1.2.2.1 - x.1.2.2.1 else if what = 2 then hAG n z else if what = 3 then hGI n z 2 else z.1.2.1
theorem lt_clamp {v : Int32} {i : Nat} (hi : i < 2 ^ 31) (h : ¬ v ≤ nI i) : i < v.toNatClampNeg := by
  rw [Int32.le_iff_toInt_le, nI_toInt hi] at h
  show i < v.toInt.toNat
  omega
theorem le_clamp {v : Int32} {i : Nat} (hi : i < 2 ^ 31) (h : v ≤ nI i) : v.toNatClampNeg ≤ i := by
  rw [Int32.le_iff_toInt_le, nI_toInt hi] at h
  show v.toInt.toNat ≤ i
  omega
theorem spr_1 {n m row i g9 : Nat} {z w : HS} (h : RelN n z w) (hn : n ≤ 4) (hg : g9 = row / 10 ^ (m - 1 - i)) (hz : hReas z (nI (g9 % 10)) = 0) : sPr m row i z = hGo n (g9 % 10) z := by
  have e : hN z = n := by unfold hN; rw [h.1, nI_clamp (by omega)]
  unfold sPr hWill
  rw [← hg, if_pos hz, e, nI_clamp (by omega)]
theorem spr_0 {m row i g9 : Nat} {z : HS} (hg : g9 = row / 10 ^ (m - 1 - i)) (hz : ¬ hReas z (nI (g9 % 10)) = 0) : sPr m row i z = z := by
  unfold sPr hWill
  rw [← hg, if_neg hz]
theorem p10_le {e m : Nat} (h : e ≤ m) : 10 ^ e ≤ 10 ^ m := Nat.pow_le_pow_right (by decide) h
theorem sim_end {n : Nat} {x y z w : HS} {sd : Int64} {X : Int64 × HS} (h : RelN (hN z) z w) (hR : RelN n x y) (e : (sd, z) = X) : 10000 * (w.1.2.2.2.1 - y.1.2.2.2.1) + 100 * (w.1.2.2.2.2.2.2 - y.1.2.2.2.2.2.2) + hAG (hN z) z = vSim x X.2 := by
  subst e
  exact vSim_eq h hR
abbrev rm_X8_simulate : Room := { frames := 6, cells := 0, slots := 0, locals := 136 }
set_option maxHeartbeats 4000000 in
set_option maxRecDepth 100000 in
theorem c_X8_simulate (l : Launch) (D : va_G) (cy : Nat → ClassId) (b : Nat → Nat) (rf sn ac sp ou : Int32) (tx : Nat → Int32) (yn yt y3 : HS) (di ke : Nat → HS) (ik : Nat → Int32) (n : Nat) (hn : n ≤ 4) (xn : HS) (hR : RelN n xn yn) (seed : Int64) (v : Int32) (sz : Nat) : Met l yX8_simulate wsX8_simulate rm_X8_simulate (wrP D cy [.ref (b 0), .long seed, .int v] (modelW cy b ((rf, sn, ac, sp, ou), tx, (yn, yt, y3), di, ke, ik)) sz) (va_Qi (fun (r : Int32) (u : MS) => mPost (kSim v) r (vSim xn (lpN sSim v.toNatClampNeg 0 (seed, xn)).2) u (((0, sn, ac, sp, ou), tx, (yn, u.2.2.1.2.1, y3), di, ke, ik)) ((rf, sn, ac, sp, ou), tx, (yn, yt, y3), di, ke, ik)) (wrB D (va_A (modelW cy b ((rf, sn, ac, sp, ou), tx, (yn, yt, y3), di, ke, ik)) sz) (fun u => modelW cy b u)) (va_A (modelW cy b ((rf, sn, ac, sp, ou), tx, (yn, yt, y3), di, ke, ik)) sz)) 0 0 (va_A (modelW cy b ((rf, sn, ac, sp, ou), tx, (yn, yt, y3), di, ke, ik)) sz) := by
  refine Mwi (cc := cX8_simulate) (maxL := 8) (ty := .int) (by decide) rfl (Nat.le_of_ble_eq_true rfl) (fun _ _ _ => rfl) ?_
  intro p e s m args below meth c Q ls A hsz hF hK hP hD hA hl hret
  obtain ⟨hx, hb, hml, hown, hts⟩ := id hF
  have hown : s.vm.findClass RX8 = some m.cls := hown
  have hin_X8 : ∀ w ∈ u_ws RX8 TX8 12, w ∈ wsX8_simulate := by decide +kernel
  have hl : lv_has ls 8 [(0, .ref (b 0)), (1, .long seed), (3, .int v)] := hl
  suffices key : ∀ (H : Heap) (locs : List Loc), va_P D vwCl (modelW cy b ((rf, sn, ac, sp, ou), tx, (yn, yt, y3), di, ke, ik)) H → va_D A (modelW cy b ((rf, sn, ac, sp, ou), tx, (yn, yt, y3), di, ke, ik)) → va_S A s.heap H locs → W p l e rm_X8_simulate s m args below meth c H locs 0 0 Q (F0 m 0 ls []) from key s.heap [] hP hD va_S.rf
  intro H locs hP hD hS
  refine lv_aload_n hx hb dX8_simulate_0 rfl (lv_at hl 0 rfl) ?_
  refine lv_iload_n hx hb dX8_simulate_1 rfl (lv_at hl 2 rfl) ?_
  refine lv_i2l (v := Int32.toInt64 v) hx hb dX8_simulate_2 rfl ?_
  refine lv_lconst (v := 1) hx hb dX8_simulate_3 (by decide) ?_
  refine lv_ldc2 (v := 100) hx hb hown (hts (.constantLong RX8 190 (100)) (by decide +kernel)) dX8_simulate_4 ?_
  refine rd_S (As := [.long (Int32.toInt64 v), .long 1, .long 100]) (rest := [.ref (b 0)]) hF (c_X8_in l D cy (Int32.toInt64 v) 1 100) (va_cwS 3 hts gX8_simulate_X8_in rfl rfl rfl (by decide +kernel) ⟨Nat.le_of_ble_eq_true rfl, Nat.le_of_ble_eq_true rfl⟩) hK (fun k q h => by simp at h) rfl hl.1 rfl (Nat.le_of_ble_eq_true rfl) dX8_simulate_7 ⟨Nat.le_of_ble_eq_true rfl, Nat.le_of_ble_eq_true rfl⟩ ?_
  refine lv_if_eq (tgt := 17) hx hb dX8_simulate_10 (by decide) (fun c_1 => ?_) (fun c_1 => ?_)
  · have c_1 := zb_eq.mp c_1
    refine lv_iconst (v := 1) hx hb dX8_simulate_17 (by decide) ?_
    refine wr_i (fun u => wj [[(b 0, .inr (5, [.int 1, .ref (b 1), .int sn, .ref (b 2), .ref (b 3), .ref (b 4), .ref (b 5), .int ac, .ref (b 6), .ref (b 7), .int sp, .int ou]))], [(b 1, .inl (cy 0, 120, .inl tx))], mW cy (b 2) yn, mW cy (b 3) yt, mW cy (b 4) y3, diW cy (b 5) 588 di, diW cy (b 6) 84 ke, [(b 7, .inl (cy 3, 2, .inl ik))]]) (va_runV (As := [.int 1]) (rest := []) hF (c_X8_refused l D cy b rf sn ac sp ou 1 H.size) (cwV 1 hts gX8_simulate_X8_refused rfl rfl rfl (by decide +kernel) ⟨Nat.le_of_ble_eq_true rfl, Nat.le_of_ble_eq_true rfl⟩) (wr_preV hK hP hD (zz_pick1 [[(b 0, .inr (5, [.int rf, .ref (b 1), .int sn, .ref (b 2), .ref (b 3), .ref (b 4), .ref (b 5), .int ac, .ref (b 6), .ref (b 7), .int sp, .int ou]))], [(b 1, .inl (cy 0, 120, .inl tx))], mW cy (b 2) yn, mW cy (b 3) yt, mW cy (b 4) y3, diW cy (b 5) 588 di, diW cy (b 6) 84 ke, [(b 7, .inl (cy 3, 2, .inl ik))]] 0 [1, 2, 3, 4, 5, 6, 7] (show List.Perm ([0] ++ [1, 2, 3, 4, 5, 6, 7]) (List.range 8) by decide) rfl rfl) 0 5 rfl rfl rfl) rfl rfl hl.1 rfl (lv_room (Nat.le_of_ble_eq_true rfl)) dX8_simulate_18 ⟨Nat.le_of_ble_eq_true rfl, Nat.le_of_ble_eq_true rfl⟩) hP hD hS hA (zz_pick1 [[(b 0, .inr (5, [.int rf, .ref (b 1), .int sn, .ref (b 2), .ref (b 3), .ref (b 4), .ref (b 5), .int ac, .ref (b 6), .ref (b 7), .int sp, .int ou]))], [(b 1, .inl (cy 0, 120, .inl tx))], mW cy (b 2) yn, mW cy (b 3) yt, mW cy (b 4) y3, diW cy (b 5) 588 di, diW cy (b 6) 84 ke, [(b 7, .inl (cy 3, 2, .inl ik))]] 0 [1, 2, 3, 4, 5, 6, 7] (show List.Perm ([0] ++ [1, 2, 3, 4, 5, 6, 7]) (List.range 8) by decide) rfl rfl) (fun _ => (zz_pick1 [[(b 0, .inr (5, [.int 1, .ref (b 1), .int sn, .ref (b 2), .ref (b 3), .ref (b 4), .ref (b 5), .int ac, .ref (b 6), .ref (b 7), .int sp, .int ou]))], [(b 1, .inl (cy 0, 120, .inl tx))], mW cy (b 2) yn, mW cy (b 3) yt, mW cy (b 4) y3, diW cy (b 5) 588 di, diW cy (b 6) 84 ke, [(b 7, .inl (cy 3, 2, .inl ik))]] 0 [1, 2, 3, 4, 5, 6, 7] (show List.Perm ([0] ++ [1, 2, 3, 4, 5, 6, 7]) (List.range 8) by decide) rfl rfl)) (fun r_2 u_3 H locs e_4 hP hD hS => ?_)
    obtain rfl := e_4
    have hP : va_P D vwCl (modelW cy b ((1, sn, ac, sp, ou), tx, (yn, yt, y3), di, ke, ik)) H := hP
    have hD : va_D A (modelW cy b ((1, sn, ac, sp, ou), tx, (yn, yt, y3), di, ke, ik)) := hD
    refine lv_if_eq (tgt := 26) hx hb dX8_simulate_21 (by decide) (fun c_5 => ?_) (fun c_5 => ?_)
    · exact absurd c_5 (by decide)
    · refine lv_iconst (v := 0) hx hb dX8_simulate_24 (by decide) ?_
      exact hret _ _ H locs _ ((1, sn, ac, sp, ou), tx, (yn, yt, y3), di, ke, ik) dX8_simulate_25 hP hD hS (mPost_t (K := (kSim v)) (k := 1) (U := ((rf, sn, ac, sp, ou), tx, (yn, yt, y3), di, ke, ik)) (by simp only [kSim, if_neg c_1, if_neg c_5]) (by decide))
  · have c_1 := zb_ne.mp c_1
    refine lv_iconst (v := 0) hx hb dX8_simulate_13 (by decide) ?_
    refine lv_goto (tgt := 18) hx hb dX8_simulate_14 (by decide) ?_
    refine wr_i (fun u => wj [[(b 0, .inr (5, [.int 0, .ref (b 1), .int sn, .ref (b 2), .ref (b 3), .ref (b 4), .ref (b 5), .int ac, .ref (b 6), .ref (b 7), .int sp, .int ou]))], [(b 1, .inl (cy 0, 120, .inl tx))], mW cy (b 2) yn, mW cy (b 3) yt, mW cy (b 4) y3, diW cy (b 5) 588 di, diW cy (b 6) 84 ke, [(b 7, .inl (cy 3, 2, .inl ik))]]) (va_runV (As := [.int 0]) (rest := []) hF (c_X8_refused l D cy b rf sn ac sp ou 0 H.size) (cwV 1 hts gX8_simulate_X8_refused rfl rfl rfl (by decide +kernel) ⟨Nat.le_of_ble_eq_true rfl, Nat.le_of_ble_eq_true rfl⟩) (wr_preV hK hP hD (zz_pick1 [[(b 0, .inr (5, [.int rf, .ref (b 1), .int sn, .ref (b 2), .ref (b 3), .ref (b 4), .ref (b 5), .int ac, .ref (b 6), .ref (b 7), .int sp, .int ou]))], [(b 1, .inl (cy 0, 120, .inl tx))], mW cy (b 2) yn, mW cy (b 3) yt, mW cy (b 4) y3, diW cy (b 5) 588 di, diW cy (b 6) 84 ke, [(b 7, .inl (cy 3, 2, .inl ik))]] 0 [1, 2, 3, 4, 5, 6, 7] (show List.Perm ([0] ++ [1, 2, 3, 4, 5, 6, 7]) (List.range 8) by decide) rfl rfl) 0 5 rfl rfl rfl) rfl rfl hl.1 rfl (lv_room (Nat.le_of_ble_eq_true rfl)) dX8_simulate_18 ⟨Nat.le_of_ble_eq_true rfl, Nat.le_of_ble_eq_true rfl⟩) hP hD hS hA (zz_pick1 [[(b 0, .inr (5, [.int rf, .ref (b 1), .int sn, .ref (b 2), .ref (b 3), .ref (b 4), .ref (b 5), .int ac, .ref (b 6), .ref (b 7), .int sp, .int ou]))], [(b 1, .inl (cy 0, 120, .inl tx))], mW cy (b 2) yn, mW cy (b 3) yt, mW cy (b 4) y3, diW cy (b 5) 588 di, diW cy (b 6) 84 ke, [(b 7, .inl (cy 3, 2, .inl ik))]] 0 [1, 2, 3, 4, 5, 6, 7] (show List.Perm ([0] ++ [1, 2, 3, 4, 5, 6, 7]) (List.range 8) by decide) rfl rfl) (fun _ => (zz_pick1 [[(b 0, .inr (5, [.int 0, .ref (b 1), .int sn, .ref (b 2), .ref (b 3), .ref (b 4), .ref (b 5), .int ac, .ref (b 6), .ref (b 7), .int sp, .int ou]))], [(b 1, .inl (cy 0, 120, .inl tx))], mW cy (b 2) yn, mW cy (b 3) yt, mW cy (b 4) y3, diW cy (b 5) 588 di, diW cy (b 6) 84 ke, [(b 7, .inl (cy 3, 2, .inl ik))]] 0 [1, 2, 3, 4, 5, 6, 7] (show List.Perm ([0] ++ [1, 2, 3, 4, 5, 6, 7]) (List.range 8) by decide) rfl rfl)) (fun r_6 u_7 H locs e_8 hP hD hS => ?_)
    obtain rfl := e_8
    have hP : va_P D vwCl (modelW cy b ((0, sn, ac, sp, ou), tx, (yn, yt, y3), di, ke, ik)) H := hP
    have hD : va_D A (modelW cy b ((0, sn, ac, sp, ou), tx, (yn, yt, y3), di, ke, ik)) := hD
    refine lv_if_eq (tgt := 26) hx hb dX8_simulate_21 (by decide) (fun c_9 => ?_) (fun c_9 => ?_)
    · obtain ⟨m9, hm1, hm9, rfl⟩ := inL_1 (k := 100) (by decide) rfl c_1
      refine lv_aload_n hx hb dX8_simulate_26 rfl (lv_at hl 0 rfl) ?_
      refine va_get (ci := 5) (v := .ref (b 2)) (C := RX8) (T := TX8) (N := 12) hx hb hts hin_X8 hown hK hP 0 rfl rfl 3 (by decide) (hts (.fieldLink RX8 13 "ButtonGuestsModel" "now" "[I") (by decide +kernel)) (fun _ h9 => h9) rfl dX8_simulate_27 ?_
      refine lv_iconst (v := 0) hx hb dX8_simulate_30 (by decide) ?_
      refine lv_aload_n hx hb dX8_simulate_31 rfl (lv_at hl 0 rfl) ?_
      refine va_get (ci := 5) (v := .ref (b 3)) (C := RX8) (T := TX8) (N := 12) hx hb hts hin_X8 hown hK hP 0 rfl rfl 4 (by decide) (hts (.fieldLink RX8 16 "ButtonGuestsModel" "trial" "[I") (by decide +kernel)) (fun _ h9 => h9) rfl dX8_simulate_32 ?_
      refine lv_iconst (v := 0) hx hb dX8_simulate_35 (by decide) ?_
      refine wr_v (fun u => wj [[(b 0, .inr (5, [.int 0, .ref (b 1), .int sn, .ref (b 2), .ref (b 3), .ref (b 4), .ref (b 5), .int ac, .ref (b 6), .ref (b 7), .int sp, .int ou]))], [(b 1, .inl (cy 0, 120, .inl tx))], mW cy (b 2) yn, mW cy (b 3) yn, mW cy (b 4) y3, diW cy (b 5) 588 di, diW cy (b 6) 84 ke, [(b 7, .inl (cy 3, 2, .inl ik))]]) (va_runS (As := [.ref (b 2), .int 0, .ref (b 3), .int 0]) (rest := []) hF (c_X8_copyState_s l D cy (b 2) (b 3) 42 0 (mOf yn) yt yn (by omega) (by omega) (fun j _ => by rw [Nat.zero_add]) H.size) (va_cwS 4 hts gX8_simulate_X8_copyState rfl rfl rfl (by decide +kernel) ⟨Nat.le_of_ble_eq_true rfl, Nat.le_of_ble_eq_true rfl⟩) (wr_preS hK hP hD (zz_pick2 [[(b 0, .inr (5, [.int 0, .ref (b 1), .int sn, .ref (b 2), .ref (b 3), .ref (b 4), .ref (b 5), .int ac, .ref (b 6), .ref (b 7), .int sp, .int ou]))], [(b 1, .inl (cy 0, 120, .inl tx))], mW cy (b 2) yn, mW cy (b 3) yt, mW cy (b 4) y3, diW cy (b 5) 588 di, diW cy (b 6) 84 ke, [(b 7, .inl (cy 3, 2, .inl ik))]] 2 3 [0, 1, 4, 5, 6, 7] (show List.Perm ([2, 3] ++ [0, 1, 4, 5, 6, 7]) (List.range 8) by decide) rfl rfl rfl)) rfl rfl hl.1 rfl (lv_room (Nat.le_of_ble_eq_true rfl)) dX8_simulate_36 ⟨Nat.le_of_ble_eq_true rfl, Nat.le_of_ble_eq_true rfl⟩) hP hD hS hA (zz_pick2 [[(b 0, .inr (5, [.int 0, .ref (b 1), .int sn, .ref (b 2), .ref (b 3), .ref (b 4), .ref (b 5), .int ac, .ref (b 6), .ref (b 7), .int sp, .int ou]))], [(b 1, .inl (cy 0, 120, .inl tx))], mW cy (b 2) yn, mW cy (b 3) yt, mW cy (b 4) y3, diW cy (b 5) 588 di, diW cy (b 6) 84 ke, [(b 7, .inl (cy 3, 2, .inl ik))]] 2 3 [0, 1, 4, 5, 6, 7] (show List.Perm ([2, 3] ++ [0, 1, 4, 5, 6, 7]) (List.range 8) by decide) rfl rfl rfl) (fun _ => (zz_pick2 [[(b 0, .inr (5, [.int 0, .ref (b 1), .int sn, .ref (b 2), .ref (b 3), .ref (b 4), .ref (b 5), .int ac, .ref (b 6), .ref (b 7), .int sp, .int ou]))], [(b 1, .inl (cy 0, 120, .inl tx))], mW cy (b 2) yn, mW cy (b 3) yn, mW cy (b 4) y3, diW cy (b 5) 588 di, diW cy (b 6) 84 ke, [(b 7, .inl (cy 3, 2, .inl ik))]] 2 3 [0, 1, 4, 5, 6, 7] (show List.Perm ([2, 3] ++ [0, 1, 4, 5, 6, 7]) (List.range 8) by decide) rfl rfl rfl)) (fun u_10 H locs e_11 hP hD hS => ?_)
      have hP : va_P D vwCl (modelW cy b ((0, sn, ac, sp, ou), tx, (yn, yn, y3), di, ke, ik)) H := hP
      have hD : va_D A (modelW cy b ((0, sn, ac, sp, ou), tx, (yn, yn, y3), di, ke, ik)) := hD
      refine lv_lload_n hx hb dX8_simulate_39 rfl (lv_at hl 1 rfl) ?_
      refine lv_lstore (lv' := [(4, .long seed), (0, .ref (b 0)), (1, .long seed), (3, .int (nI m9))]) hx hb dX8_simulate_40 hl (by decide) rfl (fun ls hl => ?_)
      refine lv_iconst (v := 0) hx hb dX8_simulate_42 (by decide) ?_
      refine lv_istore (lv' := [(6, .int 0), (4, .long seed), (0, .ref (b 0)), (1, .long seed), (3, .int (nI m9))]) hx hb dX8_simulate_43 hl (by decide) rfl (fun ls hl => ?_)
      have loop : ∀ (k i : Nat) (sd : Int64) (z w : HS), i ≤ m9 → m9 + 1 ≤ i + k → RelX z w → lpN sSim (m9 - i) i (sd, z) = lpN sSim m9 0 (seed, xn) → ∀ (H : Heap) (locs : List Loc) (ls : Array Slot), va_P D vwCl (modelW cy b ((0, sn, ac, sp, ou), tx, (yn, w, y3), di, ke, ik)) H → va_D A (modelW cy b ((0, sn, ac, sp, ou), tx, (yn, w, y3), di, ke, ik)) → va_S A s.heap H locs → lv_has ls 8 [(6, .int (nI i)), (4, .long sd), (0, .ref (b 0)), (1, .long seed), (3, .int (nI m9))] → W p l e rm_X8_simulate s m args below meth c H locs 0 0 Q (F0 m 45 ls []) := by
        intro k
        induction k with
        | zero =>
          intro i sd z w hi hk hRX hv
          exact absurd hk (by omega)
        | succ k ih =>
          intro i sd z w hi hk hRX hv H locs ls hP hD hS hl
          refine lv_iload hx hb dX8_simulate_45 (lv_at hl 0 rfl) ?_
          refine lv_iload_n hx hb dX8_simulate_47 rfl (lv_at hl 4 rfl) ?_
          refine lv_icmp_ge (tgt := 94) hx hb dX8_simulate_48 (by decide) (fun c_12 => ?_) (fun c_12 => ?_)
          · have c_12 : m9 ≤ i := (nI_leI (a := m9) (b := i) (by omega) (by omega)).mp c_12
            refine lv_sipush (v := 10000) hx hb dX8_simulate_94 (by decide) ?_
            refine lv_aload_n hx hb dX8_simulate_97 rfl (lv_at hl 2 rfl) ?_
            refine va_get (ci := 5) (v := .ref (b 3)) (C := RX8) (T := TX8) (N := 12) hx hb hts hin_X8 hown hK hP 0 rfl rfl 4 (by decide) (hts (.fieldLink RX8 16 "ButtonGuestsModel" "trial" "[I") (by decide +kernel)) (fun _ h9 => h9) rfl dX8_simulate_98 ?_
            refine lv_iconst (v := 3) hx hb dX8_simulate_101 (by decide) ?_
            refine zz_iald hx hb hK hP 3 0 3 rfl rfl rfl ⟨by decide, Nat.le_of_ble_eq_true rfl⟩ dX8_simulate_102 ?_
            refine zz_top (y := w.1.2.2.2.1) rfl ?_
            refine lv_aload_n hx hb dX8_simulate_103 rfl (lv_at hl 2 rfl) ?_
            refine va_get (ci := 5) (v := .ref (b 2)) (C := RX8) (T := TX8) (N := 12) hx hb hts hin_X8 hown hK hP 0 rfl rfl 3 (by decide) (hts (.fieldLink RX8 13 "ButtonGuestsModel" "now" "[I") (by decide +kernel)) (fun _ h9 => h9) rfl dX8_simulate_104 ?_
            refine lv_iconst (v := 3) hx hb dX8_simulate_107 (by decide) ?_
            refine zz_iald hx hb hK hP 2 0 3 rfl rfl rfl ⟨by decide, Nat.le_of_ble_eq_true rfl⟩ dX8_simulate_108 ?_
            refine zz_top (y := yn.1.2.2.2.1) rfl ?_
            refine lv_isub hx hb dX8_simulate_109 ?_
            refine lv_imul hx hb dX8_simulate_110 ?_
            refine lv_bipush (v := 100) hx hb dX8_simulate_111 (by decide) ?_
            refine lv_aload_n hx hb dX8_simulate_113 rfl (lv_at hl 2 rfl) ?_
            refine va_get (ci := 5) (v := .ref (b 3)) (C := RX8) (T := TX8) (N := 12) hx hb hts hin_X8 hown hK hP 0 rfl rfl 4 (by decide) (hts (.fieldLink RX8 16 "ButtonGuestsModel" "trial" "[I") (by decide +kernel)) (fun _ h9 => h9) rfl dX8_simulate_114 ?_
            refine lv_bipush (v := 6) hx hb dX8_simulate_117 (by decide) ?_
            refine zz_iald hx hb hK hP 3 0 6 rfl rfl rfl ⟨by decide, Nat.le_of_ble_eq_true rfl⟩ dX8_simulate_119 ?_
            refine zz_top (y := w.1.2.2.2.2.2.2) rfl ?_
            refine lv_aload_n hx hb dX8_simulate_120 rfl (lv_at hl 2 rfl) ?_
            refine va_get (ci := 5) (v := .ref (b 2)) (C := RX8) (T := TX8) (N := 12) hx hb hts hin_X8 hown hK hP 0 rfl rfl 3 (by decide) (hts (.fieldLink RX8 13 "ButtonGuestsModel" "now" "[I") (by decide +kernel)) (fun _ h9 => h9) rfl dX8_simulate_121 ?_
            refine lv_bipush (v := 6) hx hb dX8_simulate_124 (by decide) ?_
            refine zz_iald hx hb hK hP 2 0 6 rfl rfl rfl ⟨by decide, Nat.le_of_ble_eq_true rfl⟩ dX8_simulate_126 ?_
            refine zz_top (y := yn.1.2.2.2.2.2.2) rfl ?_
            refine lv_isub hx hb dX8_simulate_127 ?_
            refine lv_imul hx hb dX8_simulate_128 ?_
            refine lv_iadd hx hb dX8_simulate_129 ?_
            refine lv_aload_n hx hb dX8_simulate_130 rfl (lv_at hl 2 rfl) ?_
            refine va_get (ci := 5) (v := .ref (b 3)) (C := RX8) (T := TX8) (N := 12) hx hb hts hin_X8 hown hK hP 0 rfl rfl 4 (by decide) (hts (.fieldLink RX8 16 "ButtonGuestsModel" "trial" "[I") (by decide +kernel)) (fun _ h9 => h9) rfl dX8_simulate_131 ?_
            refine rd_S (As := [.ref (b 3)]) (rest := [.int ((10000 * (w.1.2.2.2.1 - yn.1.2.2.2.1)) + (100 * (w.1.2.2.2.2.2.2 - yn.1.2.2.2.2.2.2)))]) hF (c_X8_allGrudges l D cy (b 3) (hN z) (relX_n hRX).1 w ((relX_n hRX).2.gy) ) (va_cwS 1 hts gX8_simulate_X8_allGrudges rfl rfl rfl (by decide +kernel) ⟨Nat.le_of_ble_eq_true rfl, Nat.le_of_ble_eq_true rfl⟩) hK (hP.sub [3] rfl) rfl hl.1 rfl (Nat.le_of_ble_eq_true rfl) dX8_simulate_134 ⟨Nat.le_of_ble_eq_true rfl, Nat.le_of_ble_eq_true rfl⟩ ?_
            refine zz_top (y := hAG (hN z) z) (rel_ag (relX_n hRX).2.2.1) ?_
            refine lv_iadd hx hb dX8_simulate_137 ?_
            exact hret _ _ H locs _ ((0, sn, ac, sp, ou), tx, (yn, w, y3), di, ke, ik) dX8_simulate_138 hP hD hS (mPost_r (by simp only [kSim, if_pos c_1, if_pos c_9]) (by rw [nI_clamp (show m9 < 2 ^ 31 by omega)]; exact sim_end (relX_n hRX).2 hR (lpN_end c_12 hv)) (rfl))
          · have c_12 : ¬ m9 ≤ i := fun q => c_12 ((nI_leI (a := m9) (b := i) (by omega) (by omega)).mpr q)
            refine lv_lload hx hb dX8_simulate_51 (lv_at hl 1 rfl) ?_
            refine lv_ldc2 (v := 6364136223846793005) hx hb hown (hts (.constantLong RX8 192 (6364136223846793005)) (by decide +kernel)) dX8_simulate_53 ?_
            refine lv_lmul hx hb dX8_simulate_56 ?_
            refine lv_ldc2 (v := 1442695040888963407) hx hb hown (hts (.constantLong RX8 194 (1442695040888963407)) (by decide +kernel)) dX8_simulate_57 ?_
            refine lv_ladd hx hb dX8_simulate_60 ?_
            refine zz_topL (y := sNx sd) rfl ?_
            refine lv_lstore (lv' := [(4, .long (sNx sd)), (6, .int (nI i)), (0, .ref (b 0)), (1, .long seed), (3, .int (nI m9))]) hx hb dX8_simulate_61 hl (by decide) rfl (fun ls hl => ?_)
            obtain ⟨r9, hr9, er9⟩ := sBits_nat (sNx sd)
            refine lv_lload hx hb dX8_simulate_63 (lv_at hl 0 rfl) ?_
            refine lv_bipush (v := 33) hx hb dX8_simulate_65 (by decide) ?_
            refine lv_lushr (v := ((sNx sd).toUInt64 >>> ((33 : Int32).toInt64.toUInt64 &&& Int64.toUInt64 63)).toInt64) hx hb dX8_simulate_67 rfl ?_
            refine lv_l2i (v := Int64.toInt32 (((sNx sd).toUInt64 >>> ((33 : Int32).toInt64.toUInt64 &&& Int64.toUInt64 63)).toInt64)) hx hb dX8_simulate_68 rfl ?_
            refine zz_top (y := nI r9) er9 ?_
            refine lv_istore (lv' := [(7, .int (nI r9)), (4, .long (sNx sd)), (6, .int (nI i)), (0, .ref (b 0)), (1, .long seed), (3, .int (nI m9))]) hx hb dX8_simulate_69 hl (by decide) rfl (fun ls hl => ?_)
            refine lv_aload_n hx hb dX8_simulate_71 rfl (lv_at hl 3 rfl) ?_
            refine va_get (ci := 5) (v := .ref (b 3)) (C := RX8) (T := TX8) (N := 12) hx hb hts hin_X8 hown hK hP 0 rfl rfl 4 (by decide) (hts (.fieldLink RX8 16 "ButtonGuestsModel" "trial" "[I") (by decide +kernel)) (fun _ h9 => h9) rfl dX8_simulate_72 ?_
            refine lv_iload hx hb dX8_simulate_75 (lv_at hl 0 rfl) ?_
            refine lv_bipush (v := 16) hx hb dX8_simulate_77 (by decide) ?_
            refine lv_irem hx hb dX8_simulate_79 (by decide) ?_
            refine zz_top (y := nI (r9 % 16)) (pk_rem (by omega) (by decide) (by decide)) ?_
            refine lv_iload hx hb dX8_simulate_80 (lv_at hl 0 rfl) ?_
            refine lv_bipush (v := 16) hx hb dX8_simulate_82 (by decide) ?_
            refine lv_idiv hx hb dX8_simulate_84 (by decide) ?_
            refine zz_top (y := nI (r9 / 16)) (pk_div (by omega) (by decide) (by decide)) ?_
            refine wr_v (fun u => wj [[(b 0, .inr (5, [.int 0, .ref (b 1), .int sn, .ref (b 2), .ref (b 3), .ref (b 4), .ref (b 5), .int ac, .ref (b 6), .ref (b 7), .int sp, .int ou]))], [(b 1, .inl (cy 0, 120, .inl tx))], mW cy (b 2) yn, mW cy (b 3) u, mW cy (b 4) y3, diW cy (b 5) 588 di, diW cy (b 6) 84 ke, [(b 7, .inl (cy 3, 2, .inl ik))]]) (va_runS (As := [.ref (b 3), .int (nI (r9 % 16)), .int (nI (r9 / 16))]) (rest := []) hF (c_X8_turnOf l D cy (b 3) (hN z) (r9 % 16) (r9 / 16) (relX_n hRX).1 z w (relX_n hRX).2 (by omega) (by omega) H.size) (va_cwS 3 hts gX8_simulate_X8_turnOf rfl rfl rfl (by decide +kernel) ⟨Nat.le_of_ble_eq_true rfl, Nat.le_of_ble_eq_true rfl⟩) (wr_preS hK hP hD (zz_pick1 [[(b 0, .inr (5, [.int 0, .ref (b 1), .int sn, .ref (b 2), .ref (b 3), .ref (b 4), .ref (b 5), .int ac, .ref (b 6), .ref (b 7), .int sp, .int ou]))], [(b 1, .inl (cy 0, 120, .inl tx))], mW cy (b 2) yn, mW cy (b 3) w, mW cy (b 4) y3, diW cy (b 5) 588 di, diW cy (b 6) 84 ke, [(b 7, .inl (cy 3, 2, .inl ik))]] 3 [0, 1, 2, 4, 5, 6, 7] (show List.Perm ([3] ++ [0, 1, 2, 4, 5, 6, 7]) (List.range 8) by decide) rfl rfl)) rfl rfl hl.1 rfl (lv_room (Nat.le_of_ble_eq_true rfl)) dX8_simulate_85 ⟨Nat.le_of_ble_eq_true rfl, Nat.le_of_ble_eq_true rfl⟩) hP hD hS hA (zz_pick1 [[(b 0, .inr (5, [.int 0, .ref (b 1), .int sn, .ref (b 2), .ref (b 3), .ref (b 4), .ref (b 5), .int ac, .ref (b 6), .ref (b 7), .int sp, .int ou]))], [(b 1, .inl (cy 0, 120, .inl tx))], mW cy (b 2) yn, mW cy (b 3) w, mW cy (b 4) y3, diW cy (b 5) 588 di, diW cy (b 6) 84 ke, [(b 7, .inl (cy 3, 2, .inl ik))]] 3 [0, 1, 2, 4, 5, 6, 7] (show List.Perm ([3] ++ [0, 1, 2, 4, 5, 6, 7]) (List.range 8) by decide) rfl rfl) (fun u => (zz_pick1 [[(b 0, .inr (5, [.int 0, .ref (b 1), .int sn, .ref (b 2), .ref (b 3), .ref (b 4), .ref (b 5), .int ac, .ref (b 6), .ref (b 7), .int sp, .int ou]))], [(b 1, .inl (cy 0, 120, .inl tx))], mW cy (b 2) yn, mW cy (b 3) u, mW cy (b 4) y3, diW cy (b 5) 588 di, diW cy (b 6) 84 ke, [(b 7, .inl (cy 3, 2, .inl ik))]] 3 [0, 1, 2, 4, 5, 6, 7] (show List.Perm ([3] ++ [0, 1, 2, 4, 5, 6, 7]) (List.range 8) by decide) rfl rfl)) (fun u_13 H locs e_14 hP hD hS => ?_)
            have hP : va_P D vwCl (modelW cy b ((0, sn, ac, sp, ou), tx, (yn, u_13, y3), di, ke, ik)) H := hP
            have hD : va_D A (modelW cy b ((0, sn, ac, sp, ou), tx, (yn, u_13, y3), di, ke, ik)) := hD
            refine lv_iinc (v := nI (i + 1)) (lv' := [(6, .int (nI (i + 1))), (7, .int (nI r9)), (4, .long (sNx sd)), (0, .ref (b 0)), (1, .long seed), (3, .int (nI m9))]) hx hb dX8_simulate_88 hl (k := 2) rfl (nI_add (i) 1) (by decide) rfl (fun ls hl => ?_)
            refine lv_goto (tgt := 45) hx hb dX8_simulate_91 (by decide) ?_
            exact ih (i + 1) (sNx sd) (sSim i (sd, z)).2 u_13 (by omega) (by omega) (sim_step hr9 er9 _ e_14) (lpN_next (by omega) hv rfl) _ _ _ hP hD hS (lv_sub hl [0, 2, 3, 4, 5] rfl)
      exact loop (m9 + 1) 0 seed xn yn (Nat.zero_le _) (by omega) ⟨n, hn, hR⟩ rfl _ _ _ hP hD hS (lv_sub hl [0, 1, 2, 3, 4] rfl)
    · exact absurd c_9 (by decide)
abbrev rm_X8_ifPressed : Room := { frames := 4, cells := 0, slots := 0, locals := 92 }
set_option maxHeartbeats 4000000 in
set_option maxRecDepth 100000 in
theorem c_X8_ifPressed (l : Launch) (D : va_G) (cy : Nat → ClassId) (b : Nat → Nat) (rf sn ac sp ou : Int32) (tx : Nat → Int32) (yn yt y3 : HS) (di ke : Nat → HS) (ik : Nat → Int32) (n : Nat) (hn : n ≤ 4) (xn : HS) (hR : RelN n xn yn) (v row9 what : Int32) (sz : Nat) : Met l yX8_ifPressed wsX8_ifPressed rm_X8_ifPressed (wrP D cy [.ref (b 0), .int v, .int row9, .int what] (modelW cy b ((rf, sn, ac, sp, ou), tx, (yn, yt, y3), di, ke, ik)) sz) (va_Qi (fun (r : Int32) (u : MS) => mPost (kIfp v row9 what) r (vIfp n xn (lpN (sPr v.toNatClampNeg row9.toNatClampNeg) v.toNatClampNeg 0 xn) what) u (((0, sn, ac, sp, ou), tx, (yn, u.2.2.1.2.1, y3), di, ke, ik)) ((rf, sn, ac, sp, ou), tx, (yn, yt, y3), di, ke, ik)) (wrB D (va_A (modelW cy b ((rf, sn, ac, sp, ou), tx, (yn, yt, y3), di, ke, ik)) sz) (fun u => modelW cy b u)) (va_A (modelW cy b ((rf, sn, ac, sp, ou), tx, (yn, yt, y3), di, ke, ik)) sz)) 0 0 (va_A (modelW cy b ((rf, sn, ac, sp, ou), tx, (yn, yt, y3), di, ke, ik)) sz) := by
  refine Mwi (cc := cX8_ifPressed) (maxL := 7) (ty := .int) (by decide) rfl (Nat.le_of_ble_eq_true rfl) (fun _ _ _ => rfl) ?_
  intro p e s m args below meth c Q ls A hsz hF hK hP hD hA hl hret
  obtain ⟨hx, hb, hml, hown, hts⟩ := id hF
  have hown : s.vm.findClass RX8 = some m.cls := hown
  have hin_X8 : ∀ w ∈ u_ws RX8 TX8 12, w ∈ wsX8_ifPressed := by decide +kernel
  have hl : lv_has ls 7 [(0, .ref (b 0)), (1, .int v), (2, .int row9), (3, .int what)] := hl
  suffices key : ∀ (H : Heap) (locs : List Loc), va_P D vwCl (modelW cy b ((rf, sn, ac, sp, ou), tx, (yn, yt, y3), di, ke, ik)) H → va_D A (modelW cy b ((rf, sn, ac, sp, ou), tx, (yn, yt, y3), di, ke, ik)) → va_S A s.heap H locs → W p l e rm_X8_ifPressed s m args below meth c H locs 0 0 Q (F0 m 0 ls []) from key s.heap [] hP hD va_S.rf
  intro H locs hP hD hS
  refine lv_iconst (v := 1) hx hb dX8_ifPressed_0 (by decide) ?_
  refine lv_istore (lv' := [(4, .int 1), (0, .ref (b 0)), (1, .int v), (2, .int row9), (3, .int what)]) hx hb dX8_ifPressed_1 hl (by decide) rfl (fun ls hl => ?_)
  refine lv_iconst (v := 0) hx hb dX8_ifPressed_3 (by decide) ?_
  refine lv_istore (lv' := [(5, .int 0), (4, .int 1), (0, .ref (b 0)), (1, .int v), (2, .int row9), (3, .int what)]) hx hb dX8_ifPressed_4 hl (by decide) rfl (fun ls hl => ?_)
  have join1 : ∀ (m5 : Nat), m5 = min v.toNatClampNeg 5 → ∀ (H : Heap) (locs : List Loc) (ls : Array Slot), va_P D vwCl (modelW cy b ((rf, sn, ac, sp, ou), tx, (yn, yt, y3), di, ke, ik)) H → va_D A (modelW cy b ((rf, sn, ac, sp, ou), tx, (yn, yt, y3), di, ke, ik)) → va_S A s.heap H locs → lv_has ls 7 [(4, .int (nI (10 ^ m5))), (0, .ref (b 0)), (1, .int v), (2, .int row9), (3, .int what)] → W p l e rm_X8_ifPressed s m args below meth c H locs 0 0 Q (F0 m 31 ls []) := by
    intro m5 hm5 H locs ls hP hD hS hl
    refine lv_aload_n hx hb dX8_ifPressed_31 rfl (lv_at hl 1 rfl) ?_
    refine lv_iload_n hx hb dX8_ifPressed_32 rfl (lv_at hl 2 rfl) ?_
    refine lv_i2l (v := Int32.toInt64 v) hx hb dX8_ifPressed_33 rfl ?_
    refine lv_lconst (v := 1) hx hb dX8_ifPressed_34 (by decide) ?_
    refine lv_ldc2 (v := 5) hx hb hown (hts (.constantLong RX8 177 (5)) (by decide +kernel)) dX8_ifPressed_35 ?_
    refine rd_S (As := [.long (Int32.toInt64 v), .long 1, .long 5]) (rest := [.ref (b 0)]) hF (c_X8_in l D cy (Int32.toInt64 v) 1 5) (va_cwS 3 hts gX8_ifPressed_X8_in rfl rfl rfl (by decide +kernel) ⟨Nat.le_of_ble_eq_true rfl, Nat.le_of_ble_eq_true rfl⟩) hK (fun k q h => by simp at h) rfl hl.1 rfl (Nat.le_of_ble_eq_true rfl) dX8_ifPressed_38 ⟨Nat.le_of_ble_eq_true rfl, Nat.le_of_ble_eq_true rfl⟩ ?_
    refine lv_if_eq (tgt := 74) hx hb dX8_ifPressed_41 (by decide) (fun c_1 => ?_) (fun c_1 => ?_)
    · have c_1 := zb_eq.mp c_1
      refine lv_iconst (v := 1) hx hb dX8_ifPressed_74 (by decide) ?_
      refine wr_i (fun u => wj [[(b 0, .inr (5, [.int 1, .ref (b 1), .int sn, .ref (b 2), .ref (b 3), .ref (b 4), .ref (b 5), .int ac, .ref (b 6), .ref (b 7), .int sp, .int ou]))], [(b 1, .inl (cy 0, 120, .inl tx))], mW cy (b 2) yn, mW cy (b 3) yt, mW cy (b 4) y3, diW cy (b 5) 588 di, diW cy (b 6) 84 ke, [(b 7, .inl (cy 3, 2, .inl ik))]]) (va_runV (As := [.int 1]) (rest := []) hF (c_X8_refused l D cy b rf sn ac sp ou 1 H.size) (cwV 1 hts gX8_ifPressed_X8_refused rfl rfl rfl (by decide +kernel) ⟨Nat.le_of_ble_eq_true rfl, Nat.le_of_ble_eq_true rfl⟩) (wr_preV hK hP hD (zz_pick1 [[(b 0, .inr (5, [.int rf, .ref (b 1), .int sn, .ref (b 2), .ref (b 3), .ref (b 4), .ref (b 5), .int ac, .ref (b 6), .ref (b 7), .int sp, .int ou]))], [(b 1, .inl (cy 0, 120, .inl tx))], mW cy (b 2) yn, mW cy (b 3) yt, mW cy (b 4) y3, diW cy (b 5) 588 di, diW cy (b 6) 84 ke, [(b 7, .inl (cy 3, 2, .inl ik))]] 0 [1, 2, 3, 4, 5, 6, 7] (show List.Perm ([0] ++ [1, 2, 3, 4, 5, 6, 7]) (List.range 8) by decide) rfl rfl) 0 5 rfl rfl rfl) rfl rfl hl.1 rfl (lv_room (Nat.le_of_ble_eq_true rfl)) dX8_ifPressed_75 ⟨Nat.le_of_ble_eq_true rfl, Nat.le_of_ble_eq_true rfl⟩) hP hD hS hA (zz_pick1 [[(b 0, .inr (5, [.int rf, .ref (b 1), .int sn, .ref (b 2), .ref (b 3), .ref (b 4), .ref (b 5), .int ac, .ref (b 6), .ref (b 7), .int sp, .int ou]))], [(b 1, .inl (cy 0, 120, .inl tx))], mW cy (b 2) yn, mW cy (b 3) yt, mW cy (b 4) y3, diW cy (b 5) 588 di, diW cy (b 6) 84 ke, [(b 7, .inl (cy 3, 2, .inl ik))]] 0 [1, 2, 3, 4, 5, 6, 7] (show List.Perm ([0] ++ [1, 2, 3, 4, 5, 6, 7]) (List.range 8) by decide) rfl rfl) (fun _ => (zz_pick1 [[(b 0, .inr (5, [.int 1, .ref (b 1), .int sn, .ref (b 2), .ref (b 3), .ref (b 4), .ref (b 5), .int ac, .ref (b 6), .ref (b 7), .int sp, .int ou]))], [(b 1, .inl (cy 0, 120, .inl tx))], mW cy (b 2) yn, mW cy (b 3) yt, mW cy (b 4) y3, diW cy (b 5) 588 di, diW cy (b 6) 84 ke, [(b 7, .inl (cy 3, 2, .inl ik))]] 0 [1, 2, 3, 4, 5, 6, 7] (show List.Perm ([0] ++ [1, 2, 3, 4, 5, 6, 7]) (List.range 8) by decide) rfl rfl)) (fun r_2 u_3 H locs e_4 hP hD hS => ?_)
      obtain rfl := e_4
      have hP : va_P D vwCl (modelW cy b ((1, sn, ac, sp, ou), tx, (yn, yt, y3), di, ke, ik)) H := hP
      have hD : va_D A (modelW cy b ((1, sn, ac, sp, ou), tx, (yn, yt, y3), di, ke, ik)) := hD
      refine lv_if_eq (tgt := 83) hx hb dX8_ifPressed_78 (by decide) (fun c_5 => ?_) (fun c_5 => ?_)
      · exact absurd c_5 (by decide)
      · refine lv_iconst (v := 0) hx hb dX8_ifPressed_81 (by decide) ?_
        exact hret _ _ H locs _ ((1, sn, ac, sp, ou), tx, (yn, yt, y3), di, ke, ik) dX8_ifPressed_82 hP hD hS (mPost_t (K := (kIfp v row9 what)) (k := 1) (U := ((rf, sn, ac, sp, ou), tx, (yn, yt, y3), di, ke, ik)) (by simp only [kIfp, ← hm5, if_neg c_1, if_neg c_5]) (by decide))
    · have c_1 := zb_ne.mp c_1
      refine lv_iload_n hx hb dX8_ifPressed_44 rfl (lv_at hl 3 rfl) ?_
      refine lv_i2l (v := Int32.toInt64 row9) hx hb dX8_ifPressed_45 rfl ?_
      refine lv_lconst (v := 0) hx hb dX8_ifPressed_46 (by decide) ?_
      refine lv_iload hx hb dX8_ifPressed_47 (lv_at hl 0 rfl) ?_
      refine lv_iconst (v := 1) hx hb dX8_ifPressed_49 (by decide) ?_
      refine lv_isub hx hb dX8_ifPressed_50 ?_
      refine zz_top (y := nI (10 ^ m5 - 1)) (pk_sub (a := 10 ^ m5) (b := 1) (Nat.pow_pos (by decide))) ?_
      refine lv_i2l (v := Int32.toInt64 (nI (10 ^ m5 - 1))) hx hb dX8_ifPressed_51 rfl ?_
      refine rd_S (As := [.long (Int32.toInt64 row9), .long 0, .long (Int32.toInt64 (nI (10 ^ m5 - 1)))]) (rest := [.ref (b 0)]) hF (c_X8_in l D cy (Int32.toInt64 row9) 0 (Int32.toInt64 (nI (10 ^ m5 - 1)))) (va_cwS 3 hts gX8_ifPressed_X8_in rfl rfl rfl (by decide +kernel) ⟨Nat.le_of_ble_eq_true rfl, Nat.le_of_ble_eq_true rfl⟩) hK (fun k q h => by simp at h) rfl hl.1 rfl (Nat.le_of_ble_eq_true rfl) dX8_ifPressed_52 ⟨Nat.le_of_ble_eq_true rfl, Nat.le_of_ble_eq_true rfl⟩ ?_
      refine lv_if_eq (tgt := 74) hx hb dX8_ifPressed_55 (by decide) (fun c_6 => ?_) (fun c_6 => ?_)
      · have c_6 := zb_eq.mp c_6
        refine lv_iconst (v := 1) hx hb dX8_ifPressed_74 (by decide) ?_
        refine wr_i (fun u => wj [[(b 0, .inr (5, [.int 1, .ref (b 1), .int sn, .ref (b 2), .ref (b 3), .ref (b 4), .ref (b 5), .int ac, .ref (b 6), .ref (b 7), .int sp, .int ou]))], [(b 1, .inl (cy 0, 120, .inl tx))], mW cy (b 2) yn, mW cy (b 3) yt, mW cy (b 4) y3, diW cy (b 5) 588 di, diW cy (b 6) 84 ke, [(b 7, .inl (cy 3, 2, .inl ik))]]) (va_runV (As := [.int 1]) (rest := []) hF (c_X8_refused l D cy b rf sn ac sp ou 1 H.size) (cwV 1 hts gX8_ifPressed_X8_refused rfl rfl rfl (by decide +kernel) ⟨Nat.le_of_ble_eq_true rfl, Nat.le_of_ble_eq_true rfl⟩) (wr_preV hK hP hD (zz_pick1 [[(b 0, .inr (5, [.int rf, .ref (b 1), .int sn, .ref (b 2), .ref (b 3), .ref (b 4), .ref (b 5), .int ac, .ref (b 6), .ref (b 7), .int sp, .int ou]))], [(b 1, .inl (cy 0, 120, .inl tx))], mW cy (b 2) yn, mW cy (b 3) yt, mW cy (b 4) y3, diW cy (b 5) 588 di, diW cy (b 6) 84 ke, [(b 7, .inl (cy 3, 2, .inl ik))]] 0 [1, 2, 3, 4, 5, 6, 7] (show List.Perm ([0] ++ [1, 2, 3, 4, 5, 6, 7]) (List.range 8) by decide) rfl rfl) 0 5 rfl rfl rfl) rfl rfl hl.1 rfl (lv_room (Nat.le_of_ble_eq_true rfl)) dX8_ifPressed_75 ⟨Nat.le_of_ble_eq_true rfl, Nat.le_of_ble_eq_true rfl⟩) hP hD hS hA (zz_pick1 [[(b 0, .inr (5, [.int rf, .ref (b 1), .int sn, .ref (b 2), .ref (b 3), .ref (b 4), .ref (b 5), .int ac, .ref (b 6), .ref (b 7), .int sp, .int ou]))], [(b 1, .inl (cy 0, 120, .inl tx))], mW cy (b 2) yn, mW cy (b 3) yt, mW cy (b 4) y3, diW cy (b 5) 588 di, diW cy (b 6) 84 ke, [(b 7, .inl (cy 3, 2, .inl ik))]] 0 [1, 2, 3, 4, 5, 6, 7] (show List.Perm ([0] ++ [1, 2, 3, 4, 5, 6, 7]) (List.range 8) by decide) rfl rfl) (fun _ => (zz_pick1 [[(b 0, .inr (5, [.int 1, .ref (b 1), .int sn, .ref (b 2), .ref (b 3), .ref (b 4), .ref (b 5), .int ac, .ref (b 6), .ref (b 7), .int sp, .int ou]))], [(b 1, .inl (cy 0, 120, .inl tx))], mW cy (b 2) yn, mW cy (b 3) yt, mW cy (b 4) y3, diW cy (b 5) 588 di, diW cy (b 6) 84 ke, [(b 7, .inl (cy 3, 2, .inl ik))]] 0 [1, 2, 3, 4, 5, 6, 7] (show List.Perm ([0] ++ [1, 2, 3, 4, 5, 6, 7]) (List.range 8) by decide) rfl rfl)) (fun r_7 u_8 H locs e_9 hP hD hS => ?_)
        obtain rfl := e_9
        have hP : va_P D vwCl (modelW cy b ((1, sn, ac, sp, ou), tx, (yn, yt, y3), di, ke, ik)) H := hP
        have hD : va_D A (modelW cy b ((1, sn, ac, sp, ou), tx, (yn, yt, y3), di, ke, ik)) := hD
        refine lv_if_eq (tgt := 83) hx hb dX8_ifPressed_78 (by decide) (fun c_10 => ?_) (fun c_10 => ?_)
        · exact absurd c_10 (by decide)
        · refine lv_iconst (v := 0) hx hb dX8_ifPressed_81 (by decide) ?_
          exact hret _ _ H locs _ ((1, sn, ac, sp, ou), tx, (yn, yt, y3), di, ke, ik) dX8_ifPressed_82 hP hD hS (mPost_t (K := (kIfp v row9 what)) (k := 1) (U := ((rf, sn, ac, sp, ou), tx, (yn, yt, y3), di, ke, ik)) (by simp only [kIfp, ← hm5, if_pos c_1, if_neg c_6, if_neg c_10]) (by decide))
      · have c_6 := zb_ne.mp c_6
        refine lv_iload_n hx hb dX8_ifPressed_58 rfl (lv_at hl 4 rfl) ?_
        refine lv_i2l (v := Int32.toInt64 what) hx hb dX8_ifPressed_59 rfl ?_
        refine lv_lconst (v := 0) hx hb dX8_ifPressed_60 (by decide) ?_
        refine lv_ldc2 (v := 4) hx hb hown (hts (.constantLong RX8 46 (4)) (by decide +kernel)) dX8_ifPressed_61 ?_
        refine rd_S (As := [.long (Int32.toInt64 what), .long 0, .long 4]) (rest := [.ref (b 0)]) hF (c_X8_in l D cy (Int32.toInt64 what) 0 4) (va_cwS 3 hts gX8_ifPressed_X8_in rfl rfl rfl (by decide +kernel) ⟨Nat.le_of_ble_eq_true rfl, Nat.le_of_ble_eq_true rfl⟩) hK (fun k q h => by simp at h) rfl hl.1 rfl (Nat.le_of_ble_eq_true rfl) dX8_ifPressed_64 ⟨Nat.le_of_ble_eq_true rfl, Nat.le_of_ble_eq_true rfl⟩ ?_
        refine lv_if_eq (tgt := 74) hx hb dX8_ifPressed_67 (by decide) (fun c_11 => ?_) (fun c_11 => ?_)
        · have c_11 := zb_eq.mp c_11
          refine lv_iconst (v := 1) hx hb dX8_ifPressed_74 (by decide) ?_
          refine wr_i (fun u => wj [[(b 0, .inr (5, [.int 1, .ref (b 1), .int sn, .ref (b 2), .ref (b 3), .ref (b 4), .ref (b 5), .int ac, .ref (b 6), .ref (b 7), .int sp, .int ou]))], [(b 1, .inl (cy 0, 120, .inl tx))], mW cy (b 2) yn, mW cy (b 3) yt, mW cy (b 4) y3, diW cy (b 5) 588 di, diW cy (b 6) 84 ke, [(b 7, .inl (cy 3, 2, .inl ik))]]) (va_runV (As := [.int 1]) (rest := []) hF (c_X8_refused l D cy b rf sn ac sp ou 1 H.size) (cwV 1 hts gX8_ifPressed_X8_refused rfl rfl rfl (by decide +kernel) ⟨Nat.le_of_ble_eq_true rfl, Nat.le_of_ble_eq_true rfl⟩) (wr_preV hK hP hD (zz_pick1 [[(b 0, .inr (5, [.int rf, .ref (b 1), .int sn, .ref (b 2), .ref (b 3), .ref (b 4), .ref (b 5), .int ac, .ref (b 6), .ref (b 7), .int sp, .int ou]))], [(b 1, .inl (cy 0, 120, .inl tx))], mW cy (b 2) yn, mW cy (b 3) yt, mW cy (b 4) y3, diW cy (b 5) 588 di, diW cy (b 6) 84 ke, [(b 7, .inl (cy 3, 2, .inl ik))]] 0 [1, 2, 3, 4, 5, 6, 7] (show List.Perm ([0] ++ [1, 2, 3, 4, 5, 6, 7]) (List.range 8) by decide) rfl rfl) 0 5 rfl rfl rfl) rfl rfl hl.1 rfl (lv_room (Nat.le_of_ble_eq_true rfl)) dX8_ifPressed_75 ⟨Nat.le_of_ble_eq_true rfl, Nat.le_of_ble_eq_true rfl⟩) hP hD hS hA (zz_pick1 [[(b 0, .inr (5, [.int rf, .ref (b 1), .int sn, .ref (b 2), .ref (b 3), .ref (b 4), .ref (b 5), .int ac, .ref (b 6), .ref (b 7), .int sp, .int ou]))], [(b 1, .inl (cy 0, 120, .inl tx))], mW cy (b 2) yn, mW cy (b 3) yt, mW cy (b 4) y3, diW cy (b 5) 588 di, diW cy (b 6) 84 ke, [(b 7, .inl (cy 3, 2, .inl ik))]] 0 [1, 2, 3, 4, 5, 6, 7] (show List.Perm ([0] ++ [1, 2, 3, 4, 5, 6, 7]) (List.range 8) by decide) rfl rfl) (fun _ => (zz_pick1 [[(b 0, .inr (5, [.int 1, .ref (b 1), .int sn, .ref (b 2), .ref (b 3), .ref (b 4), .ref (b 5), .int ac, .ref (b 6), .ref (b 7), .int sp, .int ou]))], [(b 1, .inl (cy 0, 120, .inl tx))], mW cy (b 2) yn, mW cy (b 3) yt, mW cy (b 4) y3, diW cy (b 5) 588 di, diW cy (b 6) 84 ke, [(b 7, .inl (cy 3, 2, .inl ik))]] 0 [1, 2, 3, 4, 5, 6, 7] (show List.Perm ([0] ++ [1, 2, 3, 4, 5, 6, 7]) (List.range 8) by decide) rfl rfl)) (fun r_12 u_13 H locs e_14 hP hD hS => ?_)
          obtain rfl := e_14
          have hP : va_P D vwCl (modelW cy b ((1, sn, ac, sp, ou), tx, (yn, yt, y3), di, ke, ik)) H := hP
          have hD : va_D A (modelW cy b ((1, sn, ac, sp, ou), tx, (yn, yt, y3), di, ke, ik)) := hD
          refine lv_if_eq (tgt := 83) hx hb dX8_ifPressed_78 (by decide) (fun c_15 => ?_) (fun c_15 => ?_)
          · exact absurd c_15 (by decide)
          · refine lv_iconst (v := 0) hx hb dX8_ifPressed_81 (by decide) ?_
            exact hret _ _ H locs _ ((1, sn, ac, sp, ou), tx, (yn, yt, y3), di, ke, ik) dX8_ifPressed_82 hP hD hS (mPost_t (K := (kIfp v row9 what)) (k := 1) (U := ((rf, sn, ac, sp, ou), tx, (yn, yt, y3), di, ke, ik)) (by simp only [kIfp, ← hm5, if_pos c_1, if_pos c_6, if_neg c_11, if_neg c_15]) (by decide))
        · have c_11 := zb_ne.mp c_11
          refine lv_iconst (v := 0) hx hb dX8_ifPressed_70 (by decide) ?_
          refine lv_goto (tgt := 75) hx hb dX8_ifPressed_71 (by decide) ?_
          refine wr_i (fun u => wj [[(b 0, .inr (5, [.int 0, .ref (b 1), .int sn, .ref (b 2), .ref (b 3), .ref (b 4), .ref (b 5), .int ac, .ref (b 6), .ref (b 7), .int sp, .int ou]))], [(b 1, .inl (cy 0, 120, .inl tx))], mW cy (b 2) yn, mW cy (b 3) yt, mW cy (b 4) y3, diW cy (b 5) 588 di, diW cy (b 6) 84 ke, [(b 7, .inl (cy 3, 2, .inl ik))]]) (va_runV (As := [.int 0]) (rest := []) hF (c_X8_refused l D cy b rf sn ac sp ou 0 H.size) (cwV 1 hts gX8_ifPressed_X8_refused rfl rfl rfl (by decide +kernel) ⟨Nat.le_of_ble_eq_true rfl, Nat.le_of_ble_eq_true rfl⟩) (wr_preV hK hP hD (zz_pick1 [[(b 0, .inr (5, [.int rf, .ref (b 1), .int sn, .ref (b 2), .ref (b 3), .ref (b 4), .ref (b 5), .int ac, .ref (b 6), .ref (b 7), .int sp, .int ou]))], [(b 1, .inl (cy 0, 120, .inl tx))], mW cy (b 2) yn, mW cy (b 3) yt, mW cy (b 4) y3, diW cy (b 5) 588 di, diW cy (b 6) 84 ke, [(b 7, .inl (cy 3, 2, .inl ik))]] 0 [1, 2, 3, 4, 5, 6, 7] (show List.Perm ([0] ++ [1, 2, 3, 4, 5, 6, 7]) (List.range 8) by decide) rfl rfl) 0 5 rfl rfl rfl) rfl rfl hl.1 rfl (lv_room (Nat.le_of_ble_eq_true rfl)) dX8_ifPressed_75 ⟨Nat.le_of_ble_eq_true rfl, Nat.le_of_ble_eq_true rfl⟩) hP hD hS hA (zz_pick1 [[(b 0, .inr (5, [.int rf, .ref (b 1), .int sn, .ref (b 2), .ref (b 3), .ref (b 4), .ref (b 5), .int ac, .ref (b 6), .ref (b 7), .int sp, .int ou]))], [(b 1, .inl (cy 0, 120, .inl tx))], mW cy (b 2) yn, mW cy (b 3) yt, mW cy (b 4) y3, diW cy (b 5) 588 di, diW cy (b 6) 84 ke, [(b 7, .inl (cy 3, 2, .inl ik))]] 0 [1, 2, 3, 4, 5, 6, 7] (show List.Perm ([0] ++ [1, 2, 3, 4, 5, 6, 7]) (List.range 8) by decide) rfl rfl) (fun _ => (zz_pick1 [[(b 0, .inr (5, [.int 0, .ref (b 1), .int sn, .ref (b 2), .ref (b 3), .ref (b 4), .ref (b 5), .int ac, .ref (b 6), .ref (b 7), .int sp, .int ou]))], [(b 1, .inl (cy 0, 120, .inl tx))], mW cy (b 2) yn, mW cy (b 3) yt, mW cy (b 4) y3, diW cy (b 5) 588 di, diW cy (b 6) 84 ke, [(b 7, .inl (cy 3, 2, .inl ik))]] 0 [1, 2, 3, 4, 5, 6, 7] (show List.Perm ([0] ++ [1, 2, 3, 4, 5, 6, 7]) (List.range 8) by decide) rfl rfl)) (fun r_16 u_17 H locs e_18 hP hD hS => ?_)
          obtain rfl := e_18
          have hP : va_P D vwCl (modelW cy b ((0, sn, ac, sp, ou), tx, (yn, yt, y3), di, ke, ik)) H := hP
          have hD : va_D A (modelW cy b ((0, sn, ac, sp, ou), tx, (yn, yt, y3), di, ke, ik)) := hD
          refine lv_if_eq (tgt := 83) hx hb dX8_ifPressed_78 (by decide) (fun c_19 => ?_) (fun c_19 => ?_)
          · have hK0 : kIfp v row9 what = 0 := by simp only [kIfp, ← hm5, if_pos c_1, if_pos c_6, if_pos c_11, if_pos c_19]
            obtain ⟨m9, hm1, hm9, rfl⟩ := inL_1 (k := 5) (by decide) rfl c_1
            rw [nI_clamp (show m9 < 2 ^ 31 by omega)] at hm5
            obtain rfl : m5 = m9 := by omega
            have hp5 := p10_le (e := m5) (m := 5) (by omega)
            obtain ⟨r9, hr9, rfl⟩ := inL_nat (k := 10 ^ m5 - 1) (by omega) rfl c_6
            refine lv_aload_n hx hb dX8_ifPressed_83 rfl (lv_at hl 1 rfl) ?_
            refine va_get (ci := 5) (v := .ref (b 2)) (C := RX8) (T := TX8) (N := 12) hx hb hts hin_X8 hown hK hP 0 rfl rfl 3 (by decide) (hts (.fieldLink RX8 13 "ButtonGuestsModel" "now" "[I") (by decide +kernel)) (fun _ h9 => h9) rfl dX8_ifPressed_84 ?_
            refine lv_iconst (v := 0) hx hb dX8_ifPressed_87 (by decide) ?_
            refine lv_aload_n hx hb dX8_ifPressed_88 rfl (lv_at hl 1 rfl) ?_
            refine va_get (ci := 5) (v := .ref (b 3)) (C := RX8) (T := TX8) (N := 12) hx hb hts hin_X8 hown hK hP 0 rfl rfl 4 (by decide) (hts (.fieldLink RX8 16 "ButtonGuestsModel" "trial" "[I") (by decide +kernel)) (fun _ h9 => h9) rfl dX8_ifPressed_89 ?_
            refine lv_iconst (v := 0) hx hb dX8_ifPressed_92 (by decide) ?_
            refine wr_v (fun u => wj [[(b 0, .inr (5, [.int 0, .ref (b 1), .int sn, .ref (b 2), .ref (b 3), .ref (b 4), .ref (b 5), .int ac, .ref (b 6), .ref (b 7), .int sp, .int ou]))], [(b 1, .inl (cy 0, 120, .inl tx))], mW cy (b 2) yn, mW cy (b 3) yn, mW cy (b 4) y3, diW cy (b 5) 588 di, diW cy (b 6) 84 ke, [(b 7, .inl (cy 3, 2, .inl ik))]]) (va_runS (As := [.ref (b 2), .int 0, .ref (b 3), .int 0]) (rest := []) hF (c_X8_copyState_s l D cy (b 2) (b 3) 42 0 (mOf yn) yt yn (by omega) (by omega) (fun j _ => by rw [Nat.zero_add]) H.size) (va_cwS 4 hts gX8_ifPressed_X8_copyState rfl rfl rfl (by decide +kernel) ⟨Nat.le_of_ble_eq_true rfl, Nat.le_of_ble_eq_true rfl⟩) (wr_preS hK hP hD (zz_pick2 [[(b 0, .inr (5, [.int 0, .ref (b 1), .int sn, .ref (b 2), .ref (b 3), .ref (b 4), .ref (b 5), .int ac, .ref (b 6), .ref (b 7), .int sp, .int ou]))], [(b 1, .inl (cy 0, 120, .inl tx))], mW cy (b 2) yn, mW cy (b 3) yt, mW cy (b 4) y3, diW cy (b 5) 588 di, diW cy (b 6) 84 ke, [(b 7, .inl (cy 3, 2, .inl ik))]] 2 3 [0, 1, 4, 5, 6, 7] (show List.Perm ([2, 3] ++ [0, 1, 4, 5, 6, 7]) (List.range 8) by decide) rfl rfl rfl)) rfl rfl hl.1 rfl (lv_room (Nat.le_of_ble_eq_true rfl)) dX8_ifPressed_93 ⟨Nat.le_of_ble_eq_true rfl, Nat.le_of_ble_eq_true rfl⟩) hP hD hS hA (zz_pick2 [[(b 0, .inr (5, [.int 0, .ref (b 1), .int sn, .ref (b 2), .ref (b 3), .ref (b 4), .ref (b 5), .int ac, .ref (b 6), .ref (b 7), .int sp, .int ou]))], [(b 1, .inl (cy 0, 120, .inl tx))], mW cy (b 2) yn, mW cy (b 3) yt, mW cy (b 4) y3, diW cy (b 5) 588 di, diW cy (b 6) 84 ke, [(b 7, .inl (cy 3, 2, .inl ik))]] 2 3 [0, 1, 4, 5, 6, 7] (show List.Perm ([2, 3] ++ [0, 1, 4, 5, 6, 7]) (List.range 8) by decide) rfl rfl rfl) (fun _ => (zz_pick2 [[(b 0, .inr (5, [.int 0, .ref (b 1), .int sn, .ref (b 2), .ref (b 3), .ref (b 4), .ref (b 5), .int ac, .ref (b 6), .ref (b 7), .int sp, .int ou]))], [(b 1, .inl (cy 0, 120, .inl tx))], mW cy (b 2) yn, mW cy (b 3) yn, mW cy (b 4) y3, diW cy (b 5) 588 di, diW cy (b 6) 84 ke, [(b 7, .inl (cy 3, 2, .inl ik))]] 2 3 [0, 1, 4, 5, 6, 7] (show List.Perm ([2, 3] ++ [0, 1, 4, 5, 6, 7]) (List.range 8) by decide) rfl rfl rfl)) (fun u_20 H locs e_21 hP hD hS => ?_)
            have hP : va_P D vwCl (modelW cy b ((0, sn, ac, sp, ou), tx, (yn, yn, y3), di, ke, ik)) H := hP
            have hD : va_D A (modelW cy b ((0, sn, ac, sp, ou), tx, (yn, yn, y3), di, ke, ik)) := hD
            refine lv_iconst (v := 0) hx hb dX8_ifPressed_96 (by decide) ?_
            refine lv_istore (lv' := [(5, .int 0), (4, .int (nI (10 ^ m5))), (0, .ref (b 0)), (1, .int (nI m5)), (2, .int (nI r9)), (3, .int what)]) hx hb dX8_ifPressed_97 hl (by decide) rfl (fun ls hl => ?_)
            have loop2 : ∀ (k i u4 : Nat) (z w : HS), i ≤ m5 → m5 + 1 ≤ i + k → u4 = 10 ^ (m5 - i) → RelN n z w → lpN (sPr m5 r9) (m5 - i) i z = lpN (sPr m5 r9) m5 0 xn → ∀ (H : Heap) (locs : List Loc) (ls : Array Slot), va_P D vwCl (modelW cy b ((0, sn, ac, sp, ou), tx, (yn, w, y3), di, ke, ik)) H → va_D A (modelW cy b ((0, sn, ac, sp, ou), tx, (yn, w, y3), di, ke, ik)) → va_S A s.heap H locs → lv_has ls 7 [(5, .int (nI i)), (4, .int (nI u4)), (0, .ref (b 0)), (1, .int (nI m5)), (2, .int (nI r9)), (3, .int what)] → W p l e rm_X8_ifPressed s m args below meth c H locs 0 0 Q (F0 m 99 ls []) := by
              intro k
              induction k with
              | zero =>
                intro i u4 z w hi hk hu4 hRw hv
                exact absurd hk (by omega)
              | succ k ih =>
                intro i u4 z w hi hk hu4 hRw hv H locs ls hP hD hS hl
                refine lv_iload hx hb dX8_ifPressed_99 (lv_at hl 0 rfl) ?_
                refine lv_iload_n hx hb dX8_ifPressed_101 rfl (lv_at hl 3 rfl) ?_
                refine lv_icmp_ge (tgt := 160) hx hb dX8_ifPressed_102 (by decide) (fun c_22 => ?_) (fun c_22 => ?_)
                · have c_22 : m5 ≤ i := (nI_leI (a := m5) (b := i) (by omega) (by omega)).mp c_22
                  have hend := lpN_end c_22 hv
                  refine lv_iload_n hx hb dX8_ifPressed_160 rfl (lv_at hl 5 rfl) ?_
                  by_cases c_23 : what = 0
                  · refine lv_tableIn (off := 31) (tgt := 192) hx hb dX8_ifPressed_161 (by rw [c_23]; decide) (by rw [c_23]; decide) (by rw [c_23]; rfl) (by decide) ?_
                    refine lv_aload_n hx hb dX8_ifPressed_192 rfl (lv_at hl 2 rfl) ?_
                    refine va_get (ci := 5) (v := .ref (b 3)) (C := RX8) (T := TX8) (N := 12) hx hb hts hin_X8 hown hK hP 0 rfl rfl 4 (by decide) (hts (.fieldLink RX8 16 "ButtonGuestsModel" "trial" "[I") (by decide +kernel)) (fun _ h9 => h9) rfl dX8_ifPressed_193 ?_
                    refine lv_iconst (v := 3) hx hb dX8_ifPressed_196 (by decide) ?_
                    refine zz_iald hx hb hK hP 3 0 3 rfl rfl rfl ⟨by decide, Nat.le_of_ble_eq_true rfl⟩ dX8_ifPressed_197 ?_
                    refine zz_top (y := w.1.2.2.2.1) rfl ?_
                    refine lv_aload_n hx hb dX8_ifPressed_198 rfl (lv_at hl 2 rfl) ?_
                    refine va_get (ci := 5) (v := .ref (b 2)) (C := RX8) (T := TX8) (N := 12) hx hb hts hin_X8 hown hK hP 0 rfl rfl 3 (by decide) (hts (.fieldLink RX8 13 "ButtonGuestsModel" "now" "[I") (by decide +kernel)) (fun _ h9 => h9) rfl dX8_ifPressed_199 ?_
                    refine lv_iconst (v := 3) hx hb dX8_ifPressed_202 (by decide) ?_
                    refine zz_iald hx hb hK hP 2 0 3 rfl rfl rfl ⟨by decide, Nat.le_of_ble_eq_true rfl⟩ dX8_ifPressed_203 ?_
                    refine zz_top (y := yn.1.2.2.2.1) rfl ?_
                    refine lv_isub hx hb dX8_ifPressed_204 ?_
                    exact hret _ _ H locs _ ((0, sn, ac, sp, ou), tx, (yn, w, y3), di, ke, ik) dX8_ifPressed_205 hP hD hS (mPost_r hK0 (by rw [nI_clamp (show m5 < 2 ^ 31 by omega), nI_clamp (show r9 < 2 ^ 31 by omega), ← hend]; simp only [vIfp, if_pos c_23, hRw.2.1.1, hR.2.1.1]) rfl)
                  by_cases c_24 : what = 1
                  · refine lv_tableIn (off := 45) (tgt := 206) hx hb dX8_ifPressed_161 (by rw [c_24]; decide) (by rw [c_24]; decide) (by rw [c_24]; rfl) (by decide) ?_
                    refine lv_aload_n hx hb dX8_ifPressed_206 rfl (lv_at hl 2 rfl) ?_
                    refine va_get (ci := 5) (v := .ref (b 3)) (C := RX8) (T := TX8) (N := 12) hx hb hts hin_X8 hown hK hP 0 rfl rfl 4 (by decide) (hts (.fieldLink RX8 16 "ButtonGuestsModel" "trial" "[I") (by decide +kernel)) (fun _ h9 => h9) rfl dX8_ifPressed_207 ?_
                    refine lv_iconst (v := 2) hx hb dX8_ifPressed_210 (by decide) ?_
                    refine zz_iald hx hb hK hP 3 0 2 rfl rfl rfl ⟨by decide, Nat.le_of_ble_eq_true rfl⟩ dX8_ifPressed_211 ?_
                    refine zz_top (y := w.1.2.2.1) rfl ?_
                    refine lv_aload_n hx hb dX8_ifPressed_212 rfl (lv_at hl 2 rfl) ?_
                    refine va_get (ci := 5) (v := .ref (b 2)) (C := RX8) (T := TX8) (N := 12) hx hb hts hin_X8 hown hK hP 0 rfl rfl 3 (by decide) (hts (.fieldLink RX8 13 "ButtonGuestsModel" "now" "[I") (by decide +kernel)) (fun _ h9 => h9) rfl dX8_ifPressed_213 ?_
                    refine lv_iconst (v := 2) hx hb dX8_ifPressed_216 (by decide) ?_
                    refine zz_iald hx hb hK hP 2 0 2 rfl rfl rfl ⟨by decide, Nat.le_of_ble_eq_true rfl⟩ dX8_ifPressed_217 ?_
                    refine zz_top (y := yn.1.2.2.1) rfl ?_
                    refine lv_isub hx hb dX8_ifPressed_218 ?_
                    exact hret _ _ H locs _ ((0, sn, ac, sp, ou), tx, (yn, w, y3), di, ke, ik) dX8_ifPressed_219 hP hD hS (mPost_r hK0 (by rw [nI_clamp (show m5 < 2 ^ 31 by omega), nI_clamp (show r9 < 2 ^ 31 by omega), ← hend]; simp only [vIfp, if_neg c_23, if_pos c_24, hRw.2.1.1, hR.2.1.1]) rfl)
                  by_cases c_25 : what = 2
                  · refine lv_tableIn (off := 59) (tgt := 220) hx hb dX8_ifPressed_161 (by rw [c_25]; decide) (by rw [c_25]; decide) (by rw [c_25]; rfl) (by decide) ?_
                    refine lv_aload_n hx hb dX8_ifPressed_220 rfl (lv_at hl 2 rfl) ?_
                    refine va_get (ci := 5) (v := .ref (b 3)) (C := RX8) (T := TX8) (N := 12) hx hb hts hin_X8 hown hK hP 0 rfl rfl 4 (by decide) (hts (.fieldLink RX8 16 "ButtonGuestsModel" "trial" "[I") (by decide +kernel)) (fun _ h9 => h9) rfl dX8_ifPressed_221 ?_
                    refine rd_S (As := [.ref (b 3)]) (rest := []) hF (c_X8_allGrudges l D cy (b 3) n hn w (hRw.gy) ) (va_cwS 1 hts gX8_ifPressed_X8_allGrudges rfl rfl rfl (by decide +kernel) ⟨Nat.le_of_ble_eq_true rfl, Nat.le_of_ble_eq_true rfl⟩) hK (hP.sub [3] rfl) rfl hl.1 rfl (Nat.le_of_ble_eq_true rfl) dX8_ifPressed_224 ⟨Nat.le_of_ble_eq_true rfl, Nat.le_of_ble_eq_true rfl⟩ ?_
                    refine zz_top (y := hAG n z) (rel_ag hRw.2.1) ?_
                    exact hret _ _ H locs _ ((0, sn, ac, sp, ou), tx, (yn, w, y3), di, ke, ik) dX8_ifPressed_227 hP hD hS (mPost_r hK0 (by rw [nI_clamp (show m5 < 2 ^ 31 by omega), nI_clamp (show r9 < 2 ^ 31 by omega), ← hend]; simp only [vIfp, if_neg c_23, if_neg c_24, if_pos c_25, hRw.2.1.1, hR.2.1.1]) rfl)
                  by_cases c_26 : what = 3
                  · refine lv_tableIn (off := 67) (tgt := 228) hx hb dX8_ifPressed_161 (by rw [c_26]; decide) (by rw [c_26]; decide) (by rw [c_26]; rfl) (by decide) ?_
                    refine lv_aload_n hx hb dX8_ifPressed_228 rfl (lv_at hl 2 rfl) ?_
                    refine va_get (ci := 5) (v := .ref (b 3)) (C := RX8) (T := TX8) (N := 12) hx hb hts hin_X8 hown hK hP 0 rfl rfl 4 (by decide) (hts (.fieldLink RX8 16 "ButtonGuestsModel" "trial" "[I") (by decide +kernel)) (fun _ h9 => h9) rfl dX8_ifPressed_229 ?_
                    refine lv_iconst (v := 2) hx hb dX8_ifPressed_232 (by decide) ?_
                    refine rd_S (As := [.ref (b 3), .int 2]) (rest := []) hF (c_X8_inState l D cy (b 3) n hn w (hRw.gy) 2) (va_cwS 2 hts gX8_ifPressed_X8_inState rfl rfl rfl (by decide +kernel) ⟨Nat.le_of_ble_eq_true rfl, Nat.le_of_ble_eq_true rfl⟩) hK (hP.sub [3] rfl) rfl hl.1 rfl (Nat.le_of_ble_eq_true rfl) dX8_ifPressed_233 ⟨Nat.le_of_ble_eq_true rfl, Nat.le_of_ble_eq_true rfl⟩ ?_
                    refine zz_top (y := hGI n z 2) (rel_gi hRw.2.1) ?_
                    exact hret _ _ H locs _ ((0, sn, ac, sp, ou), tx, (yn, w, y3), di, ke, ik) dX8_ifPressed_236 hP hD hS (mPost_r hK0 (by rw [nI_clamp (show m5 < 2 ^ 31 by omega), nI_clamp (show r9 < 2 ^ 31 by omega), ← hend]; simp only [vIfp, if_neg c_23, if_neg c_24, if_neg c_25, if_pos c_26, hRw.2.1.1, hR.2.1.1]) rfl)
                  have hsw : (what).toInt < 0 ∨ 3 < (what).toInt := by
                    have q0 := fun (v9 : Int32) (h : ¬ what = v9) => fun (q : (what).toInt = v9.toInt) => h (Int32.toInt_inj.mp q)
                    have q_c_23 : ¬ (what).toInt = 0 := q0 0 c_23
                    have q_c_24 : ¬ (what).toInt = 1 := q0 1 c_24
                    have q_c_25 : ¬ (what).toInt = 2 := q0 2 c_25
                    have q_c_26 : ¬ (what).toInt = 3 := q0 3 c_26
                    omega
                  refine lv_tableOut (tgt := 237) hx hb dX8_ifPressed_161 hsw (by decide) ?_
                  refine lv_aload_n hx hb dX8_ifPressed_237 rfl (lv_at hl 2 rfl) ?_
                  refine va_get (ci := 5) (v := .ref (b 3)) (C := RX8) (T := TX8) (N := 12) hx hb hts hin_X8 hown hK hP 0 rfl rfl 4 (by decide) (hts (.fieldLink RX8 16 "ButtonGuestsModel" "trial" "[I") (by decide +kernel)) (fun _ h9 => h9) rfl dX8_ifPressed_238 ?_
                  refine lv_iconst (v := 1) hx hb dX8_ifPressed_241 (by decide) ?_
                  refine zz_iald hx hb hK hP 3 0 1 rfl rfl rfl ⟨by decide, Nat.le_of_ble_eq_true rfl⟩ dX8_ifPressed_242 ?_
                  refine zz_top (y := w.1.2.1) rfl ?_
                  exact hret _ _ H locs _ ((0, sn, ac, sp, ou), tx, (yn, w, y3), di, ke, ik) dX8_ifPressed_243 hP hD hS (mPost_r hK0 (by rw [nI_clamp (show m5 < 2 ^ 31 by omega), nI_clamp (show r9 < 2 ^ 31 by omega), ← hend]; simp only [vIfp, if_neg c_23, if_neg c_24, if_neg c_25, if_neg c_26, hRw.2.1.1, hR.2.1.1]) rfl)
                · have c_22 : ¬ m5 ≤ i := fun q => c_22 ((nI_leI (a := m5) (b := i) (by omega) (by omega)).mpr q)
                  have hlt : i < m5 := by omega
                  have hu5 : u4 / 10 = 10 ^ (m5 - 1 - i) := by rw [hu4, show m5 - i = (m5 - 1 - i) + 1 by omega, Nat.pow_succ, Nat.mul_div_cancel _ (by decide)]
                  have hup : 0 < 10 ^ (m5 - 1 - i) := Nat.pow_pos (by decide)
                  have hup5 := p10_le (e := m5 - 1 - i) (m := 5) (by omega)
                  obtain ⟨q9, hq9⟩ : ∃ q, q = r9 / 10 ^ (m5 - 1 - i) := ⟨_, rfl⟩
                  have hq5 : q9 ≤ r9 := by rw [hq9]; exact Nat.div_le_self _ _
                  have hub := p10_le (e := m5 - i) (m := 5) (by omega)
                  rw [← hu4] at hub
                  refine lv_iload hx hb dX8_ifPressed_105 (lv_at hl 1 rfl) ?_
                  refine lv_bipush (v := 10) hx hb dX8_ifPressed_107 (by decide) ?_
                  refine lv_idiv hx hb dX8_ifPressed_109 (by decide) ?_
                  refine zz_top (y := nI (u4 / 10)) (pk_div (by omega) (by decide) (by decide)) ?_
                  refine lv_istore (lv' := [(4, .int (nI (u4 / 10))), (5, .int (nI i)), (0, .ref (b 0)), (1, .int (nI m5)), (2, .int (nI r9)), (3, .int what)]) hx hb dX8_ifPressed_110 hl (by decide) rfl (fun ls hl => ?_)
                  refine lv_iload_n hx hb dX8_ifPressed_112 rfl (lv_at hl 4 rfl) ?_
                  refine lv_iload hx hb dX8_ifPressed_113 (lv_at hl 0 rfl) ?_
                  refine lv_idiv hx hb dX8_ifPressed_115 (nI_ne0 (by omega) (by omega)) ?_
                  refine zz_top (y := nI q9) (by rw [hq9, hu5]; exact pk_div (by omega) (by omega) (by omega)) ?_
                  refine lv_bipush (v := 10) hx hb dX8_ifPressed_116 (by decide) ?_
                  refine lv_irem hx hb dX8_ifPressed_118 (by decide) ?_
                  refine zz_top (y := nI (q9 % 10)) (pk_rem (by omega) (by decide) (by decide)) ?_
                  refine lv_istore (lv' := [(6, .int (nI (q9 % 10))), (4, .int (nI (u4 / 10))), (5, .int (nI i)), (0, .ref (b 0)), (1, .int (nI m5)), (2, .int (nI r9)), (3, .int what)]) hx hb dX8_ifPressed_119 hl (by decide) rfl (fun ls hl => ?_)
                  refine lv_aload_n hx hb dX8_ifPressed_121 rfl (lv_at hl 3 rfl) ?_
                  refine va_get (ci := 5) (v := .ref (b 3)) (C := RX8) (T := TX8) (N := 12) hx hb hts hin_X8 hown hK hP 0 rfl rfl 4 (by decide) (hts (.fieldLink RX8 16 "ButtonGuestsModel" "trial" "[I") (by decide +kernel)) (fun _ h9 => h9) rfl dX8_ifPressed_122 ?_
                  refine lv_iload hx hb dX8_ifPressed_125 (lv_at hl 0 rfl) ?_
                  refine rd_S (As := [.ref (b 3), .int (nI (q9 % 10))]) (rest := []) hF (c_X8_isGuest l D cy (b 3) n hn w (hRw.gy) (nI (q9 % 10))) (va_cwS 2 hts gX8_ifPressed_X8_isGuest rfl rfl rfl (by decide +kernel) ⟨Nat.le_of_ble_eq_true rfl, Nat.le_of_ble_eq_true rfl⟩) hK (hP.sub [3] rfl) rfl hl.1 rfl (Nat.le_of_ble_eq_true rfl) dX8_ifPressed_127 ⟨Nat.le_of_ble_eq_true rfl, Nat.le_of_ble_eq_true rfl⟩ ?_
                  refine zz_top (y := zb (isG (nI n) (nI (q9 % 10)))) (by rw [hRw.gy]) ?_
                  refine lv_if_eq (tgt := 154) hx hb dX8_ifPressed_130 (by decide) (fun c_27 => ?_) (fun c_27 => ?_)
                  · have c_27 := zb_eq.mp c_27
                    refine lv_iinc (v := nI (i + 1)) (lv' := [(5, .int (nI (i + 1))), (6, .int (nI (q9 % 10))), (4, .int (nI (u4 / 10))), (0, .ref (b 0)), (1, .int (nI m5)), (2, .int (nI r9)), (3, .int what)]) hx hb dX8_ifPressed_154 hl (k := 2) rfl (nI_add (i) 1) (by decide) rfl (fun ls hl => ?_)
                    refine lv_goto (tgt := 99) hx hb dX8_ifPressed_157 (by decide) ?_
                    exact ih (i + 1) (u4 / 10) z w (by omega) (by omega) (by rw [hu5]; congr 1; omega) hRw (lpN_next (by omega) hv (spr_0 hq9 (by rw [reas_no hRw.1 c_27]; decide))) _ _ _ hP hD hS (lv_sub hl [0, 2, 3, 4, 5, 6] rfl)
                  · have c_27 := zb_ne.mp c_27
                    have hgl := isG_lt hn (by omega) c_27
                    refine lv_aload_n hx hb dX8_ifPressed_133 rfl (lv_at hl 3 rfl) ?_
                    refine va_get (ci := 5) (v := .ref (b 3)) (C := RX8) (T := TX8) (N := 12) hx hb hts hin_X8 hown hK hP 0 rfl rfl 4 (by decide) (hts (.fieldLink RX8 16 "ButtonGuestsModel" "trial" "[I") (by decide +kernel)) (fun _ h9 => h9) rfl dX8_ifPressed_134 ?_
                    refine lv_iload hx hb dX8_ifPressed_137 (lv_at hl 0 rfl) ?_
                    refine rd_S (As := [.ref (b 3), .int (nI (q9 % 10))]) (rest := []) hF (c_X8_reason l D cy (b 3) n hn w (hRw.gy) (q9 % 10) (by omega)) (va_cwS 2 hts gX8_ifPressed_X8_reason rfl rfl rfl (by decide +kernel) ⟨Nat.le_of_ble_eq_true rfl, Nat.le_of_ble_eq_true rfl⟩) hK (hP.sub [3] rfl) rfl hl.1 rfl (Nat.le_of_ble_eq_true rfl) dX8_ifPressed_139 ⟨Nat.le_of_ble_eq_true rfl, Nat.le_of_ble_eq_true rfl⟩ ?_
                    refine zz_top (y := hReas z (nI (q9 % 10))) (rel_reas hn hRw (by omega)) ?_
                    refine lv_if_ne (tgt := 154) hx hb dX8_ifPressed_142 (by decide) (fun c_28 => ?_) (fun c_28 => ?_)
                    · have c_28 : ¬ (hReas z (nI (q9 % 10))) = 0 := c_28
                      refine lv_iinc (v := nI (i + 1)) (lv' := [(5, .int (nI (i + 1))), (6, .int (nI (q9 % 10))), (4, .int (nI (u4 / 10))), (0, .ref (b 0)), (1, .int (nI m5)), (2, .int (nI r9)), (3, .int what)]) hx hb dX8_ifPressed_154 hl (k := 2) rfl (nI_add (i) 1) (by decide) rfl (fun ls hl => ?_)
                      refine lv_goto (tgt := 99) hx hb dX8_ifPressed_157 (by decide) ?_
                      exact ih (i + 1) (u4 / 10) z w (by omega) (by omega) (by rw [hu5]; congr 1; omega) hRw (lpN_next (by omega) hv (spr_0 hq9 c_28)) _ _ _ hP hD hS (lv_sub hl [0, 2, 3, 4, 5, 6] rfl)
                    · have c_28 : (hReas z (nI (q9 % 10))) = 0 := c_28
                      refine lv_aload_n hx hb dX8_ifPressed_145 rfl (lv_at hl 3 rfl) ?_
                      refine va_get (ci := 5) (v := .ref (b 3)) (C := RX8) (T := TX8) (N := 12) hx hb hts hin_X8 hown hK hP 0 rfl rfl 4 (by decide) (hts (.fieldLink RX8 16 "ButtonGuestsModel" "trial" "[I") (by decide +kernel)) (fun _ h9 => h9) rfl dX8_ifPressed_146 ?_
                      refine lv_iload hx hb dX8_ifPressed_149 (lv_at hl 0 rfl) ?_
                      refine wr_v (fun u => wj [[(b 0, .inr (5, [.int 0, .ref (b 1), .int sn, .ref (b 2), .ref (b 3), .ref (b 4), .ref (b 5), .int ac, .ref (b 6), .ref (b 7), .int sp, .int ou]))], [(b 1, .inl (cy 0, 120, .inl tx))], mW cy (b 2) yn, mW cy (b 3) u, mW cy (b 4) y3, diW cy (b 5) 588 di, diW cy (b 6) 84 ke, [(b 7, .inl (cy 3, 2, .inl ik))]]) (va_runS (As := [.ref (b 3), .int (nI (q9 % 10))]) (rest := []) hF (c_X8_goes l D cy (b 3) n hn w (hRw.gy) H.size (q9 % 10) (by omega) (hRw.bu (by omega)) hRw.fl) (va_cwS 2 hts gX8_ifPressed_X8_goes rfl rfl rfl (by decide +kernel) ⟨Nat.le_of_ble_eq_true rfl, Nat.le_of_ble_eq_true rfl⟩) (wr_preS hK hP hD (zz_pick1 [[(b 0, .inr (5, [.int 0, .ref (b 1), .int sn, .ref (b 2), .ref (b 3), .ref (b 4), .ref (b 5), .int ac, .ref (b 6), .ref (b 7), .int sp, .int ou]))], [(b 1, .inl (cy 0, 120, .inl tx))], mW cy (b 2) yn, mW cy (b 3) w, mW cy (b 4) y3, diW cy (b 5) 588 di, diW cy (b 6) 84 ke, [(b 7, .inl (cy 3, 2, .inl ik))]] 3 [0, 1, 2, 4, 5, 6, 7] (show List.Perm ([3] ++ [0, 1, 2, 4, 5, 6, 7]) (List.range 8) by decide) rfl rfl)) rfl rfl hl.1 rfl (lv_room (Nat.le_of_ble_eq_true rfl)) dX8_ifPressed_151 ⟨Nat.le_of_ble_eq_true rfl, Nat.le_of_ble_eq_true rfl⟩) hP hD hS hA (zz_pick1 [[(b 0, .inr (5, [.int 0, .ref (b 1), .int sn, .ref (b 2), .ref (b 3), .ref (b 4), .ref (b 5), .int ac, .ref (b 6), .ref (b 7), .int sp, .int ou]))], [(b 1, .inl (cy 0, 120, .inl tx))], mW cy (b 2) yn, mW cy (b 3) w, mW cy (b 4) y3, diW cy (b 5) 588 di, diW cy (b 6) 84 ke, [(b 7, .inl (cy 3, 2, .inl ik))]] 3 [0, 1, 2, 4, 5, 6, 7] (show List.Perm ([3] ++ [0, 1, 2, 4, 5, 6, 7]) (List.range 8) by decide) rfl rfl) (fun u => (zz_pick1 [[(b 0, .inr (5, [.int 0, .ref (b 1), .int sn, .ref (b 2), .ref (b 3), .ref (b 4), .ref (b 5), .int ac, .ref (b 6), .ref (b 7), .int sp, .int ou]))], [(b 1, .inl (cy 0, 120, .inl tx))], mW cy (b 2) yn, mW cy (b 3) u, mW cy (b 4) y3, diW cy (b 5) 588 di, diW cy (b 6) 84 ke, [(b 7, .inl (cy 3, 2, .inl ik))]] 3 [0, 1, 2, 4, 5, 6, 7] (show List.Perm ([3] ++ [0, 1, 2, 4, 5, 6, 7]) (List.range 8) by decide) rfl rfl)) (fun u_29 H locs e_30 hP hD hS => ?_)
                      subst e_30
                      have hP : va_P D vwCl (modelW cy b ((0, sn, ac, sp, ou), tx, (yn, (mGo n ((q9 % 10)) w), y3), di, ke, ik)) H := hP
                      have hD : va_D A (modelW cy b ((0, sn, ac, sp, ou), tx, (yn, (mGo n ((q9 % 10)) w), y3), di, ke, ik)) := hD
                      refine lv_iinc (v := nI (i + 1)) (lv' := [(5, .int (nI (i + 1))), (6, .int (nI (q9 % 10))), (4, .int (nI (u4 / 10))), (0, .ref (b 0)), (1, .int (nI m5)), (2, .int (nI r9)), (3, .int what)]) hx hb dX8_ifPressed_154 hl (k := 2) rfl (nI_add (i) 1) (by decide) rfl (fun ls hl => ?_)
                      refine lv_goto (tgt := 99) hx hb dX8_ifPressed_157 (by decide) ?_
                      exact ih (i + 1) (u4 / 10) (hGo n (q9 % 10) z) (mGo n ((q9 % 10)) w) (by omega) (by omega) (by rw [hu5]; congr 1; omega) (relN_go hRw (by omega)) (lpN_next (by omega) hv (spr_1 hRw hn hq9 c_28)) _ _ _ hP hD hS (lv_sub hl [0, 2, 3, 4, 5, 6] rfl)
            exact loop2 (m5 + 1) 0 (10 ^ m5) xn yn (Nat.zero_le _) (by omega) rfl hR rfl _ _ _ hP hD hS (lv_sub hl [0, 1, 2, 3, 4, 5] rfl)
          · exact absurd c_19 (by decide)
  have loop : ∀ (k i : Nat), i ≤ 5 → i ≤ v.toNatClampNeg → 6 ≤ i + k → ∀ (H : Heap) (locs : List Loc) (ls : Array Slot), va_P D vwCl (modelW cy b ((rf, sn, ac, sp, ou), tx, (yn, yt, y3), di, ke, ik)) H → va_D A (modelW cy b ((rf, sn, ac, sp, ou), tx, (yn, yt, y3), di, ke, ik)) → va_S A s.heap H locs → lv_has ls 7 [(5, .int (nI i)), (4, .int (nI (10 ^ i))), (0, .ref (b 0)), (1, .int v), (2, .int row9), (3, .int what)] → W p l e rm_X8_ifPressed s m args below meth c H locs 0 0 Q (F0 m 6 ls []) := by
    intro k
    induction k with
    | zero =>
      intro i hi hc hk
      exact absurd hk (by omega)
    | succ k ih =>
      intro i hi hc hk H locs ls hP hD hS hl
      refine lv_iload hx hb dX8_ifPressed_6 (lv_at hl 0 rfl) ?_
      refine lv_iload_n hx hb dX8_ifPressed_8 rfl (lv_at hl 3 rfl) ?_
      refine lv_icmp_ge (tgt := 31) hx hb dX8_ifPressed_9 (by decide) (fun c_31 => ?_) (fun c_31 => ?_)
      · have c_31 : v ≤ (nI i) := c_31
        exact join1 i (by have := le_clamp (by omega) c_31; omega) _ _ _ hP hD hS (lv_sub hl [1, 2, 3, 4, 5] rfl)
      · have c_31 : ¬ v ≤ (nI i) := c_31
        refine lv_iload hx hb dX8_ifPressed_12 (lv_at hl 0 rfl) ?_
        refine lv_iconst (v := 5) hx hb dX8_ifPressed_14 (by decide) ?_
        refine lv_icmp_ge (tgt := 31) hx hb dX8_ifPressed_15 (by decide) (fun c_32 => ?_) (fun c_32 => ?_)
        · have c_32 : 5 ≤ i := (nI_leI (a := 5) (b := i) (by omega) (by omega)).mp c_32
          exact join1 i (by omega) _ _ _ hP hD hS (lv_sub hl [1, 2, 3, 4, 5] rfl)
        · have c_32 : ¬ 5 ≤ i := fun q => c_32 ((nI_leI (a := 5) (b := i) (by omega) (by omega)).mpr q)
          refine lv_iload hx hb dX8_ifPressed_18 (lv_at hl 1 rfl) ?_
          refine lv_bipush (v := 10) hx hb dX8_ifPressed_20 (by decide) ?_
          refine lv_imul hx hb dX8_ifPressed_22 ?_
          refine zz_top (y := nI (10 ^ (i + 1))) (pk_mul (10 ^ i) 10) ?_
          refine lv_istore (lv' := [(4, .int (nI (10 ^ (i + 1)))), (5, .int (nI i)), (0, .ref (b 0)), (1, .int v), (2, .int row9), (3, .int what)]) hx hb dX8_ifPressed_23 hl (by decide) rfl (fun ls hl => ?_)
          refine lv_iinc (v := nI (i + 1)) (lv' := [(5, .int (nI (i + 1))), (4, .int (nI (10 ^ (i + 1)))), (0, .ref (b 0)), (1, .int v), (2, .int row9), (3, .int what)]) hx hb dX8_ifPressed_25 hl (k := 1) rfl (nI_add (i) 1) (by decide) rfl (fun ls hl => ?_)
          refine lv_goto (tgt := 6) hx hb dX8_ifPressed_28 (by decide) ?_
          exact ih (i + 1) (by omega) (lt_clamp (by omega) c_31) (by omega) _ _ _ hP hD hS (lv_sub hl [0, 1, 2, 3, 4, 5] rfl)
  exact loop 6 0 (by decide) (Nat.zero_le _) (by decide) _ _ _ hP hD hS (lv_sub hl [0, 1, 2, 3, 4, 5] rfl)
