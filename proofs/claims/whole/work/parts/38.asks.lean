/-! the reference's questions -/
def kFew (v : Int32) : Int32 := if inL v.toInt64 0 1 then 0 else 1
def sLS (y : HS) (f : Int32) : Nat → Int32 → Int32 := fun g a => a ||| (if mCol y 3 g = 0 then (if mCol y 4 g = f then 1 <<< (nI g &&& 31) else 0) else 0)
theorem ls_e {n : Nat} {x y : HS} {j : Nat} (hn : n ≤ 4) (h : RelN n x y) (hj : j < n) : (mCol y 0 j = y.1.2.1) ↔ (x.1.2.1 = x.2.2.1 j) := by
  show (y.2.2.1 j = y.1.2.1) ↔ _
  rw [← h.2.1.2.2.1, ← h.2.1.1]
  exact eq_comm
theorem ls_0 {n : Nat} {x y : HS} {j : Nat} (hn : n ≤ 4) (h : RelN n x y) (hj : j < n) (e : mCol y 0 j = y.1.2.1) : 0 = hStandR n x (nI j) := by
  unfold hStandR
  rw [h.1, if_pos (isG_nI hn hj), nI_clamp (by omega), if_pos ((ls_e hn h hj).mp e)]
theorem ls_1 {n : Nat} {x y : HS} {j : Nat} (hn : n ≤ 4) (h : RelN n x y) (hj : j < n) (e : ¬ mCol y 0 j = y.1.2.1) : lpN (sLS (mGo n j y) (mGo n j y).1.2.1) n 0 0 = hStandR n x (nI j) := by
  unfold hStandR
  rw [h.1, if_pos (isG_nI hn hj), nI_clamp (by omega), if_neg (fun q => e ((ls_e hn h hj).mpr q))]
  have r := relN_go h hj
  rw [← rel_fs hn r (Or.inl rfl), r.2.1.1]
  generalize mGo n j y = t
  show _ = lpN (sFM t.2.2.2.2.2.2.1 t.2.2.2.1 t.2.2.1 t.1.2.1 0) n 0 0
  refine lpN_rel (n := n) (fun a b => a = b) (fun i a b hi q => ?_) n 0 0 0 (by omega) rfl
  subst q
  have t1 : ((0 : Int32) = 2) = False := by decide
  show a ||| (if t.2.2.2.2.2.2.1 i = 0 then (if t.2.2.2.1 i = t.1.2.1 then 1 <<< (nI i &&& 31) else 0) else 0) = _
  simp only [sFM, t1, if_true, if_false]
  by_cases a1 : t.2.2.2.2.2.2.1 i = 0 <;> by_cases a2 : t.2.2.2.1 i = t.1.2.1 <;> simp [a1, a2]
/-- a simulation: seed and hotel -/
def hN (z : HS) : Nat := z.1.1.toNatClampNeg
def sNx (s : Int64) : Int64 := s * 6364136223846793005 + 1442695040888963407
def sBits (s : Int64) : Int32 := ((s.toUInt64 >>> ((33 : Int32).toInt64.toUInt64 &&& Int64.toUInt64 63)).toInt64).toInt32
def sSim : Nat → Int64 × HS → Int64 × HS := fun _ y => (sNx y.1, hTurn (hN y.2) (sBits (sNx y.1)) y.2)
theorem sBits_nat (s : Int64) : ∃ r : Nat, r < 2 ^ 31 ∧ sBits s = nI r := by
  refine ⟨s.toBitVec.toNat / 2 ^ 33, ?_, ?_⟩
  · have := s.toBitVec.isLt
    omega
  · unfold sBits
    apply Int32.toBitVec_inj.mp
    have hs := s.toBitVec.isLt
    rw [show ((33 : Int32).toInt64.toUInt64 &&& Int64.toUInt64 63) = 33 by decide]
    show BitVec.signExtend 32 ((s.toUInt64 >>> 33).toBitVec) = BitVec.ofNat 32 (s.toBitVec.toNat / 2 ^ 33)
    have e : (s.toUInt64 >>> 33).toBitVec = s.toBitVec >>> (33 : Nat) := rfl
    rw [e]
    apply BitVec.eq_of_toNat_eq
    rw [BitVec.signExtend_eq_setWidth_of_le _ (by decide), BitVec.toNat_setWidth, BitVec.toNat_ushiftRight, BitVec.toNat_ofNat, Nat.shiftRight_eq_div_pow]
theorem relX_n {z y : HS} (h : RelX z y) : hN z ≤ 4 ∧ RelN (hN z) z y := by
  obtain ⟨n, hn, hR⟩ := h
  have e : hN z = n := by unfold hN; rw [hR.1, nI_clamp (by omega)]
  rw [e]
  exact ⟨hn, hR⟩
def kSim (m : Int32) : Int32 := if inL m.toInt64 1 100 then 0 else 1
def vSim (x z : HS) : Int32 := 10000 * (z.1.2.2.2.1 - x.1.2.2.2.1) + 100 * (z.1.2.2.2.2.2.2 - x.1.2.2.2.2.2.2) + hAG (hN z) z
theorem sim_step {i : Nat} {sd : Int64} {z : HS} {r : Nat} (hr : r < 2 ^ 31) (e : sBits (sNx sd) = nI r) (u : HS) (h : RelX (hTurnQ (hN z) (nI (r % 16)) (nI (r / 16)) z) u) : RelX (sSim i (sd, z)).2 u := by
  show RelX (hTurn (hN z) (sBits (sNx sd)) z) u
  unfold hTurn
  rw [e, show nI r - nI r / 16 * 16 = nI (r % 16) from pk_rem hr (by decide) (by decide), show nI r / 16 = nI (r / 16) from pk_div hr (by decide) (by decide)]
  exact h
abbrev rm_X8_fewest : Room := { frames := 6, cells := 0, slots := 0, locals := 143 }
set_option maxHeartbeats 4000000 in
set_option maxRecDepth 100000 in
theorem c_X8_fewest (l : Launch) (D : va_G) (cy : Nat → ClassId) (b : Nat → Nat) (rf sn ac sp ou : Int32) (tx : Nat → Int32) (yn yt y3 : HS) (di ke : Nat → HS) (ik : Nat → Int32) (n : Nat) (hn : n ≤ 4) (xn : HS) (hR : RelN n xn yn) (v : Int32) (sz : Nat) : Met l yX8_fewest wsX8_fewest rm_X8_fewest (wrP D cy [.ref (b 0), .int v] (modelW cy b ((rf, sn, ac, sp, ou), tx, (yn, yt, y3), di, ke, ik)) sz) (va_Qi (fun (r : Int32) (u : MS) => mPost (kFew v) r (hFew n xn) u (((0, sn, ac, sp, ou), tx, (yn, yt, u.2.2.1.2.2), di, ke, ik)) ((rf, sn, ac, sp, ou), tx, (yn, yt, y3), di, ke, ik)) (wrB D (va_A (modelW cy b ((rf, sn, ac, sp, ou), tx, (yn, yt, y3), di, ke, ik)) sz) (fun u => modelW cy b u)) (va_A (modelW cy b ((rf, sn, ac, sp, ou), tx, (yn, yt, y3), di, ke, ik)) sz)) 0 0 (va_A (modelW cy b ((rf, sn, ac, sp, ou), tx, (yn, yt, y3), di, ke, ik)) sz) := by
  refine Mwi (cc := cX8_fewest) (maxL := 3) (ty := .int) (by decide) rfl (Nat.le_of_ble_eq_true rfl) (fun _ _ _ => rfl) ?_
  intro p e s m args below meth c Q ls A hsz hF hK hP hD hA hl hret
  obtain ⟨hx, hb, hml, hown, hts⟩ := id hF
  have hown : s.vm.findClass RX8 = some m.cls := hown
  have hin_X8 : ∀ w ∈ u_ws RX8 TX8 12, w ∈ wsX8_fewest := by decide +kernel
  have hl : lv_has ls 3 [(0, .ref (b 0)), (1, .int v)] := hl
  suffices key : ∀ (H : Heap) (locs : List Loc), va_P D vwCl (modelW cy b ((rf, sn, ac, sp, ou), tx, (yn, yt, y3), di, ke, ik)) H → va_D A (modelW cy b ((rf, sn, ac, sp, ou), tx, (yn, yt, y3), di, ke, ik)) → va_S A s.heap H locs → W p l e rm_X8_fewest s m args below meth c H locs 0 0 Q (F0 m 0 ls []) from key s.heap [] hP hD va_S.rf
  intro H locs hP hD hS
  refine lv_aload_n hx hb dX8_fewest_0 rfl (lv_at hl 0 rfl) ?_
  refine lv_iload_n hx hb dX8_fewest_1 rfl (lv_at hl 1 rfl) ?_
  refine lv_i2l (v := Int32.toInt64 v) hx hb dX8_fewest_2 rfl ?_
  refine lv_lconst (v := 0) hx hb dX8_fewest_3 (by decide) ?_
  refine lv_lconst (v := 1) hx hb dX8_fewest_4 (by decide) ?_
  refine rd_S (As := [.long (Int32.toInt64 v), .long 0, .long 1]) (rest := [.ref (b 0)]) hF (c_X8_in l D cy (Int32.toInt64 v) 0 1) (va_cwS 3 hts gX8_fewest_X8_in rfl rfl rfl (by decide +kernel) ⟨Nat.le_of_ble_eq_true rfl, Nat.le_of_ble_eq_true rfl⟩) hK (fun k q h => by simp at h) rfl hl.1 rfl (Nat.le_of_ble_eq_true rfl) dX8_fewest_5 ⟨Nat.le_of_ble_eq_true rfl, Nat.le_of_ble_eq_true rfl⟩ ?_
  refine lv_if_eq (tgt := 15) hx hb dX8_fewest_8 (by decide) (fun c_1 => ?_) (fun c_1 => ?_)
  · have c_1 := zb_eq.mp c_1
    refine lv_iconst (v := 1) hx hb dX8_fewest_15 (by decide) ?_
    refine wr_i (fun u => wj [[(b 0, .inr (5, [.int 1, .ref (b 1), .int sn, .ref (b 2), .ref (b 3), .ref (b 4), .ref (b 5), .int ac, .ref (b 6), .ref (b 7), .int sp, .int ou]))], [(b 1, .inl (cy 0, 120, .inl tx))], mW cy (b 2) yn, mW cy (b 3) yt, mW cy (b 4) y3, diW cy (b 5) 588 di, diW cy (b 6) 84 ke, [(b 7, .inl (cy 3, 2, .inl ik))]]) (va_runV (As := [.int 1]) (rest := []) hF (c_X8_refused l D cy b rf sn ac sp ou 1 H.size) (cwV 1 hts gX8_fewest_X8_refused rfl rfl rfl (by decide +kernel) ⟨Nat.le_of_ble_eq_true rfl, Nat.le_of_ble_eq_true rfl⟩) (wr_preV hK hP hD (zz_pick1 [[(b 0, .inr (5, [.int rf, .ref (b 1), .int sn, .ref (b 2), .ref (b 3), .ref (b 4), .ref (b 5), .int ac, .ref (b 6), .ref (b 7), .int sp, .int ou]))], [(b 1, .inl (cy 0, 120, .inl tx))], mW cy (b 2) yn, mW cy (b 3) yt, mW cy (b 4) y3, diW cy (b 5) 588 di, diW cy (b 6) 84 ke, [(b 7, .inl (cy 3, 2, .inl ik))]] 0 [1, 2, 3, 4, 5, 6, 7] (show List.Perm ([0] ++ [1, 2, 3, 4, 5, 6, 7]) (List.range 8) by decide) rfl rfl) 0 5 rfl rfl rfl) rfl rfl hl.1 rfl (lv_room (Nat.le_of_ble_eq_true rfl)) dX8_fewest_16 ⟨Nat.le_of_ble_eq_true rfl, Nat.le_of_ble_eq_true rfl⟩) hP hD hS hA (zz_pick1 [[(b 0, .inr (5, [.int rf, .ref (b 1), .int sn, .ref (b 2), .ref (b 3), .ref (b 4), .ref (b 5), .int ac, .ref (b 6), .ref (b 7), .int sp, .int ou]))], [(b 1, .inl (cy 0, 120, .inl tx))], mW cy (b 2) yn, mW cy (b 3) yt, mW cy (b 4) y3, diW cy (b 5) 588 di, diW cy (b 6) 84 ke, [(b 7, .inl (cy 3, 2, .inl ik))]] 0 [1, 2, 3, 4, 5, 6, 7] (show List.Perm ([0] ++ [1, 2, 3, 4, 5, 6, 7]) (List.range 8) by decide) rfl rfl) (fun _ => (zz_pick1 [[(b 0, .inr (5, [.int 1, .ref (b 1), .int sn, .ref (b 2), .ref (b 3), .ref (b 4), .ref (b 5), .int ac, .ref (b 6), .ref (b 7), .int sp, .int ou]))], [(b 1, .inl (cy 0, 120, .inl tx))], mW cy (b 2) yn, mW cy (b 3) yt, mW cy (b 4) y3, diW cy (b 5) 588 di, diW cy (b 6) 84 ke, [(b 7, .inl (cy 3, 2, .inl ik))]] 0 [1, 2, 3, 4, 5, 6, 7] (show List.Perm ([0] ++ [1, 2, 3, 4, 5, 6, 7]) (List.range 8) by decide) rfl rfl)) (fun r_2 u_3 H locs e_4 hP hD hS => ?_)
    obtain rfl := e_4
    have hP : va_P D vwCl (modelW cy b ((1, sn, ac, sp, ou), tx, (yn, yt, y3), di, ke, ik)) H := hP
    have hD : va_D A (modelW cy b ((1, sn, ac, sp, ou), tx, (yn, yt, y3), di, ke, ik)) := hD
    refine lv_if_eq (tgt := 24) hx hb dX8_fewest_19 (by decide) (fun c_5 => ?_) (fun c_5 => ?_)
    · exact absurd c_5 (by decide)
    · refine lv_iconst (v := 0) hx hb dX8_fewest_22 (by decide) ?_
      exact hret _ _ H locs _ ((1, sn, ac, sp, ou), tx, (yn, yt, y3), di, ke, ik) dX8_fewest_23 hP hD hS (mPost_t (K := (kFew v)) (k := 1) (U := ((rf, sn, ac, sp, ou), tx, (yn, yt, y3), di, ke, ik)) (by simp only [kFew, if_neg c_1, if_neg c_5]) (by decide))
  · have c_1 := zb_ne.mp c_1
    refine lv_iconst (v := 0) hx hb dX8_fewest_11 (by decide) ?_
    refine lv_goto (tgt := 16) hx hb dX8_fewest_12 (by decide) ?_
    refine wr_i (fun u => wj [[(b 0, .inr (5, [.int 0, .ref (b 1), .int sn, .ref (b 2), .ref (b 3), .ref (b 4), .ref (b 5), .int ac, .ref (b 6), .ref (b 7), .int sp, .int ou]))], [(b 1, .inl (cy 0, 120, .inl tx))], mW cy (b 2) yn, mW cy (b 3) yt, mW cy (b 4) y3, diW cy (b 5) 588 di, diW cy (b 6) 84 ke, [(b 7, .inl (cy 3, 2, .inl ik))]]) (va_runV (As := [.int 0]) (rest := []) hF (c_X8_refused l D cy b rf sn ac sp ou 0 H.size) (cwV 1 hts gX8_fewest_X8_refused rfl rfl rfl (by decide +kernel) ⟨Nat.le_of_ble_eq_true rfl, Nat.le_of_ble_eq_true rfl⟩) (wr_preV hK hP hD (zz_pick1 [[(b 0, .inr (5, [.int rf, .ref (b 1), .int sn, .ref (b 2), .ref (b 3), .ref (b 4), .ref (b 5), .int ac, .ref (b 6), .ref (b 7), .int sp, .int ou]))], [(b 1, .inl (cy 0, 120, .inl tx))], mW cy (b 2) yn, mW cy (b 3) yt, mW cy (b 4) y3, diW cy (b 5) 588 di, diW cy (b 6) 84 ke, [(b 7, .inl (cy 3, 2, .inl ik))]] 0 [1, 2, 3, 4, 5, 6, 7] (show List.Perm ([0] ++ [1, 2, 3, 4, 5, 6, 7]) (List.range 8) by decide) rfl rfl) 0 5 rfl rfl rfl) rfl rfl hl.1 rfl (lv_room (Nat.le_of_ble_eq_true rfl)) dX8_fewest_16 ⟨Nat.le_of_ble_eq_true rfl, Nat.le_of_ble_eq_true rfl⟩) hP hD hS hA (zz_pick1 [[(b 0, .inr (5, [.int rf, .ref (b 1), .int sn, .ref (b 2), .ref (b 3), .ref (b 4), .ref (b 5), .int ac, .ref (b 6), .ref (b 7), .int sp, .int ou]))], [(b 1, .inl (cy 0, 120, .inl tx))], mW cy (b 2) yn, mW cy (b 3) yt, mW cy (b 4) y3, diW cy (b 5) 588 di, diW cy (b 6) 84 ke, [(b 7, .inl (cy 3, 2, .inl ik))]] 0 [1, 2, 3, 4, 5, 6, 7] (show List.Perm ([0] ++ [1, 2, 3, 4, 5, 6, 7]) (List.range 8) by decide) rfl rfl) (fun _ => (zz_pick1 [[(b 0, .inr (5, [.int 0, .ref (b 1), .int sn, .ref (b 2), .ref (b 3), .ref (b 4), .ref (b 5), .int ac, .ref (b 6), .ref (b 7), .int sp, .int ou]))], [(b 1, .inl (cy 0, 120, .inl tx))], mW cy (b 2) yn, mW cy (b 3) yt, mW cy (b 4) y3, diW cy (b 5) 588 di, diW cy (b 6) 84 ke, [(b 7, .inl (cy 3, 2, .inl ik))]] 0 [1, 2, 3, 4, 5, 6, 7] (show List.Perm ([0] ++ [1, 2, 3, 4, 5, 6, 7]) (List.range 8) by decide) rfl rfl)) (fun r_6 u_7 H locs e_8 hP hD hS => ?_)
    obtain rfl := e_8
    have hP : va_P D vwCl (modelW cy b ((0, sn, ac, sp, ou), tx, (yn, yt, y3), di, ke, ik)) H := hP
    have hD : va_D A (modelW cy b ((0, sn, ac, sp, ou), tx, (yn, yt, y3), di, ke, ik)) := hD
    refine lv_if_eq (tgt := 24) hx hb dX8_fewest_19 (by decide) (fun c_9 => ?_) (fun c_9 => ?_)
    · refine lv_aload_n hx hb dX8_fewest_24 rfl (lv_at hl 0 rfl) ?_
      refine lv_aload_n hx hb dX8_fewest_25 rfl (lv_at hl 0 rfl) ?_
      refine va_get (ci := 5) (v := .ref (b 2)) (C := RX8) (T := TX8) (N := 12) hx hb hts hin_X8 hown hK hP 0 rfl rfl 3 (by decide) (hts (.fieldLink RX8 13 "ButtonGuestsModel" "now" "[I") (by decide +kernel)) (fun _ h9 => h9) rfl dX8_fewest_26 ?_
      refine wr_i (fun u => wj [[(b 0, .inr (5, [.int 0, .ref (b 1), .int sn, .ref (b 2), .ref (b 3), .ref (b 4), .ref (b 5), .int ac, .ref (b 6), .ref (b 7), .int sp, .int ou]))], [(b 1, .inl (cy 0, 120, .inl tx))], mW cy (b 2) yn, mW cy (b 3) yt, mW cy (b 4) u, diW cy (b 5) 588 di, diW cy (b 6) 84 ke, [(b 7, .inl (cy 3, 2, .inl ik))]]) (va_runV (As := [.ref (b 2)]) (rest := []) hF (c_X8_fewestRow l D cy b (b 2) 0 sn ac sp ou n hn xn yn y3 hR H.size) (cwV 1 hts gX8_fewest_X8_fewestRow rfl rfl rfl (by decide +kernel) ⟨Nat.le_of_ble_eq_true rfl, Nat.le_of_ble_eq_true rfl⟩) (wr_preV hK hP hD (zz_pick [[(b 0, .inr (5, [.int 0, .ref (b 1), .int sn, .ref (b 2), .ref (b 3), .ref (b 4), .ref (b 5), .int ac, .ref (b 6), .ref (b 7), .int sp, .int ou]))], [(b 1, .inl (cy 0, 120, .inl tx))], mW cy (b 2) yn, mW cy (b 3) yt, mW cy (b 4) y3, diW cy (b 5) 588 di, diW cy (b 6) 84 ke, [(b 7, .inl (cy 3, 2, .inl ik))]] [0, 4, 2] [1, 3, 5, 6, 7] (show List.Perm ([0, 4, 2] ++ [1, 3, 5, 6, 7]) (List.range 8) by decide) rfl rfl) 0 5 rfl rfl rfl) rfl rfl hl.1 rfl (lv_room (Nat.le_of_ble_eq_true rfl)) dX8_fewest_29 ⟨Nat.le_of_ble_eq_true rfl, Nat.le_of_ble_eq_true rfl⟩) hP hD hS hA (zz_pick [[(b 0, .inr (5, [.int 0, .ref (b 1), .int sn, .ref (b 2), .ref (b 3), .ref (b 4), .ref (b 5), .int ac, .ref (b 6), .ref (b 7), .int sp, .int ou]))], [(b 1, .inl (cy 0, 120, .inl tx))], mW cy (b 2) yn, mW cy (b 3) yt, mW cy (b 4) y3, diW cy (b 5) 588 di, diW cy (b 6) 84 ke, [(b 7, .inl (cy 3, 2, .inl ik))]] [0, 4, 2] [1, 3, 5, 6, 7] (show List.Perm ([0, 4, 2] ++ [1, 3, 5, 6, 7]) (List.range 8) by decide) rfl rfl) (fun u => (zz_pick [[(b 0, .inr (5, [.int 0, .ref (b 1), .int sn, .ref (b 2), .ref (b 3), .ref (b 4), .ref (b 5), .int ac, .ref (b 6), .ref (b 7), .int sp, .int ou]))], [(b 1, .inl (cy 0, 120, .inl tx))], mW cy (b 2) yn, mW cy (b 3) yt, mW cy (b 4) u, diW cy (b 5) 588 di, diW cy (b 6) 84 ke, [(b 7, .inl (cy 3, 2, .inl ik))]] [0, 4, 2] [1, 3, 5, 6, 7] (show List.Perm ([0, 4, 2] ++ [1, 3, 5, 6, 7]) (List.range 8) by decide) rfl rfl)) (fun r_10 u_11 H locs e_12 hP hD hS => ?_)
      subst e_12
      have hP : va_P D vwCl (modelW cy b ((0, sn, ac, sp, ou), tx, (yn, yt, u_11), di, ke, ik)) H := hP
      have hD : va_D A (modelW cy b ((0, sn, ac, sp, ou), tx, (yn, yt, u_11), di, ke, ik)) := hD
      refine lv_istore_n (lv' := [(2, .int (mTold n xn)), (0, .ref (b 0)), (1, .int v)]) hx hb dX8_fewest_32 rfl hl (by decide) rfl (fun ls hl => ?_)
      refine lv_iload_n hx hb dX8_fewest_33 rfl (lv_at hl 0 rfl) ?_
      refine lv_iconst (v := (-1)) hx hb dX8_fewest_34 (by decide) ?_
      refine lv_icmp_ne (tgt := 42) hx hb dX8_fewest_35 (by decide) (fun c_13 => ?_) (fun c_13 => ?_)
      · have c_13 : ¬ (mTold n xn) = ((-1)) := c_13
        refine lv_iload_n hx hb dX8_fewest_42 rfl (lv_at hl 0 rfl) ?_
        refine lv_sipush (v := 10000) hx hb dX8_fewest_43 (by decide) ?_
        refine lv_idiv hx hb dX8_fewest_46 (by decide) ?_
        exact hret _ _ H locs _ ((0, sn, ac, sp, ou), tx, (yn, yt, u_11), di, ke, ik) dX8_fewest_47 hP hD hS (mPost_r (by simp only [kFew, if_pos c_1, if_pos c_9]) (by rw [← (told_few hn).1, if_neg c_13]) (rfl))
      · have c_13 : (mTold n xn) = ((-1)) := c_13
        refine lv_iconst (v := (-1)) hx hb dX8_fewest_38 (by decide) ?_
        refine lv_goto (tgt := 47) hx hb dX8_fewest_39 (by decide) ?_
        exact hret _ _ H locs _ ((0, sn, ac, sp, ou), tx, (yn, yt, u_11), di, ke, ik) dX8_fewest_47 hP hD hS (mPost_r (by simp only [kFew, if_pos c_1, if_pos c_9]) (by rw [← (told_few hn).1, if_pos c_13]) (rfl))
    · exact absurd c_9 (by decide)
abbrev rm_X8_best : Room := { frames := 6, cells := 0, slots := 0, locals := 143 }
set_option maxHeartbeats 4000000 in
set_option maxRecDepth 100000 in
theorem c_X8_best (l : Launch) (D : va_G) (cy : Nat → ClassId) (b : Nat → Nat) (rf sn ac sp ou : Int32) (tx : Nat → Int32) (yn yt y3 : HS) (di ke : Nat → HS) (ik : Nat → Int32) (n : Nat) (hn : n ≤ 4) (xn : HS) (hR : RelN n xn yn) (sz : Nat) : Met l yX8_best wsX8_best rm_X8_best (wrP D cy [.ref (b 0)] (modelW cy b ((rf, sn, ac, sp, ou), tx, (yn, yt, y3), di, ke, ik)) sz) (va_Qi (fun (r : Int32) (u : MS) => r = hBst n xn ∧ u = ((0, sn, ac, sp, ou), tx, (yn, yt, u.2.2.1.2.2), di, ke, ik)) (wrB D (va_A (modelW cy b ((rf, sn, ac, sp, ou), tx, (yn, yt, y3), di, ke, ik)) sz) (fun u => modelW cy b u)) (va_A (modelW cy b ((rf, sn, ac, sp, ou), tx, (yn, yt, y3), di, ke, ik)) sz)) 0 0 (va_A (modelW cy b ((rf, sn, ac, sp, ou), tx, (yn, yt, y3), di, ke, ik)) sz) := by
  refine Mwi (cc := cX8_best) (maxL := 1) (ty := .int) (by decide) rfl (Nat.le_of_ble_eq_true rfl) (fun _ _ _ => rfl) ?_
  intro p e s m args below meth c Q ls A hsz hF hK hP hD hA hl hret
  obtain ⟨hx, hb, hml, hown, hts⟩ := id hF
  have hown : s.vm.findClass RX8 = some m.cls := hown
  have hin_X8 : ∀ w ∈ u_ws RX8 TX8 12, w ∈ wsX8_best := by decide +kernel
  have hl : lv_has ls 1 [(0, .ref (b 0))] := hl
  suffices key : ∀ (H : Heap) (locs : List Loc), va_P D vwCl (modelW cy b ((rf, sn, ac, sp, ou), tx, (yn, yt, y3), di, ke, ik)) H → va_D A (modelW cy b ((rf, sn, ac, sp, ou), tx, (yn, yt, y3), di, ke, ik)) → va_S A s.heap H locs → W p l e rm_X8_best s m args below meth c H locs 0 0 Q (F0 m 0 ls []) from key s.heap [] hP hD va_S.rf
  intro H locs hP hD hS
  refine lv_aload_n hx hb dX8_best_0 rfl (lv_at hl 0 rfl) ?_
  refine lv_iconst (v := 0) hx hb dX8_best_1 (by decide) ?_
  refine va_put (ci := 5) (v := .int 0) (ty := .int) (C := RX8) (T := TX8) (N := 12) hx hb hts hin_X8 tyX8 tyX8_ok nmX8 hown hK hP hD hS 0 rfl rfl 0 (by decide) (hts (.fieldLink RX8 36 "ButtonGuestsModel" "refusal" "I") (by decide +kernel)) (fun _ h9 => h9) rfl (by decide +kernel) rfl rfl (Nat.le_of_ble_eq_true rfl) dX8_best_2 (fun H locs hP hD hS => ?_)
  have hP : va_P D vwCl (modelW cy b ((0, sn, ac, sp, ou), tx, (yn, yt, y3), di, ke, ik)) H := hP
  have hD : va_D A (modelW cy b ((0, sn, ac, sp, ou), tx, (yn, yt, y3), di, ke, ik)) := hD
  refine lv_aload_n hx hb dX8_best_5 rfl (lv_at hl 0 rfl) ?_
  refine lv_aload_n hx hb dX8_best_6 rfl (lv_at hl 0 rfl) ?_
  refine va_get (ci := 5) (v := .ref (b 2)) (C := RX8) (T := TX8) (N := 12) hx hb hts hin_X8 hown hK hP 0 rfl rfl 3 (by decide) (hts (.fieldLink RX8 13 "ButtonGuestsModel" "now" "[I") (by decide +kernel)) (fun _ h9 => h9) rfl dX8_best_7 ?_
  refine wr_i (fun u => wj [[(b 0, .inr (5, [.int 0, .ref (b 1), .int sn, .ref (b 2), .ref (b 3), .ref (b 4), .ref (b 5), .int ac, .ref (b 6), .ref (b 7), .int sp, .int ou]))], [(b 1, .inl (cy 0, 120, .inl tx))], mW cy (b 2) yn, mW cy (b 3) yt, mW cy (b 4) u, diW cy (b 5) 588 di, diW cy (b 6) 84 ke, [(b 7, .inl (cy 3, 2, .inl ik))]]) (va_runV (As := [.ref (b 2)]) (rest := []) hF (c_X8_fewestRow l D cy b (b 2) 0 sn ac sp ou n hn xn yn y3 hR H.size) (cwV 1 hts gX8_best_X8_fewestRow rfl rfl rfl (by decide +kernel) ⟨Nat.le_of_ble_eq_true rfl, Nat.le_of_ble_eq_true rfl⟩) (wr_preV hK hP hD (zz_pick [[(b 0, .inr (5, [.int 0, .ref (b 1), .int sn, .ref (b 2), .ref (b 3), .ref (b 4), .ref (b 5), .int ac, .ref (b 6), .ref (b 7), .int sp, .int ou]))], [(b 1, .inl (cy 0, 120, .inl tx))], mW cy (b 2) yn, mW cy (b 3) yt, mW cy (b 4) y3, diW cy (b 5) 588 di, diW cy (b 6) 84 ke, [(b 7, .inl (cy 3, 2, .inl ik))]] [0, 4, 2] [1, 3, 5, 6, 7] (show List.Perm ([0, 4, 2] ++ [1, 3, 5, 6, 7]) (List.range 8) by decide) rfl rfl) 0 5 rfl rfl rfl) rfl rfl hl.1 rfl (lv_room (Nat.le_of_ble_eq_true rfl)) dX8_best_10 ⟨Nat.le_of_ble_eq_true rfl, Nat.le_of_ble_eq_true rfl⟩) hP hD hS hA (zz_pick [[(b 0, .inr (5, [.int 0, .ref (b 1), .int sn, .ref (b 2), .ref (b 3), .ref (b 4), .ref (b 5), .int ac, .ref (b 6), .ref (b 7), .int sp, .int ou]))], [(b 1, .inl (cy 0, 120, .inl tx))], mW cy (b 2) yn, mW cy (b 3) yt, mW cy (b 4) y3, diW cy (b 5) 588 di, diW cy (b 6) 84 ke, [(b 7, .inl (cy 3, 2, .inl ik))]] [0, 4, 2] [1, 3, 5, 6, 7] (show List.Perm ([0, 4, 2] ++ [1, 3, 5, 6, 7]) (List.range 8) by decide) rfl rfl) (fun u => (zz_pick [[(b 0, .inr (5, [.int 0, .ref (b 1), .int sn, .ref (b 2), .ref (b 3), .ref (b 4), .ref (b 5), .int ac, .ref (b 6), .ref (b 7), .int sp, .int ou]))], [(b 1, .inl (cy 0, 120, .inl tx))], mW cy (b 2) yn, mW cy (b 3) yt, mW cy (b 4) u, diW cy (b 5) 588 di, diW cy (b 6) 84 ke, [(b 7, .inl (cy 3, 2, .inl ik))]] [0, 4, 2] [1, 3, 5, 6, 7] (show List.Perm ([0, 4, 2] ++ [1, 3, 5, 6, 7]) (List.range 8) by decide) rfl rfl)) (fun r_1 u_2 H locs e_3 hP hD hS => ?_)
  subst e_3
  have hP : va_P D vwCl (modelW cy b ((0, sn, ac, sp, ou), tx, (yn, yt, u_2), di, ke, ik)) H := hP
  have hD : va_D A (modelW cy b ((0, sn, ac, sp, ou), tx, (yn, yt, u_2), di, ke, ik)) := hD
  refine rd_S (As := [.int (mTold n xn)]) (rest := []) hF (c_X8_bestOf l D cy (mTold n xn)) (va_cwS 1 hts gX8_best_X8_bestOf rfl rfl rfl (by decide +kernel) ⟨Nat.le_of_ble_eq_true rfl, Nat.le_of_ble_eq_true rfl⟩) hK (fun k q h => by simp at h) rfl hl.1 rfl (Nat.le_of_ble_eq_true rfl) dX8_best_13 ⟨Nat.le_of_ble_eq_true rfl, Nat.le_of_ble_eq_true rfl⟩ ?_
  exact hret _ _ H locs _ ((0, sn, ac, sp, ou), tx, (yn, yt, u_2), di, ke, ik) dX8_best_16 hP hD hS ⟨(told_few hn).2, rfl⟩
abbrev rm_X8_leftStanding : Room := { frames := 4, cells := 0, slots := 0, locals := 92 }
set_option maxHeartbeats 4000000 in
set_option maxRecDepth 100000 in
theorem c_X8_leftStanding (l : Launch) (D : va_G) (cy : Nat → ClassId) (b : Nat → Nat) (rf sn ac sp ou : Int32) (tx : Nat → Int32) (yn yt y3 : HS) (di ke : Nat → HS) (ik : Nat → Int32) (n : Nat) (hn : n ≤ 4) (xn : HS) (hR : RelN n xn yn) (g : Int32) (sz : Nat) : Met l yX8_leftStanding wsX8_leftStanding rm_X8_leftStanding (wrP D cy [.ref (b 0), .int g] (modelW cy b ((rf, sn, ac, sp, ou), tx, (yn, yt, y3), di, ke, ik)) sz) (va_Qi (fun (r : Int32) (u : MS) => mPost (kG (nI n) g) r (hStandR n xn g) u (((0, sn, ac, sp, ou), tx, (yn, u.2.2.1.2.1, y3), di, ke, ik)) ((rf, sn, ac, sp, ou), tx, (yn, yt, y3), di, ke, ik)) (wrB D (va_A (modelW cy b ((rf, sn, ac, sp, ou), tx, (yn, yt, y3), di, ke, ik)) sz) (fun u => modelW cy b u)) (va_A (modelW cy b ((rf, sn, ac, sp, ou), tx, (yn, yt, y3), di, ke, ik)) sz)) 0 0 (va_A (modelW cy b ((rf, sn, ac, sp, ou), tx, (yn, yt, y3), di, ke, ik)) sz) := by
  refine Mwi (cc := cX8_leftStanding) (maxL := 4) (ty := .int) (by decide) rfl (Nat.le_of_ble_eq_true rfl) (fun _ _ _ => rfl) ?_
  intro p e s m args below meth c Q ls A hsz hF hK hP hD hA hl hret
  obtain ⟨hx, hb, hml, hown, hts⟩ := id hF
  have hown : s.vm.findClass RX8 = some m.cls := hown
  have hin_X8 : ∀ w ∈ u_ws RX8 TX8 12, w ∈ wsX8_leftStanding := by decide +kernel
  have hl : lv_has ls 4 [(0, .ref (b 0)), (1, .int g)] := hl
  suffices key : ∀ (H : Heap) (locs : List Loc), va_P D vwCl (modelW cy b ((rf, sn, ac, sp, ou), tx, (yn, yt, y3), di, ke, ik)) H → va_D A (modelW cy b ((rf, sn, ac, sp, ou), tx, (yn, yt, y3), di, ke, ik)) → va_S A s.heap H locs → W p l e rm_X8_leftStanding s m args below meth c H locs 0 0 Q (F0 m 0 ls []) from key s.heap [] hP hD va_S.rf
  intro H locs hP hD hS
  refine lv_aload_n hx hb dX8_leftStanding_0 rfl (lv_at hl 0 rfl) ?_
  refine lv_aload_n hx hb dX8_leftStanding_1 rfl (lv_at hl 0 rfl) ?_
  refine va_get (ci := 5) (v := .ref (b 2)) (C := RX8) (T := TX8) (N := 12) hx hb hts hin_X8 hown hK hP 0 rfl rfl 3 (by decide) (hts (.fieldLink RX8 13 "ButtonGuestsModel" "now" "[I") (by decide +kernel)) (fun _ h9 => h9) rfl dX8_leftStanding_2 ?_
  refine lv_iload_n hx hb dX8_leftStanding_5 rfl (lv_at hl 1 rfl) ?_
  refine rd_S (As := [.ref (b 2), .int g]) (rest := [.ref (b 0)]) hF (c_X8_isGuest l D cy (b 2) n hn yn (hR.gy) g) (va_cwS 2 hts gX8_leftStanding_X8_isGuest rfl rfl rfl (by decide +kernel) ⟨Nat.le_of_ble_eq_true rfl, Nat.le_of_ble_eq_true rfl⟩) hK (hP.sub [2] rfl) rfl hl.1 rfl (Nat.le_of_ble_eq_true rfl) dX8_leftStanding_6 ⟨Nat.le_of_ble_eq_true rfl, Nat.le_of_ble_eq_true rfl⟩ ?_
  refine zz_top (y := zb (isG (nI n) g)) (by rw [hR.gy]) ?_
  refine lv_if_eq (tgt := 16) hx hb dX8_leftStanding_9 (by decide) (fun c_1 => ?_) (fun c_1 => ?_)
  · have c_1 := zb_eq.mp c_1
    refine lv_iconst (v := 1) hx hb dX8_leftStanding_16 (by decide) ?_
    refine wr_i (fun u => wj [[(b 0, .inr (5, [.int 1, .ref (b 1), .int sn, .ref (b 2), .ref (b 3), .ref (b 4), .ref (b 5), .int ac, .ref (b 6), .ref (b 7), .int sp, .int ou]))], [(b 1, .inl (cy 0, 120, .inl tx))], mW cy (b 2) yn, mW cy (b 3) yt, mW cy (b 4) y3, diW cy (b 5) 588 di, diW cy (b 6) 84 ke, [(b 7, .inl (cy 3, 2, .inl ik))]]) (va_runV (As := [.int 1]) (rest := []) hF (c_X8_refused l D cy b rf sn ac sp ou 1 H.size) (cwV 1 hts gX8_leftStanding_X8_refused rfl rfl rfl (by decide +kernel) ⟨Nat.le_of_ble_eq_true rfl, Nat.le_of_ble_eq_true rfl⟩) (wr_preV hK hP hD (zz_pick1 [[(b 0, .inr (5, [.int rf, .ref (b 1), .int sn, .ref (b 2), .ref (b 3), .ref (b 4), .ref (b 5), .int ac, .ref (b 6), .ref (b 7), .int sp, .int ou]))], [(b 1, .inl (cy 0, 120, .inl tx))], mW cy (b 2) yn, mW cy (b 3) yt, mW cy (b 4) y3, diW cy (b 5) 588 di, diW cy (b 6) 84 ke, [(b 7, .inl (cy 3, 2, .inl ik))]] 0 [1, 2, 3, 4, 5, 6, 7] (show List.Perm ([0] ++ [1, 2, 3, 4, 5, 6, 7]) (List.range 8) by decide) rfl rfl) 0 5 rfl rfl rfl) rfl rfl hl.1 rfl (lv_room (Nat.le_of_ble_eq_true rfl)) dX8_leftStanding_17 ⟨Nat.le_of_ble_eq_true rfl, Nat.le_of_ble_eq_true rfl⟩) hP hD hS hA (zz_pick1 [[(b 0, .inr (5, [.int rf, .ref (b 1), .int sn, .ref (b 2), .ref (b 3), .ref (b 4), .ref (b 5), .int ac, .ref (b 6), .ref (b 7), .int sp, .int ou]))], [(b 1, .inl (cy 0, 120, .inl tx))], mW cy (b 2) yn, mW cy (b 3) yt, mW cy (b 4) y3, diW cy (b 5) 588 di, diW cy (b 6) 84 ke, [(b 7, .inl (cy 3, 2, .inl ik))]] 0 [1, 2, 3, 4, 5, 6, 7] (show List.Perm ([0] ++ [1, 2, 3, 4, 5, 6, 7]) (List.range 8) by decide) rfl rfl) (fun _ => (zz_pick1 [[(b 0, .inr (5, [.int 1, .ref (b 1), .int sn, .ref (b 2), .ref (b 3), .ref (b 4), .ref (b 5), .int ac, .ref (b 6), .ref (b 7), .int sp, .int ou]))], [(b 1, .inl (cy 0, 120, .inl tx))], mW cy (b 2) yn, mW cy (b 3) yt, mW cy (b 4) y3, diW cy (b 5) 588 di, diW cy (b 6) 84 ke, [(b 7, .inl (cy 3, 2, .inl ik))]] 0 [1, 2, 3, 4, 5, 6, 7] (show List.Perm ([0] ++ [1, 2, 3, 4, 5, 6, 7]) (List.range 8) by decide) rfl rfl)) (fun r_2 u_3 H locs e_4 hP hD hS => ?_)
    obtain rfl := e_4
    have hP : va_P D vwCl (modelW cy b ((1, sn, ac, sp, ou), tx, (yn, yt, y3), di, ke, ik)) H := hP
    have hD : va_D A (modelW cy b ((1, sn, ac, sp, ou), tx, (yn, yt, y3), di, ke, ik)) := hD
    refine lv_if_eq (tgt := 25) hx hb dX8_leftStanding_20 (by decide) (fun c_5 => ?_) (fun c_5 => ?_)
    · exact absurd c_5 (by decide)
    · refine lv_iconst (v := 0) hx hb dX8_leftStanding_23 (by decide) ?_
      exact hret _ _ H locs _ ((1, sn, ac, sp, ou), tx, (yn, yt, y3), di, ke, ik) dX8_leftStanding_24 hP hD hS (mPost_t (K := (kG (nI n) g)) (k := 1) (U := ((rf, sn, ac, sp, ou), tx, (yn, yt, y3), di, ke, ik)) (by simp only [kG, if_neg c_1, if_neg c_5]) (by decide))
  · have c_1 := zb_ne.mp c_1
    refine lv_iconst (v := 0) hx hb dX8_leftStanding_12 (by decide) ?_
    refine lv_goto (tgt := 17) hx hb dX8_leftStanding_13 (by decide) ?_
    refine wr_i (fun u => wj [[(b 0, .inr (5, [.int 0, .ref (b 1), .int sn, .ref (b 2), .ref (b 3), .ref (b 4), .ref (b 5), .int ac, .ref (b 6), .ref (b 7), .int sp, .int ou]))], [(b 1, .inl (cy 0, 120, .inl tx))], mW cy (b 2) yn, mW cy (b 3) yt, mW cy (b 4) y3, diW cy (b 5) 588 di, diW cy (b 6) 84 ke, [(b 7, .inl (cy 3, 2, .inl ik))]]) (va_runV (As := [.int 0]) (rest := []) hF (c_X8_refused l D cy b rf sn ac sp ou 0 H.size) (cwV 1 hts gX8_leftStanding_X8_refused rfl rfl rfl (by decide +kernel) ⟨Nat.le_of_ble_eq_true rfl, Nat.le_of_ble_eq_true rfl⟩) (wr_preV hK hP hD (zz_pick1 [[(b 0, .inr (5, [.int rf, .ref (b 1), .int sn, .ref (b 2), .ref (b 3), .ref (b 4), .ref (b 5), .int ac, .ref (b 6), .ref (b 7), .int sp, .int ou]))], [(b 1, .inl (cy 0, 120, .inl tx))], mW cy (b 2) yn, mW cy (b 3) yt, mW cy (b 4) y3, diW cy (b 5) 588 di, diW cy (b 6) 84 ke, [(b 7, .inl (cy 3, 2, .inl ik))]] 0 [1, 2, 3, 4, 5, 6, 7] (show List.Perm ([0] ++ [1, 2, 3, 4, 5, 6, 7]) (List.range 8) by decide) rfl rfl) 0 5 rfl rfl rfl) rfl rfl hl.1 rfl (lv_room (Nat.le_of_ble_eq_true rfl)) dX8_leftStanding_17 ⟨Nat.le_of_ble_eq_true rfl, Nat.le_of_ble_eq_true rfl⟩) hP hD hS hA (zz_pick1 [[(b 0, .inr (5, [.int rf, .ref (b 1), .int sn, .ref (b 2), .ref (b 3), .ref (b 4), .ref (b 5), .int ac, .ref (b 6), .ref (b 7), .int sp, .int ou]))], [(b 1, .inl (cy 0, 120, .inl tx))], mW cy (b 2) yn, mW cy (b 3) yt, mW cy (b 4) y3, diW cy (b 5) 588 di, diW cy (b 6) 84 ke, [(b 7, .inl (cy 3, 2, .inl ik))]] 0 [1, 2, 3, 4, 5, 6, 7] (show List.Perm ([0] ++ [1, 2, 3, 4, 5, 6, 7]) (List.range 8) by decide) rfl rfl) (fun _ => (zz_pick1 [[(b 0, .inr (5, [.int 0, .ref (b 1), .int sn, .ref (b 2), .ref (b 3), .ref (b 4), .ref (b 5), .int ac, .ref (b 6), .ref (b 7), .int sp, .int ou]))], [(b 1, .inl (cy 0, 120, .inl tx))], mW cy (b 2) yn, mW cy (b 3) yt, mW cy (b 4) y3, diW cy (b 5) 588 di, diW cy (b 6) 84 ke, [(b 7, .inl (cy 3, 2, .inl ik))]] 0 [1, 2, 3, 4, 5, 6, 7] (show List.Perm ([0] ++ [1, 2, 3, 4, 5, 6, 7]) (List.range 8) by decide) rfl rfl)) (fun r_6 u_7 H locs e_8 hP hD hS => ?_)
    obtain rfl := e_8
    have hP : va_P D vwCl (modelW cy b ((0, sn, ac, sp, ou), tx, (yn, yt, y3), di, ke, ik)) H := hP
    have hD : va_D A (modelW cy b ((0, sn, ac, sp, ou), tx, (yn, yt, y3), di, ke, ik)) := hD
    refine lv_if_eq (tgt := 25) hx hb dX8_leftStanding_20 (by decide) (fun c_9 => ?_) (fun c_9 => ?_)
    · obtain ⟨jg, hjg, rfl⟩ := isG_of hn c_1
      refine lv_aload_n hx hb dX8_leftStanding_25 rfl (lv_at hl 0 rfl) ?_
      refine va_get (ci := 5) (v := .ref (b 2)) (C := RX8) (T := TX8) (N := 12) hx hb hts hin_X8 hown hK hP 0 rfl rfl 3 (by decide) (hts (.fieldLink RX8 13 "ButtonGuestsModel" "now" "[I") (by decide +kernel)) (fun _ h9 => h9) rfl dX8_leftStanding_26 ?_
      refine lv_iload_n hx hb dX8_leftStanding_29 rfl (lv_at hl 1 rfl) ?_
      refine lv_iconst (v := 0) hx hb dX8_leftStanding_30 (by decide) ?_
      refine rd_S (As := [.ref (b 2), .int (nI jg), .int 0]) (rest := []) hF (c_X8_of l D cy (b 2) n hn yn (hR.gy) jg 0 (by omega) (by omega)) (va_cwS 3 hts gX8_leftStanding_X8_of rfl rfl rfl (by decide +kernel) ⟨Nat.le_of_ble_eq_true rfl, Nat.le_of_ble_eq_true rfl⟩) hK (hP.sub [2] rfl) rfl hl.1 rfl (Nat.le_of_ble_eq_true rfl) dX8_leftStanding_31 ⟨Nat.le_of_ble_eq_true rfl, Nat.le_of_ble_eq_true rfl⟩ ?_
      refine lv_aload_n hx hb dX8_leftStanding_34 rfl (lv_at hl 0 rfl) ?_
      refine va_get (ci := 5) (v := .ref (b 2)) (C := RX8) (T := TX8) (N := 12) hx hb hts hin_X8 hown hK hP 0 rfl rfl 3 (by decide) (hts (.fieldLink RX8 13 "ButtonGuestsModel" "now" "[I") (by decide +kernel)) (fun _ h9 => h9) rfl dX8_leftStanding_35 ?_
      refine lv_iconst (v := 1) hx hb dX8_leftStanding_38 (by decide) ?_
      refine zz_iald hx hb hK hP 2 0 1 rfl rfl rfl ⟨by decide, Nat.le_of_ble_eq_true rfl⟩ dX8_leftStanding_39 ?_
      refine zz_top (y := yn.1.2.1) rfl ?_
      refine lv_icmp_ne (tgt := 45) hx hb dX8_leftStanding_40 (by decide) (fun c_10 => ?_) (fun c_10 => ?_)
      · have c_10 : ¬ (mCol yn 0 jg) = yn.1.2.1 := c_10
        have hne := c_10
        refine lv_aload_n hx hb dX8_leftStanding_45 rfl (lv_at hl 0 rfl) ?_
        refine va_get (ci := 5) (v := .ref (b 2)) (C := RX8) (T := TX8) (N := 12) hx hb hts hin_X8 hown hK hP 0 rfl rfl 3 (by decide) (hts (.fieldLink RX8 13 "ButtonGuestsModel" "now" "[I") (by decide +kernel)) (fun _ h9 => h9) rfl dX8_leftStanding_46 ?_
        refine lv_iconst (v := 0) hx hb dX8_leftStanding_49 (by decide) ?_
        refine lv_aload_n hx hb dX8_leftStanding_50 rfl (lv_at hl 0 rfl) ?_
        refine va_get (ci := 5) (v := .ref (b 3)) (C := RX8) (T := TX8) (N := 12) hx hb hts hin_X8 hown hK hP 0 rfl rfl 4 (by decide) (hts (.fieldLink RX8 16 "ButtonGuestsModel" "trial" "[I") (by decide +kernel)) (fun _ h9 => h9) rfl dX8_leftStanding_51 ?_
        refine lv_iconst (v := 0) hx hb dX8_leftStanding_54 (by decide) ?_
        refine wr_v (fun u => wj [[(b 0, .inr (5, [.int 0, .ref (b 1), .int sn, .ref (b 2), .ref (b 3), .ref (b 4), .ref (b 5), .int ac, .ref (b 6), .ref (b 7), .int sp, .int ou]))], [(b 1, .inl (cy 0, 120, .inl tx))], mW cy (b 2) yn, mW cy (b 3) yn, mW cy (b 4) y3, diW cy (b 5) 588 di, diW cy (b 6) 84 ke, [(b 7, .inl (cy 3, 2, .inl ik))]]) (va_runS (As := [.ref (b 2), .int 0, .ref (b 3), .int 0]) (rest := []) hF (c_X8_copyState_s l D cy (b 2) (b 3) 42 0 (mOf yn) yt yn (by omega) (by omega) (fun j _ => by rw [Nat.zero_add]) H.size) (va_cwS 4 hts gX8_leftStanding_X8_copyState rfl rfl rfl (by decide +kernel) ⟨Nat.le_of_ble_eq_true rfl, Nat.le_of_ble_eq_true rfl⟩) (wr_preS hK hP hD (zz_pick2 [[(b 0, .inr (5, [.int 0, .ref (b 1), .int sn, .ref (b 2), .ref (b 3), .ref (b 4), .ref (b 5), .int ac, .ref (b 6), .ref (b 7), .int sp, .int ou]))], [(b 1, .inl (cy 0, 120, .inl tx))], mW cy (b 2) yn, mW cy (b 3) yt, mW cy (b 4) y3, diW cy (b 5) 588 di, diW cy (b 6) 84 ke, [(b 7, .inl (cy 3, 2, .inl ik))]] 2 3 [0, 1, 4, 5, 6, 7] (show List.Perm ([2, 3] ++ [0, 1, 4, 5, 6, 7]) (List.range 8) by decide) rfl rfl rfl)) rfl rfl hl.1 rfl (lv_room (Nat.le_of_ble_eq_true rfl)) dX8_leftStanding_55 ⟨Nat.le_of_ble_eq_true rfl, Nat.le_of_ble_eq_true rfl⟩) hP hD hS hA (zz_pick2 [[(b 0, .inr (5, [.int 0, .ref (b 1), .int sn, .ref (b 2), .ref (b 3), .ref (b 4), .ref (b 5), .int ac, .ref (b 6), .ref (b 7), .int sp, .int ou]))], [(b 1, .inl (cy 0, 120, .inl tx))], mW cy (b 2) yn, mW cy (b 3) yt, mW cy (b 4) y3, diW cy (b 5) 588 di, diW cy (b 6) 84 ke, [(b 7, .inl (cy 3, 2, .inl ik))]] 2 3 [0, 1, 4, 5, 6, 7] (show List.Perm ([2, 3] ++ [0, 1, 4, 5, 6, 7]) (List.range 8) by decide) rfl rfl rfl) (fun _ => (zz_pick2 [[(b 0, .inr (5, [.int 0, .ref (b 1), .int sn, .ref (b 2), .ref (b 3), .ref (b 4), .ref (b 5), .int ac, .ref (b 6), .ref (b 7), .int sp, .int ou]))], [(b 1, .inl (cy 0, 120, .inl tx))], mW cy (b 2) yn, mW cy (b 3) yn, mW cy (b 4) y3, diW cy (b 5) 588 di, diW cy (b 6) 84 ke, [(b 7, .inl (cy 3, 2, .inl ik))]] 2 3 [0, 1, 4, 5, 6, 7] (show List.Perm ([2, 3] ++ [0, 1, 4, 5, 6, 7]) (List.range 8) by decide) rfl rfl rfl)) (fun u_11 H locs e_12 hP hD hS => ?_)
        have hP : va_P D vwCl (modelW cy b ((0, sn, ac, sp, ou), tx, (yn, yn, y3), di, ke, ik)) H := hP
        have hD : va_D A (modelW cy b ((0, sn, ac, sp, ou), tx, (yn, yn, y3), di, ke, ik)) := hD
        refine lv_aload_n hx hb dX8_leftStanding_58 rfl (lv_at hl 0 rfl) ?_
        refine va_get (ci := 5) (v := .ref (b 3)) (C := RX8) (T := TX8) (N := 12) hx hb hts hin_X8 hown hK hP 0 rfl rfl 4 (by decide) (hts (.fieldLink RX8 16 "ButtonGuestsModel" "trial" "[I") (by decide +kernel)) (fun _ h9 => h9) rfl dX8_leftStanding_59 ?_
        refine lv_iload_n hx hb dX8_leftStanding_62 rfl (lv_at hl 1 rfl) ?_
        refine wr_v (fun u => wj [[(b 0, .inr (5, [.int 0, .ref (b 1), .int sn, .ref (b 2), .ref (b 3), .ref (b 4), .ref (b 5), .int ac, .ref (b 6), .ref (b 7), .int sp, .int ou]))], [(b 1, .inl (cy 0, 120, .inl tx))], mW cy (b 2) yn, mW cy (b 3) u, mW cy (b 4) y3, diW cy (b 5) 588 di, diW cy (b 6) 84 ke, [(b 7, .inl (cy 3, 2, .inl ik))]]) (va_runS (As := [.ref (b 3), .int (nI jg)]) (rest := []) hF (c_X8_goes l D cy (b 3) n hn yn (hR.gy) H.size jg (by omega) (hR.bu (by omega)) hR.fl) (va_cwS 2 hts gX8_leftStanding_X8_goes rfl rfl rfl (by decide +kernel) ⟨Nat.le_of_ble_eq_true rfl, Nat.le_of_ble_eq_true rfl⟩) (wr_preS hK hP hD (zz_pick1 [[(b 0, .inr (5, [.int 0, .ref (b 1), .int sn, .ref (b 2), .ref (b 3), .ref (b 4), .ref (b 5), .int ac, .ref (b 6), .ref (b 7), .int sp, .int ou]))], [(b 1, .inl (cy 0, 120, .inl tx))], mW cy (b 2) yn, mW cy (b 3) yn, mW cy (b 4) y3, diW cy (b 5) 588 di, diW cy (b 6) 84 ke, [(b 7, .inl (cy 3, 2, .inl ik))]] 3 [0, 1, 2, 4, 5, 6, 7] (show List.Perm ([3] ++ [0, 1, 2, 4, 5, 6, 7]) (List.range 8) by decide) rfl rfl)) rfl rfl hl.1 rfl (lv_room (Nat.le_of_ble_eq_true rfl)) dX8_leftStanding_63 ⟨Nat.le_of_ble_eq_true rfl, Nat.le_of_ble_eq_true rfl⟩) hP hD hS hA (zz_pick1 [[(b 0, .inr (5, [.int 0, .ref (b 1), .int sn, .ref (b 2), .ref (b 3), .ref (b 4), .ref (b 5), .int ac, .ref (b 6), .ref (b 7), .int sp, .int ou]))], [(b 1, .inl (cy 0, 120, .inl tx))], mW cy (b 2) yn, mW cy (b 3) yn, mW cy (b 4) y3, diW cy (b 5) 588 di, diW cy (b 6) 84 ke, [(b 7, .inl (cy 3, 2, .inl ik))]] 3 [0, 1, 2, 4, 5, 6, 7] (show List.Perm ([3] ++ [0, 1, 2, 4, 5, 6, 7]) (List.range 8) by decide) rfl rfl) (fun u => (zz_pick1 [[(b 0, .inr (5, [.int 0, .ref (b 1), .int sn, .ref (b 2), .ref (b 3), .ref (b 4), .ref (b 5), .int ac, .ref (b 6), .ref (b 7), .int sp, .int ou]))], [(b 1, .inl (cy 0, 120, .inl tx))], mW cy (b 2) yn, mW cy (b 3) u, mW cy (b 4) y3, diW cy (b 5) 588 di, diW cy (b 6) 84 ke, [(b 7, .inl (cy 3, 2, .inl ik))]] 3 [0, 1, 2, 4, 5, 6, 7] (show List.Perm ([3] ++ [0, 1, 2, 4, 5, 6, 7]) (List.range 8) by decide) rfl rfl)) (fun u_13 H locs e_14 hP hD hS => ?_)
        subst e_14
        have hP : va_P D vwCl (modelW cy b ((0, sn, ac, sp, ou), tx, (yn, (mGo n jg yn), y3), di, ke, ik)) H := hP
        have hD : va_D A (modelW cy b ((0, sn, ac, sp, ou), tx, (yn, (mGo n jg yn), y3), di, ke, ik)) := hD
        refine lv_iconst (v := 0) hx hb dX8_leftStanding_66 (by decide) ?_
        refine lv_istore_n (lv' := [(2, .int 0), (0, .ref (b 0)), (1, .int (nI jg))]) hx hb dX8_leftStanding_67 rfl hl (by decide) rfl (fun ls hl => ?_)
        refine lv_iconst (v := 0) hx hb dX8_leftStanding_68 (by decide) ?_
        refine lv_istore_n (lv' := [(3, .int 0), (2, .int 0), (0, .ref (b 0)), (1, .int (nI jg))]) hx hb dX8_leftStanding_69 rfl hl (by decide) rfl (fun ls hl => ?_)
        have loop : ∀ (k i : Nat) (a : Int32), i ≤ n → n + 1 ≤ i + k → lpN (sLS (mGo n jg yn) (mGo n jg yn).1.2.1) (n - i) i a = lpN (sLS (mGo n jg yn) (mGo n jg yn).1.2.1) n 0 0 → ∀ (H : Heap) (locs : List Loc) (ls : Array Slot), va_P D vwCl (modelW cy b ((0, sn, ac, sp, ou), tx, (yn, (mGo n jg yn), y3), di, ke, ik)) H → va_D A (modelW cy b ((0, sn, ac, sp, ou), tx, (yn, (mGo n jg yn), y3), di, ke, ik)) → va_S A s.heap H locs → lv_has ls 4 [(3, .int (nI i)), (2, .int a), (0, .ref (b 0)), (1, .int (nI jg))] → W p l e rm_X8_leftStanding s m args below meth c H locs 0 0 Q (F0 m 70 ls []) := by
          intro k
          induction k with
          | zero =>
            intro i a hi hk hv
            exact absurd hk (by omega)
          | succ k ih =>
            intro i a hi hk hv H locs ls hP hD hS hl
            refine lv_iload_n hx hb dX8_leftStanding_70 rfl (lv_at hl 0 rfl) ?_
            refine lv_aload_n hx hb dX8_leftStanding_71 rfl (lv_at hl 2 rfl) ?_
            refine va_get (ci := 5) (v := .ref (b 3)) (C := RX8) (T := TX8) (N := 12) hx hb hts hin_X8 hown hK hP 0 rfl rfl 4 (by decide) (hts (.fieldLink RX8 16 "ButtonGuestsModel" "trial" "[I") (by decide +kernel)) (fun _ h9 => h9) rfl dX8_leftStanding_72 ?_
            refine lv_iconst (v := 0) hx hb dX8_leftStanding_75 (by decide) ?_
            refine zz_iald hx hb hK hP 3 0 0 rfl rfl rfl ⟨by decide, Nat.le_of_ble_eq_true rfl⟩ dX8_leftStanding_76 ?_
            refine zz_top (y := (mGo n jg yn).1.1) rfl ?_
            refine zz_top (y := nI n) (relN_go hR (by omega)).gy ?_
            refine lv_icmp_ge (tgt := 126) hx hb dX8_leftStanding_77 (by decide) (fun c_15 => ?_) (fun c_15 => ?_)
            · have c_15 : n ≤ i := (nI_leI (a := n) (b := i) (by omega) (by omega)).mp c_15
              refine lv_iload_n hx hb dX8_leftStanding_126 rfl (lv_at hl 1 rfl) ?_
              exact hret _ _ H locs _ ((0, sn, ac, sp, ou), tx, (yn, (mGo n jg yn), y3), di, ke, ik) dX8_leftStanding_127 hP hD hS (mPost_r (by simp only [kG, if_pos c_1, if_pos c_9]) ((lpN_end c_15 hv).trans (ls_1 hn hR hjg hne)) (rfl))
            · have c_15 : ¬ n ≤ i := fun q => c_15 ((nI_leI (a := n) (b := i) (by omega) (by omega)).mpr q)
              refine lv_iload_n hx hb dX8_leftStanding_80 rfl (lv_at hl 1 rfl) ?_
              refine lv_aload_n hx hb dX8_leftStanding_81 rfl (lv_at hl 2 rfl) ?_
              refine va_get (ci := 5) (v := .ref (b 3)) (C := RX8) (T := TX8) (N := 12) hx hb hts hin_X8 hown hK hP 0 rfl rfl 4 (by decide) (hts (.fieldLink RX8 16 "ButtonGuestsModel" "trial" "[I") (by decide +kernel)) (fun _ h9 => h9) rfl dX8_leftStanding_82 ?_
              refine lv_iload_n hx hb dX8_leftStanding_85 rfl (lv_at hl 0 rfl) ?_
              refine lv_iconst (v := 3) hx hb dX8_leftStanding_86 (by decide) ?_
              refine rd_S (As := [.ref (b 3), .int (nI i), .int 3]) (rest := [.int a]) hF (c_X8_of l D cy (b 3) n hn (mGo n jg yn) ((relN_go hR (by omega)).gy) i 3 (by omega) (by omega)) (va_cwS 3 hts gX8_leftStanding_X8_of rfl rfl rfl (by decide +kernel) ⟨Nat.le_of_ble_eq_true rfl, Nat.le_of_ble_eq_true rfl⟩) hK (hP.sub [3] rfl) rfl hl.1 rfl (Nat.le_of_ble_eq_true rfl) dX8_leftStanding_87 ⟨Nat.le_of_ble_eq_true rfl, Nat.le_of_ble_eq_true rfl⟩ ?_
              refine lv_if_ne (tgt := 117) hx hb dX8_leftStanding_90 (by decide) (fun c_16 => ?_) (fun c_16 => ?_)
              · have c_16 : ¬ (mCol (mGo n jg yn) 3 i) = 0 := c_16
                refine lv_iconst (v := 0) hx hb dX8_leftStanding_117 (by decide) ?_
                refine lv_ior hx hb dX8_leftStanding_118 ?_
                refine lv_istore_n (lv' := [(2, .int (a ||| 0)), (3, .int (nI i)), (0, .ref (b 0)), (1, .int (nI jg))]) hx hb dX8_leftStanding_119 rfl hl (by decide) rfl (fun ls hl => ?_)
                refine lv_iinc (v := nI (i + 1)) (lv' := [(3, .int (nI (i + 1))), (2, .int (a ||| 0)), (0, .ref (b 0)), (1, .int (nI jg))]) hx hb dX8_leftStanding_120 hl (k := 1) rfl (nI_add (i) 1) (by decide) rfl (fun ls hl => ?_)
                refine lv_goto (tgt := 70) hx hb dX8_leftStanding_123 (by decide) ?_
                exact ih (i + 1) _ (by omega) (by omega) (lpN_next (by omega) hv (by simp only [sLS, if_neg c_15, if_neg c_16])) _ _ _ hP hD hS (lv_sub hl [0, 1, 2, 3] rfl)
              · have c_16 : (mCol (mGo n jg yn) 3 i) = 0 := c_16
                refine lv_aload_n hx hb dX8_leftStanding_93 rfl (lv_at hl 2 rfl) ?_
                refine va_get (ci := 5) (v := .ref (b 3)) (C := RX8) (T := TX8) (N := 12) hx hb hts hin_X8 hown hK hP 0 rfl rfl 4 (by decide) (hts (.fieldLink RX8 16 "ButtonGuestsModel" "trial" "[I") (by decide +kernel)) (fun _ h9 => h9) rfl dX8_leftStanding_94 ?_
                refine lv_iload_n hx hb dX8_leftStanding_97 rfl (lv_at hl 0 rfl) ?_
                refine lv_iconst (v := 4) hx hb dX8_leftStanding_98 (by decide) ?_
                refine rd_S (As := [.ref (b 3), .int (nI i), .int 4]) (rest := [.int a]) hF (c_X8_of l D cy (b 3) n hn (mGo n jg yn) ((relN_go hR (by omega)).gy) i 4 (by omega) (by omega)) (va_cwS 3 hts gX8_leftStanding_X8_of rfl rfl rfl (by decide +kernel) ⟨Nat.le_of_ble_eq_true rfl, Nat.le_of_ble_eq_true rfl⟩) hK (hP.sub [3] rfl) rfl hl.1 rfl (Nat.le_of_ble_eq_true rfl) dX8_leftStanding_99 ⟨Nat.le_of_ble_eq_true rfl, Nat.le_of_ble_eq_true rfl⟩ ?_
                refine lv_aload_n hx hb dX8_leftStanding_102 rfl (lv_at hl 2 rfl) ?_
                refine va_get (ci := 5) (v := .ref (b 3)) (C := RX8) (T := TX8) (N := 12) hx hb hts hin_X8 hown hK hP 0 rfl rfl 4 (by decide) (hts (.fieldLink RX8 16 "ButtonGuestsModel" "trial" "[I") (by decide +kernel)) (fun _ h9 => h9) rfl dX8_leftStanding_103 ?_
                refine lv_iconst (v := 1) hx hb dX8_leftStanding_106 (by decide) ?_
                refine zz_iald hx hb hK hP 3 0 1 rfl rfl rfl ⟨by decide, Nat.le_of_ble_eq_true rfl⟩ dX8_leftStanding_107 ?_
                refine zz_top (y := (mGo n jg yn).1.2.1) rfl ?_
                refine lv_icmp_ne (tgt := 117) hx hb dX8_leftStanding_108 (by decide) (fun c_17 => ?_) (fun c_17 => ?_)
                · have c_17 : ¬ (mCol (mGo n jg yn) 4 i) = ((mGo n jg yn).1.2.1) := c_17
                  refine lv_iconst (v := 0) hx hb dX8_leftStanding_117 (by decide) ?_
                  refine lv_ior hx hb dX8_leftStanding_118 ?_
                  refine lv_istore_n (lv' := [(2, .int (a ||| 0)), (3, .int (nI i)), (0, .ref (b 0)), (1, .int (nI jg))]) hx hb dX8_leftStanding_119 rfl hl (by decide) rfl (fun ls hl => ?_)
                  refine lv_iinc (v := nI (i + 1)) (lv' := [(3, .int (nI (i + 1))), (2, .int (a ||| 0)), (0, .ref (b 0)), (1, .int (nI jg))]) hx hb dX8_leftStanding_120 hl (k := 1) rfl (nI_add (i) 1) (by decide) rfl (fun ls hl => ?_)
                  refine lv_goto (tgt := 70) hx hb dX8_leftStanding_123 (by decide) ?_
                  exact ih (i + 1) _ (by omega) (by omega) (lpN_next (by omega) hv (by simp only [sLS, if_neg c_15, if_pos c_16, if_neg c_17])) _ _ _ hP hD hS (lv_sub hl [0, 1, 2, 3] rfl)
                · have c_17 : (mCol (mGo n jg yn) 4 i) = ((mGo n jg yn).1.2.1) := c_17
                  refine lv_iconst (v := 1) hx hb dX8_leftStanding_111 (by decide) ?_
                  refine lv_iload_n hx hb dX8_leftStanding_112 rfl (lv_at hl 0 rfl) ?_
                  refine lv_ishl hx hb dX8_leftStanding_113 ?_
                  refine lv_goto (tgt := 118) hx hb dX8_leftStanding_114 (by decide) ?_
                  refine lv_ior hx hb dX8_leftStanding_118 ?_
                  refine lv_istore_n (lv' := [(2, .int (a ||| (1 <<< ((nI i) &&& 31)))), (3, .int (nI i)), (0, .ref (b 0)), (1, .int (nI jg))]) hx hb dX8_leftStanding_119 rfl hl (by decide) rfl (fun ls hl => ?_)
                  refine lv_iinc (v := nI (i + 1)) (lv' := [(3, .int (nI (i + 1))), (2, .int (a ||| (1 <<< ((nI i) &&& 31)))), (0, .ref (b 0)), (1, .int (nI jg))]) hx hb dX8_leftStanding_120 hl (k := 1) rfl (nI_add (i) 1) (by decide) rfl (fun ls hl => ?_)
                  refine lv_goto (tgt := 70) hx hb dX8_leftStanding_123 (by decide) ?_
                  exact ih (i + 1) _ (by omega) (by omega) (lpN_next (by omega) hv (by simp only [sLS, if_neg c_15, if_pos c_16, if_pos c_17])) _ _ _ hP hD hS (lv_sub hl [0, 1, 2, 3] rfl)
        exact loop (n + 1) 0 0 (Nat.zero_le _) (by omega) rfl _ _ _ hP hD hS (lv_sub hl [0, 1, 2, 3] rfl)
      · have c_10 : (mCol yn 0 jg) = yn.1.2.1 := c_10
        refine lv_iconst (v := 0) hx hb dX8_leftStanding_43 (by decide) ?_
        exact hret _ _ H locs _ ((0, sn, ac, sp, ou), tx, (yn, yt, y3), di, ke, ik) dX8_leftStanding_44 hP hD hS (mPost_r (by simp only [kG, if_pos c_1, if_pos c_9]) (ls_0 hn hR hjg c_10) (rfl))
    · exact absurd c_9 (by decide)
