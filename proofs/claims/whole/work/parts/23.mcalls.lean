/-! the reference's calls: K the number of the exception (0: none), the answer, the state behind it -/
def mRf (k : Int32) (u : MS) : MS := ((k, u.1.2), u.2)
def mPost (K r R : Int32) (u U0 U : MS) : Prop := (K = 0 ∧ r = R ∧ u = U0) ∨ (¬ K = 0 ∧ r = 0 ∧ u = mRf K U)
theorem mPost_t {K k R : Int32} {U0 U : MS} (h : K = k) (hk : ¬ k = 0) : mPost K 0 R (mRf k U) U0 U := Or.inr ⟨by rw [h]; exact hk, rfl, by rw [h]⟩
theorem mPost_0 {K R : Int32} {U0 U : MS} (h : K = 0) : mPost K R R U0 U0 U := Or.inl ⟨h, rfl, rfl⟩
theorem mPost_r {K r R : Int32} {u U0 U : MS} (h : K = 0) (hr : r = R) (hu : u = U0) : mPost K r R u U0 U := Or.inl ⟨h, hr, hu⟩
theorem inL_nat {v c : Int32} {k : Nat} (hk : k < 2 ^ 31) (hc : c = nI k) (h : inL v.toInt64 0 c.toInt64) : ∃ w : Nat, w ≤ k ∧ v = nI w := by
  obtain ⟨h1, h2⟩ := (inI (x := v) (a := 0) (c := c)).mp h
  obtain ⟨j, hj, rfl⟩ := nI_of h1
  subst hc
  refine ⟨j, ?_, rfl⟩
  rcases Nat.lt_or_ge k j with q | q
  · exact absurd (nI_lt q hj) h2
  · exact q
def kG (gu g : Int32) : Int32 := if isG gu g then 0 else 1
def kApp (z : Nat) (v : Int32) : Int32 := if inL v.toInt64 0 255 then (if z = 120 then 2 else 0) else 1
def kAbout (v : Int32) : Int32 := if inL v.toInt64 0 11 then 0 else 1
def kGuest (gu g v : Int32) : Int32 := if isG gu g then (if inL v.toInt64 0 7 then 0 else 2) else 1
def kFloor (f v : Int32) : Int32 := if okF f then (if inL v.toInt64 0 2 then 0 else 2) else 1
def kSetg (v : Int32) : Int32 := if inL v.toInt64 0 2 then 0 else 1
def kCome (n : Nat) (bb a z w : Int32) : Int32 := if okF bb then (if okF a then (if okF z then (if inL w.toInt64 1 4 then (if 4 ≤ n then 3 else 0) else 2) else 1) else 1) else 1
def kSet (w v : Int32) : Int32 := if okSV w v then 0 else 1
def kUndo (a9 : Nat) : Int32 := if a9 = 0 then 1 else 0
def kSave (v : Int32) : Int32 := if inL v.toInt64 0 1 then 0 else 1
def kRest (ik : Nat → Int32) (v : Int32) : Int32 := if inL v.toInt64 0 1 then (if ik v.toNatClampNeg = 0 then 2 else 0) else 1
def sFM (st wa bu : Nat → Int32) (f what : Int32) : Nat → Int32 → Int32 := fun g a => a ||| (if what = 2 then (if bu g = f then 1 <<< (nI g &&& 31) else 0) else if wa g = f then (if st g = (if what = 0 then 0 else 2) then 1 <<< (nI g &&& 31) else 0) else 0)
def mFS (n : Nat) (y : HS) (f what : Int32) : Int32 := lpN (sFM y.2.2.2.2.2.2.1 y.2.2.2.1 y.2.2.1 f what) n 0 0
def mSetV (w v : Int32) (y : HS) : HS := mSetS w.toNatClampNeg v y
abbrev rm_X8_remember : Room := { frames := 1, cells := 0, slots := 0, locals := 24 }
set_option maxHeartbeats 4000000 in
set_option maxRecDepth 100000 in
theorem c_X8_remember (l : Launch) (D : va_G) (cy : Nat → ClassId) (b : Nat → Nat) (rf sn ac sp ou : Int32) (tx : Nat → Int32) (yn yt y3 : HS) (di ke : Nat → HS) (ik : Nat → Int32) (n : Nat) (hn : n ≤ 4) (hg : yn.1.1 = nI n) (a9 : Nat) (ha9 : a9 ≤ 14) (sz : Nat) : Met l yX8_remember wsX8_remember rm_X8_remember (wrP D cy [.ref (b 0)] (modelW cy b ((rf, sn, nI a9, sp, ou), tx, (yn, yt, y3), di, ke, ik)) sz) (va_Qv (fun u : MS => u = ((rf, sn, nI (mAc a9), sp, ou), tx, (yn, yt, y3), mRem a9 yn di, ke, ik)) (wrB D (va_A (modelW cy b ((rf, sn, nI a9, sp, ou), tx, (yn, yt, y3), di, ke, ik)) sz) (fun u => modelW cy b u)) (va_A (modelW cy b ((rf, sn, nI a9, sp, ou), tx, (yn, yt, y3), di, ke, ik)) sz)) 0 0 (va_A (modelW cy b ((rf, sn, nI a9, sp, ou), tx, (yn, yt, y3), di, ke, ik)) sz) := by
  refine Mwv (cc := cX8_remember) (maxL := 2) (by decide) rfl (Nat.le_of_ble_eq_true rfl) ?_
  intro p e s m args below meth c Q ls A hsz hinit hF hK hP hD hA hl hret
  obtain ⟨hx, hb, hml, hown, hts⟩ := id hF
  have hown : s.vm.findClass RX8 = some m.cls := hown
  have hin_X8 : ∀ w ∈ u_ws RX8 TX8 12, w ∈ wsX8_remember := by decide +kernel
  have hl : lv_has ls 2 [(0, .ref (b 0))] := hl
  suffices key : ∀ (H : Heap) (locs : List Loc), va_P D vwCl (modelW cy b ((rf, sn, nI a9, sp, ou), tx, (yn, yt, y3), di, ke, ik)) H → va_D A (modelW cy b ((rf, sn, nI a9, sp, ou), tx, (yn, yt, y3), di, ke, ik)) → va_S A s.heap H locs → W p l e rm_X8_remember s m args below meth c H locs 0 0 Q (F0 m 0 ls []) from key s.heap [] hP hD va_S.rf
  intro H locs hP hD hS
  have join1 : ∀ (c1 : Nat) (d1 : Nat → HS), c1 < 14 → va_up d1 c1 yn = mRem a9 yn di → c1 + 1 = mAc a9 → ∀ (H : Heap) (locs : List Loc) (ls : Array Slot), va_P D vwCl (modelW cy b ((rf, sn, nI c1, sp, ou), tx, (yn, yt, y3), d1, ke, ik)) H → va_D A (modelW cy b ((rf, sn, nI c1, sp, ou), tx, (yn, yt, y3), d1, ke, ik)) → va_S A s.heap H locs → lv_has ls 2 [(0, .ref (b 0))] → W p l e rm_X8_remember s m args below meth c H locs 0 0 Q (F0 m 49 ls []) := by
    intro c1 d1 hc1 hq1 hq2 H locs ls hP hD hS hl
    refine lv_aload_n hx hb dX8_remember_49 rfl (lv_at hl 0 rfl) ?_
    refine va_get (ci := 5) (v := .ref (b 2)) (C := RX8) (T := TX8) (N := 12) hx hb hts hin_X8 hown hK hP 0 rfl rfl 3 (by decide) (hts (.fieldLink RX8 13 "ButtonGuestsModel" "now" "[I") (by decide +kernel)) (fun _ h9 => h9) rfl dX8_remember_50 ?_
    refine lv_iconst (v := 0) hx hb dX8_remember_53 (by decide) ?_
    refine lv_aload_n hx hb dX8_remember_54 rfl (lv_at hl 0 rfl) ?_
    refine va_get (ci := 5) (v := .ref (b 5)) (C := RX8) (T := TX8) (N := 12) hx hb hts hin_X8 hown hK hP 0 rfl rfl 6 (by decide) (hts (.fieldLink RX8 22 "ButtonGuestsModel" "diary" "[I") (by decide +kernel)) (fun _ h9 => h9) rfl dX8_remember_55 ?_
    refine lv_bipush (v := 42) hx hb dX8_remember_58 (by decide) ?_
    refine lv_aload_n hx hb dX8_remember_60 rfl (lv_at hl 0 rfl) ?_
    refine va_get (ci := 5) (v := .int (nI c1)) (C := RX8) (T := TX8) (N := 12) hx hb hts hin_X8 hown hK hP 0 rfl rfl 7 (by decide) (hts (.fieldLink RX8 162 "ButtonGuestsModel" "acts" "I") (by decide +kernel)) (fun _ h9 => h9) rfl dX8_remember_61 ?_
    refine lv_imul hx hb dX8_remember_64 ?_
    refine zz_top (y := nI (42 * c1)) (pk_mul 42 c1) ?_
    refine wr_v (fun u => wj [[(b 0, .inr (5, [.int rf, .ref (b 1), .int sn, .ref (b 2), .ref (b 3), .ref (b 4), .ref (b 5), .int (nI c1), .ref (b 6), .ref (b 7), .int sp, .int ou]))], [(b 1, .inl (cy 0, 120, .inl tx))], mW cy (b 2) yn, mW cy (b 3) yt, mW cy (b 4) y3, diW cy (b 5) 588 (va_up d1 c1 yn), diW cy (b 6) 84 ke, [(b 7, .inl (cy 3, 2, .inl ik))]]) (va_runS (As := [.ref (b 2), .int 0, .ref (b 5), .int (nI (42 * c1))]) (rest := []) hF (c_X8_copyState_d l D cy (b 2) (b 5) 42 588 0 c1 (mOf yn) d1 yn (by omega) (by omega) (by omega) (by omega) (fun j _ => by rw [Nat.zero_add]) H.size) (va_cwS 4 hts gX8_remember_X8_copyState rfl rfl rfl (by decide +kernel) ⟨Nat.le_of_ble_eq_true rfl, Nat.le_of_ble_eq_true rfl⟩) (wr_preS hK hP hD (zz_pick2 [[(b 0, .inr (5, [.int rf, .ref (b 1), .int sn, .ref (b 2), .ref (b 3), .ref (b 4), .ref (b 5), .int (nI c1), .ref (b 6), .ref (b 7), .int sp, .int ou]))], [(b 1, .inl (cy 0, 120, .inl tx))], mW cy (b 2) yn, mW cy (b 3) yt, mW cy (b 4) y3, diW cy (b 5) 588 d1, diW cy (b 6) 84 ke, [(b 7, .inl (cy 3, 2, .inl ik))]] 2 5 [0, 1, 3, 4, 6, 7] (show List.Perm ([2, 5] ++ [0, 1, 3, 4, 6, 7]) (List.range 8) by decide) rfl rfl rfl)) rfl rfl hl.1 rfl (lv_room (Nat.le_of_ble_eq_true rfl)) dX8_remember_65 ⟨Nat.le_of_ble_eq_true rfl, Nat.le_of_ble_eq_true rfl⟩) hP hD hS hA (zz_pick2 [[(b 0, .inr (5, [.int rf, .ref (b 1), .int sn, .ref (b 2), .ref (b 3), .ref (b 4), .ref (b 5), .int (nI c1), .ref (b 6), .ref (b 7), .int sp, .int ou]))], [(b 1, .inl (cy 0, 120, .inl tx))], mW cy (b 2) yn, mW cy (b 3) yt, mW cy (b 4) y3, diW cy (b 5) 588 d1, diW cy (b 6) 84 ke, [(b 7, .inl (cy 3, 2, .inl ik))]] 2 5 [0, 1, 3, 4, 6, 7] (show List.Perm ([2, 5] ++ [0, 1, 3, 4, 6, 7]) (List.range 8) by decide) rfl rfl rfl) (fun _ => (zz_pick2 [[(b 0, .inr (5, [.int rf, .ref (b 1), .int sn, .ref (b 2), .ref (b 3), .ref (b 4), .ref (b 5), .int (nI c1), .ref (b 6), .ref (b 7), .int sp, .int ou]))], [(b 1, .inl (cy 0, 120, .inl tx))], mW cy (b 2) yn, mW cy (b 3) yt, mW cy (b 4) y3, diW cy (b 5) 588 (va_up d1 c1 yn), diW cy (b 6) 84 ke, [(b 7, .inl (cy 3, 2, .inl ik))]] 2 5 [0, 1, 3, 4, 6, 7] (show List.Perm ([2, 5] ++ [0, 1, 3, 4, 6, 7]) (List.range 8) by decide) rfl rfl rfl)) (fun u_1 H locs e_2 hP hD hS => ?_)
    have hP : va_P D vwCl (modelW cy b ((rf, sn, nI c1, sp, ou), tx, (yn, yt, y3), (va_up d1 c1 yn), ke, ik)) H := hP
    have hD : va_D A (modelW cy b ((rf, sn, nI c1, sp, ou), tx, (yn, yt, y3), (va_up d1 c1 yn), ke, ik)) := hD
    refine lv_aload_n hx hb dX8_remember_68 rfl (lv_at hl 0 rfl) ?_
    refine lv_dup hx hb dX8_remember_69 rfl ?_
    refine va_get (ci := 5) (v := .int (nI c1)) (C := RX8) (T := TX8) (N := 12) hx hb hts hin_X8 hown hK hP 0 rfl rfl 7 (by decide) (hts (.fieldLink RX8 162 "ButtonGuestsModel" "acts" "I") (by decide +kernel)) (fun _ h9 => h9) rfl dX8_remember_70 ?_
    refine lv_iconst (v := 1) hx hb dX8_remember_73 (by decide) ?_
    refine lv_iadd hx hb dX8_remember_74 ?_
    refine zz_top (y := nI (c1 + 1)) (nI_1 c1) ?_
    refine va_put (ci := 5) (v := .int (nI (c1 + 1))) (ty := .int) (C := RX8) (T := TX8) (N := 12) hx hb hts hin_X8 tyX8 tyX8_ok nmX8 hown hK hP hD hS 0 rfl rfl 7 (by decide) (hts (.fieldLink RX8 162 "ButtonGuestsModel" "acts" "I") (by decide +kernel)) (fun _ h9 => h9) rfl (by decide +kernel) rfl rfl (Nat.le_of_ble_eq_true rfl) dX8_remember_75 (fun H locs hP hD hS => ?_)
    have hP : va_P D vwCl (modelW cy b ((rf, sn, nI (c1 + 1), sp, ou), tx, (yn, yt, y3), (va_up d1 c1 yn), ke, ik)) H := hP
    have hD : va_D A (modelW cy b ((rf, sn, nI (c1 + 1), sp, ou), tx, (yn, yt, y3), (va_up d1 c1 yn), ke, ik)) := hD
    exact hret _ _ H locs ((rf, sn, nI (c1 + 1), sp, ou), tx, (yn, yt, y3), (va_up d1 c1 yn), ke, ik) dX8_remember_78 hP hD hS (by rw [hq1, hq2])
  refine lv_aload_n hx hb dX8_remember_0 rfl (lv_at hl 0 rfl) ?_
  refine va_get (ci := 5) (v := .int (nI a9)) (C := RX8) (T := TX8) (N := 12) hx hb hts hin_X8 hown hK hP 0 rfl rfl 7 (by decide) (hts (.fieldLink RX8 162 "ButtonGuestsModel" "acts" "I") (by decide +kernel)) (fun _ h9 => h9) rfl dX8_remember_1 ?_
  refine lv_bipush (v := 14) hx hb dX8_remember_4 (by decide) ?_
  refine lv_icmp_ne (tgt := 49) hx hb dX8_remember_6 (by decide) (fun c_3 => ?_) (fun c_3 => ?_)
  · have c_3 : ¬ a9 = 14 := fun q => c_3 ((nI_eq (a := a9) (b := 14) (by omega) (by omega)).mpr q)
    exact join1 a9 di (by omega) (by simp only [mRem, if_neg c_3]) (by simp only [mAc, if_neg c_3]) _ _ _ hP hD hS (lv_sub hl [0] rfl)
  · have c_3 : a9 = 14 := (nI_eq (a := a9) (b := 14) (by omega) (by omega)).mp c_3
    subst c_3
    have hP : va_P D vwCl (modelW cy b ((rf, sn, nI 14, sp, ou), tx, (yn, yt, y3), di, ke, ik)) H := hP
    have hD : va_D A (modelW cy b ((rf, sn, nI 14, sp, ou), tx, (yn, yt, y3), di, ke, ik)) := hD
    refine lv_iconst (v := 0) hx hb dX8_remember_9 (by decide) ?_
    refine lv_istore_n (lv' := [(1, .int 0), (0, .ref (b 0))]) hx hb dX8_remember_10 rfl hl (by decide) rfl (fun ls hl => ?_)
    have loop : ∀ (k i : Nat) (gv : Nat → Int32), i ≤ 546 → 547 ≤ i + k → lpN sDown (546 - i) i gv = lpN sDown 546 0 (diOf di) → ∀ (H : Heap) (locs : List Loc) (ls : Array Slot), va_P D vwCl (wj [[(b 0, .inr (5, [.int rf, .ref (b 1), .int sn, .ref (b 2), .ref (b 3), .ref (b 4), .ref (b 5), .int (nI 14), .ref (b 6), .ref (b 7), .int sp, .int ou]))], [(b 1, .inl (cy 0, 120, .inl tx))], mW cy (b 2) yn, mW cy (b 3) yt, mW cy (b 4) y3, [(b 5, .inl (cy 0, 588, .inl gv))], diW cy (b 6) 84 ke, [(b 7, .inl (cy 3, 2, .inl ik))]]) H → va_D A (wj [[(b 0, .inr (5, [.int rf, .ref (b 1), .int sn, .ref (b 2), .ref (b 3), .ref (b 4), .ref (b 5), .int (nI 14), .ref (b 6), .ref (b 7), .int sp, .int ou]))], [(b 1, .inl (cy 0, 120, .inl tx))], mW cy (b 2) yn, mW cy (b 3) yt, mW cy (b 4) y3, [(b 5, .inl (cy 0, 588, .inl gv))], diW cy (b 6) 84 ke, [(b 7, .inl (cy 3, 2, .inl ik))]]) → va_S A s.heap H locs → lv_has ls 2 [(1, .int (nI i)), (0, .ref (b 0))] → W p l e rm_X8_remember s m args below meth c H locs 0 0 Q (F0 m 11 ls []) := by
      intro k
      induction k with
      | zero =>
        intro i gv hi hk hv
        exact absurd hk (by omega)
      | succ k ih =>
        intro i gv hi hk hv H locs ls hP hD hS hl
        refine lv_iload_n hx hb dX8_remember_11 rfl (lv_at hl 0 rfl) ?_
        refine lv_sipush (v := 546) hx hb dX8_remember_12 (by decide) ?_
        refine lv_icmp_ge (tgt := 39) hx hb dX8_remember_15 (by decide) (fun c_4 => ?_) (fun c_4 => ?_)
        · have c_4 : 546 ≤ i := (nI_leI (a := 546) (b := i) (by omega) (by omega)).mp c_4
          have q := (lpN_end c_4 hv).trans diOf_down
          subst q
          have hP : va_P D vwCl (modelW cy b ((rf, sn, nI 14, sp, ou), tx, (yn, yt, y3), (downD di), ke, ik)) H := hP
          have hD : va_D A (modelW cy b ((rf, sn, nI 14, sp, ou), tx, (yn, yt, y3), (downD di), ke, ik)) := hD
          refine lv_aload_n hx hb dX8_remember_39 rfl (lv_at hl 1 rfl) ?_
          refine lv_dup hx hb dX8_remember_40 rfl ?_
          refine va_get (ci := 5) (v := .int (nI 14)) (C := RX8) (T := TX8) (N := 12) hx hb hts hin_X8 hown hK hP 0 rfl rfl 7 (by decide) (hts (.fieldLink RX8 162 "ButtonGuestsModel" "acts" "I") (by decide +kernel)) (fun _ h9 => h9) rfl dX8_remember_41 ?_
          refine lv_iconst (v := 1) hx hb dX8_remember_44 (by decide) ?_
          refine lv_isub hx hb dX8_remember_45 ?_
          refine zz_top (y := nI 13) rfl ?_
          refine va_put (ci := 5) (v := .int (nI 13)) (ty := .int) (C := RX8) (T := TX8) (N := 12) hx hb hts hin_X8 tyX8 tyX8_ok nmX8 hown hK hP hD hS 0 rfl rfl 7 (by decide) (hts (.fieldLink RX8 162 "ButtonGuestsModel" "acts" "I") (by decide +kernel)) (fun _ h9 => h9) rfl (by decide +kernel) rfl rfl (Nat.le_of_ble_eq_true rfl) dX8_remember_46 (fun H locs hP hD hS => ?_)
          have hP : va_P D vwCl (modelW cy b ((rf, sn, nI 13, sp, ou), tx, (yn, yt, y3), (downD di), ke, ik)) H := hP
          have hD : va_D A (modelW cy b ((rf, sn, nI 13, sp, ou), tx, (yn, yt, y3), (downD di), ke, ik)) := hD
          exact join1 13 (downD di) (by decide) (by simp only [mRem, if_pos]) (by simp only [mAc, if_pos]) _ _ _ hP hD hS (lv_sub hl [1] rfl)
        · have c_4 : ¬ 546 ≤ i := fun q => c_4 ((nI_leI (a := 546) (b := i) (by omega) (by omega)).mpr q)
          refine lv_aload_n hx hb dX8_remember_18 rfl (lv_at hl 1 rfl) ?_
          refine va_get (ci := 5) (v := .ref (b 5)) (C := RX8) (T := TX8) (N := 12) hx hb hts hin_X8 hown hK hP 0 rfl rfl 6 (by decide) (hts (.fieldLink RX8 22 "ButtonGuestsModel" "diary" "[I") (by decide +kernel)) (fun _ h9 => h9) rfl dX8_remember_19 ?_
          refine lv_iload_n hx hb dX8_remember_22 rfl (lv_at hl 0 rfl) ?_
          refine lv_aload_n hx hb dX8_remember_23 rfl (lv_at hl 1 rfl) ?_
          refine va_get (ci := 5) (v := .ref (b 5)) (C := RX8) (T := TX8) (N := 12) hx hb hts hin_X8 hown hK hP 0 rfl rfl 6 (by decide) (hts (.fieldLink RX8 22 "ButtonGuestsModel" "diary" "[I") (by decide +kernel)) (fun _ h9 => h9) rfl dX8_remember_24 ?_
          refine lv_iload_n hx hb dX8_remember_27 rfl (lv_at hl 0 rfl) ?_
          refine lv_bipush (v := 42) hx hb dX8_remember_28 (by decide) ?_
          refine lv_iadd hx hb dX8_remember_30 ?_
          refine zz_top (y := nI (i + 42)) (nI_add i 42) ?_
          refine zz_iald hx hb hK hP 5 0 (i + 42) rfl rfl rfl ⟨by omega, Nat.le_of_ble_eq_true rfl⟩ dX8_remember_31 ?_
          refine zz_iast hx hb hK hP hD hS 5 0 i rfl rfl rfl ⟨by omega, Nat.le_of_ble_eq_true rfl⟩ dX8_remember_32 (fun H locs hP hD hS => ?_)
          have hP : va_P D vwCl (wj [[(b 0, .inr (5, [.int rf, .ref (b 1), .int sn, .ref (b 2), .ref (b 3), .ref (b 4), .ref (b 5), .int (nI 14), .ref (b 6), .ref (b 7), .int sp, .int ou]))], [(b 1, .inl (cy 0, 120, .inl tx))], mW cy (b 2) yn, mW cy (b 3) yt, mW cy (b 4) y3, [(b 5, .inl (cy 0, 588, .inl ((upd gv i (gv (i + 42))))))], diW cy (b 6) 84 ke, [(b 7, .inl (cy 3, 2, .inl ik))]]) H := hP
          have hD : va_D A (wj [[(b 0, .inr (5, [.int rf, .ref (b 1), .int sn, .ref (b 2), .ref (b 3), .ref (b 4), .ref (b 5), .int (nI 14), .ref (b 6), .ref (b 7), .int sp, .int ou]))], [(b 1, .inl (cy 0, 120, .inl tx))], mW cy (b 2) yn, mW cy (b 3) yt, mW cy (b 4) y3, [(b 5, .inl (cy 0, 588, .inl ((upd gv i (gv (i + 42))))))], diW cy (b 6) 84 ke, [(b 7, .inl (cy 3, 2, .inl ik))]]) := hD
          refine lv_iinc (v := nI (i + 1)) (lv' := [(1, .int (nI (i + 1))), (0, .ref (b 0))]) hx hb dX8_remember_33 hl (k := 0) rfl (nI_add (i) 1) (by decide) rfl (fun ls hl => ?_)
          refine lv_goto (tgt := 11) hx hb dX8_remember_36 (by decide) ?_
          exact ih (i + 1) _ (by omega) (by omega) (lpN_next (by omega) hv rfl) _ _ _ hP hD hS (lv_sub hl [0, 1] rfl)
    exact loop 547 0 _ (Nat.zero_le _) (by omega) rfl _ _ _ hP hD hS (lv_sub hl [0, 1] rfl)
abbrev rm_X8_append : Room := { frames := 1, cells := 0, slots := 0, locals := 25 }
set_option maxHeartbeats 4000000 in
set_option maxRecDepth 100000 in
theorem c_X8_append (l : Launch) (D : va_G) (cy : Nat → ClassId) (b : Nat → Nat) (rf sn ac sp ou : Int32) (tx : Nat → Int32) (yn yt y3 : HS) (di ke : Nat → HS) (ik : Nat → Int32) (n : Nat) (hn : n ≤ 4) (hg : yn.1.1 = nI n) (z : Nat) (hz : z ≤ 120) (v : Int32) (sz : Nat) : Met l yX8_append wsX8_append rm_X8_append (wrP D cy [.ref (b 0), .int v] (modelW cy b ((rf, nI z, ac, sp, ou), tx, (yn, yt, y3), di, ke, ik)) sz) (va_Qi (fun (r : Int32) (u : MS) => mPost (kApp z v) r (nI (z + 1)) u (((0, nI (z + 1), ac, sp, ou), upd tx z v, (yn, yt, y3), di, ke, ik)) ((rf, nI z, ac, sp, ou), tx, (yn, yt, y3), di, ke, ik)) (wrB D (va_A (modelW cy b ((rf, nI z, ac, sp, ou), tx, (yn, yt, y3), di, ke, ik)) sz) (fun u => modelW cy b u)) (va_A (modelW cy b ((rf, nI z, ac, sp, ou), tx, (yn, yt, y3), di, ke, ik)) sz)) 0 0 (va_A (modelW cy b ((rf, nI z, ac, sp, ou), tx, (yn, yt, y3), di, ke, ik)) sz) := by
  refine Mwi (cc := cX8_append) (maxL := 2) (ty := .int) (by decide) rfl (Nat.le_of_ble_eq_true rfl) (fun _ _ _ => rfl) ?_
  intro p e s m args below meth c Q ls A hsz hF hK hP hD hA hl hret
  obtain ⟨hx, hb, hml, hown, hts⟩ := id hF
  have hown : s.vm.findClass RX8 = some m.cls := hown
  have hin_X8 : ∀ w ∈ u_ws RX8 TX8 12, w ∈ wsX8_append := by decide +kernel
  have hl : lv_has ls 2 [(0, .ref (b 0)), (1, .int v)] := hl
  suffices key : ∀ (H : Heap) (locs : List Loc), va_P D vwCl (modelW cy b ((rf, nI z, ac, sp, ou), tx, (yn, yt, y3), di, ke, ik)) H → va_D A (modelW cy b ((rf, nI z, ac, sp, ou), tx, (yn, yt, y3), di, ke, ik)) → va_S A s.heap H locs → W p l e rm_X8_append s m args below meth c H locs 0 0 Q (F0 m 0 ls []) from key s.heap [] hP hD va_S.rf
  intro H locs hP hD hS
  refine lv_aload_n hx hb dX8_append_0 rfl (lv_at hl 0 rfl) ?_
  refine lv_iload_n hx hb dX8_append_1 rfl (lv_at hl 1 rfl) ?_
  refine lv_i2l (v := Int32.toInt64 v) hx hb dX8_append_2 rfl ?_
  refine lv_lconst (v := 0) hx hb dX8_append_3 (by decide) ?_
  refine lv_ldc2 (v := 255) hx hb hown (hts (.constantLong RX8 103 (255)) (by decide +kernel)) dX8_append_4 ?_
  refine rd_S (As := [.long (Int32.toInt64 v), .long 0, .long 255]) (rest := [.ref (b 0)]) hF (c_X8_in l D cy (Int32.toInt64 v) 0 255) (va_cwS 3 hts gX8_append_X8_in rfl rfl rfl (by decide +kernel) ⟨Nat.le_of_ble_eq_true rfl, Nat.le_of_ble_eq_true rfl⟩) hK (fun k q h => by simp at h) rfl hl.1 rfl (Nat.le_of_ble_eq_true rfl) dX8_append_7 ⟨Nat.le_of_ble_eq_true rfl, Nat.le_of_ble_eq_true rfl⟩ ?_
  refine lv_if_ne (tgt := 17) hx hb dX8_append_10 (by decide) (fun c_1 => ?_) (fun c_1 => ?_)
  · have c_1 := zb_ne.mp c_1
    refine lv_aload_n hx hb dX8_append_17 rfl (lv_at hl 0 rfl) ?_
    refine va_get (ci := 5) (v := .int (nI z)) (C := RX8) (T := TX8) (N := 12) hx hb hts hin_X8 hown hK hP 0 rfl rfl 2 (by decide) (hts (.fieldLink RX8 105 "ButtonGuestsModel" "size" "I") (by decide +kernel)) (fun _ h9 => h9) rfl dX8_append_18 ?_
    refine lv_bipush (v := 120) hx hb dX8_append_21 (by decide) ?_
    refine lv_icmp_ne (tgt := 30) hx hb dX8_append_23 (by decide) (fun c_2 => ?_) (fun c_2 => ?_)
    · have c_2 : ¬ z = 120 := fun q => c_2 ((nI_eq (a := z) (b := 120) (by omega) (by omega)).mpr q)
      refine lv_iconst (v := 0) hx hb dX8_append_30 (by decide) ?_
      refine wr_i (fun u => wj [[(b 0, .inr (5, [.int 0, .ref (b 1), .int (nI z), .ref (b 2), .ref (b 3), .ref (b 4), .ref (b 5), .int ac, .ref (b 6), .ref (b 7), .int sp, .int ou]))], [(b 1, .inl (cy 0, 120, .inl tx))], mW cy (b 2) yn, mW cy (b 3) yt, mW cy (b 4) y3, diW cy (b 5) 588 di, diW cy (b 6) 84 ke, [(b 7, .inl (cy 3, 2, .inl ik))]]) (va_runV (As := [.int 0]) (rest := []) hF (c_X8_refused l D cy b rf (nI z) ac sp ou 0 H.size) (cwV 1 hts gX8_append_X8_refused rfl rfl rfl (by decide +kernel) ⟨Nat.le_of_ble_eq_true rfl, Nat.le_of_ble_eq_true rfl⟩) (wr_preV hK hP hD (zz_pick1 [[(b 0, .inr (5, [.int rf, .ref (b 1), .int (nI z), .ref (b 2), .ref (b 3), .ref (b 4), .ref (b 5), .int ac, .ref (b 6), .ref (b 7), .int sp, .int ou]))], [(b 1, .inl (cy 0, 120, .inl tx))], mW cy (b 2) yn, mW cy (b 3) yt, mW cy (b 4) y3, diW cy (b 5) 588 di, diW cy (b 6) 84 ke, [(b 7, .inl (cy 3, 2, .inl ik))]] 0 [1, 2, 3, 4, 5, 6, 7] (show List.Perm ([0] ++ [1, 2, 3, 4, 5, 6, 7]) (List.range 8) by decide) rfl rfl) 0 5 rfl rfl rfl) rfl rfl hl.1 rfl (lv_room (Nat.le_of_ble_eq_true rfl)) dX8_append_31 ⟨Nat.le_of_ble_eq_true rfl, Nat.le_of_ble_eq_true rfl⟩) hP hD hS hA (zz_pick1 [[(b 0, .inr (5, [.int rf, .ref (b 1), .int (nI z), .ref (b 2), .ref (b 3), .ref (b 4), .ref (b 5), .int ac, .ref (b 6), .ref (b 7), .int sp, .int ou]))], [(b 1, .inl (cy 0, 120, .inl tx))], mW cy (b 2) yn, mW cy (b 3) yt, mW cy (b 4) y3, diW cy (b 5) 588 di, diW cy (b 6) 84 ke, [(b 7, .inl (cy 3, 2, .inl ik))]] 0 [1, 2, 3, 4, 5, 6, 7] (show List.Perm ([0] ++ [1, 2, 3, 4, 5, 6, 7]) (List.range 8) by decide) rfl rfl) (fun _ => (zz_pick1 [[(b 0, .inr (5, [.int 0, .ref (b 1), .int (nI z), .ref (b 2), .ref (b 3), .ref (b 4), .ref (b 5), .int ac, .ref (b 6), .ref (b 7), .int sp, .int ou]))], [(b 1, .inl (cy 0, 120, .inl tx))], mW cy (b 2) yn, mW cy (b 3) yt, mW cy (b 4) y3, diW cy (b 5) 588 di, diW cy (b 6) 84 ke, [(b 7, .inl (cy 3, 2, .inl ik))]] 0 [1, 2, 3, 4, 5, 6, 7] (show List.Perm ([0] ++ [1, 2, 3, 4, 5, 6, 7]) (List.range 8) by decide) rfl rfl)) (fun r_3 u_4 H locs e_5 hP hD hS => ?_)
      obtain rfl := e_5
      have hP : va_P D vwCl (modelW cy b ((0, nI z, ac, sp, ou), tx, (yn, yt, y3), di, ke, ik)) H := hP
      have hD : va_D A (modelW cy b ((0, nI z, ac, sp, ou), tx, (yn, yt, y3), di, ke, ik)) := hD
      refine lv_if_eq (tgt := 39) hx hb dX8_append_34 (by decide) (fun c_6 => ?_) (fun c_6 => ?_)
      · refine lv_aload_n hx hb dX8_append_39 rfl (lv_at hl 0 rfl) ?_
        refine va_get (ci := 5) (v := .ref (b 1)) (C := RX8) (T := TX8) (N := 12) hx hb hts hin_X8 hown hK hP 0 rfl rfl 1 (by decide) (hts (.fieldLink RX8 7 "ButtonGuestsModel" "text" "[I") (by decide +kernel)) (fun _ h9 => h9) rfl dX8_append_40 ?_
        refine lv_aload_n hx hb dX8_append_43 rfl (lv_at hl 0 rfl) ?_
        refine va_get (ci := 5) (v := .int (nI z)) (C := RX8) (T := TX8) (N := 12) hx hb hts hin_X8 hown hK hP 0 rfl rfl 2 (by decide) (hts (.fieldLink RX8 105 "ButtonGuestsModel" "size" "I") (by decide +kernel)) (fun _ h9 => h9) rfl dX8_append_44 ?_
        refine lv_iload_n hx hb dX8_append_47 rfl (lv_at hl 1 rfl) ?_
        refine zz_iast hx hb hK hP hD hS 1 0 z rfl rfl rfl ⟨by omega, Nat.le_of_ble_eq_true rfl⟩ dX8_append_48 (fun H locs hP hD hS => ?_)
        have hP : va_P D vwCl (modelW cy b ((0, nI z, ac, sp, ou), (upd tx z v), (yn, yt, y3), di, ke, ik)) H := hP
        have hD : va_D A (modelW cy b ((0, nI z, ac, sp, ou), (upd tx z v), (yn, yt, y3), di, ke, ik)) := hD
        refine lv_aload_n hx hb dX8_append_49 rfl (lv_at hl 0 rfl) ?_
        refine lv_dup hx hb dX8_append_50 rfl ?_
        refine va_get (ci := 5) (v := .int (nI z)) (C := RX8) (T := TX8) (N := 12) hx hb hts hin_X8 hown hK hP 0 rfl rfl 2 (by decide) (hts (.fieldLink RX8 105 "ButtonGuestsModel" "size" "I") (by decide +kernel)) (fun _ h9 => h9) rfl dX8_append_51 ?_
        refine lv_iconst (v := 1) hx hb dX8_append_54 (by decide) ?_
        refine lv_iadd hx hb dX8_append_55 ?_
        refine zz_top (y := nI (z + 1)) (nI_1 z) ?_
        refine va_put (ci := 5) (v := .int (nI (z + 1))) (ty := .int) (C := RX8) (T := TX8) (N := 12) hx hb hts hin_X8 tyX8 tyX8_ok nmX8 hown hK hP hD hS 0 rfl rfl 2 (by decide) (hts (.fieldLink RX8 105 "ButtonGuestsModel" "size" "I") (by decide +kernel)) (fun _ h9 => h9) rfl (by decide +kernel) rfl rfl (Nat.le_of_ble_eq_true rfl) dX8_append_56 (fun H locs hP hD hS => ?_)
        have hP : va_P D vwCl (modelW cy b ((0, nI (z + 1), ac, sp, ou), (upd tx z v), (yn, yt, y3), di, ke, ik)) H := hP
        have hD : va_D A (modelW cy b ((0, nI (z + 1), ac, sp, ou), (upd tx z v), (yn, yt, y3), di, ke, ik)) := hD
        refine lv_aload_n hx hb dX8_append_59 rfl (lv_at hl 0 rfl) ?_
        refine va_get (ci := 5) (v := .int (nI (z + 1))) (C := RX8) (T := TX8) (N := 12) hx hb hts hin_X8 hown hK hP 0 rfl rfl 2 (by decide) (hts (.fieldLink RX8 105 "ButtonGuestsModel" "size" "I") (by decide +kernel)) (fun _ h9 => h9) rfl dX8_append_60 ?_
        exact hret _ _ H locs _ ((0, nI (z + 1), ac, sp, ou), (upd tx z v), (yn, yt, y3), di, ke, ik) dX8_append_63 hP hD hS (mPost_r (by simp only [kApp, if_pos c_1, if_neg c_2, if_pos c_6]) (rfl) (rfl))
      · exact absurd c_6 (by decide)
    · have c_2 : z = 120 := (nI_eq (a := z) (b := 120) (by omega) (by omega)).mp c_2
      refine lv_iconst (v := 2) hx hb dX8_append_26 (by decide) ?_
      refine lv_goto (tgt := 31) hx hb dX8_append_27 (by decide) ?_
      refine wr_i (fun u => wj [[(b 0, .inr (5, [.int 2, .ref (b 1), .int (nI z), .ref (b 2), .ref (b 3), .ref (b 4), .ref (b 5), .int ac, .ref (b 6), .ref (b 7), .int sp, .int ou]))], [(b 1, .inl (cy 0, 120, .inl tx))], mW cy (b 2) yn, mW cy (b 3) yt, mW cy (b 4) y3, diW cy (b 5) 588 di, diW cy (b 6) 84 ke, [(b 7, .inl (cy 3, 2, .inl ik))]]) (va_runV (As := [.int 2]) (rest := []) hF (c_X8_refused l D cy b rf (nI z) ac sp ou 2 H.size) (cwV 1 hts gX8_append_X8_refused rfl rfl rfl (by decide +kernel) ⟨Nat.le_of_ble_eq_true rfl, Nat.le_of_ble_eq_true rfl⟩) (wr_preV hK hP hD (zz_pick1 [[(b 0, .inr (5, [.int rf, .ref (b 1), .int (nI z), .ref (b 2), .ref (b 3), .ref (b 4), .ref (b 5), .int ac, .ref (b 6), .ref (b 7), .int sp, .int ou]))], [(b 1, .inl (cy 0, 120, .inl tx))], mW cy (b 2) yn, mW cy (b 3) yt, mW cy (b 4) y3, diW cy (b 5) 588 di, diW cy (b 6) 84 ke, [(b 7, .inl (cy 3, 2, .inl ik))]] 0 [1, 2, 3, 4, 5, 6, 7] (show List.Perm ([0] ++ [1, 2, 3, 4, 5, 6, 7]) (List.range 8) by decide) rfl rfl) 0 5 rfl rfl rfl) rfl rfl hl.1 rfl (lv_room (Nat.le_of_ble_eq_true rfl)) dX8_append_31 ⟨Nat.le_of_ble_eq_true rfl, Nat.le_of_ble_eq_true rfl⟩) hP hD hS hA (zz_pick1 [[(b 0, .inr (5, [.int rf, .ref (b 1), .int (nI z), .ref (b 2), .ref (b 3), .ref (b 4), .ref (b 5), .int ac, .ref (b 6), .ref (b 7), .int sp, .int ou]))], [(b 1, .inl (cy 0, 120, .inl tx))], mW cy (b 2) yn, mW cy (b 3) yt, mW cy (b 4) y3, diW cy (b 5) 588 di, diW cy (b 6) 84 ke, [(b 7, .inl (cy 3, 2, .inl ik))]] 0 [1, 2, 3, 4, 5, 6, 7] (show List.Perm ([0] ++ [1, 2, 3, 4, 5, 6, 7]) (List.range 8) by decide) rfl rfl) (fun _ => (zz_pick1 [[(b 0, .inr (5, [.int 2, .ref (b 1), .int (nI z), .ref (b 2), .ref (b 3), .ref (b 4), .ref (b 5), .int ac, .ref (b 6), .ref (b 7), .int sp, .int ou]))], [(b 1, .inl (cy 0, 120, .inl tx))], mW cy (b 2) yn, mW cy (b 3) yt, mW cy (b 4) y3, diW cy (b 5) 588 di, diW cy (b 6) 84 ke, [(b 7, .inl (cy 3, 2, .inl ik))]] 0 [1, 2, 3, 4, 5, 6, 7] (show List.Perm ([0] ++ [1, 2, 3, 4, 5, 6, 7]) (List.range 8) by decide) rfl rfl)) (fun r_7 u_8 H locs e_9 hP hD hS => ?_)
      obtain rfl := e_9
      have hP : va_P D vwCl (modelW cy b ((2, nI z, ac, sp, ou), tx, (yn, yt, y3), di, ke, ik)) H := hP
      have hD : va_D A (modelW cy b ((2, nI z, ac, sp, ou), tx, (yn, yt, y3), di, ke, ik)) := hD
      refine lv_if_eq (tgt := 39) hx hb dX8_append_34 (by decide) (fun c_10 => ?_) (fun c_10 => ?_)
      · exact absurd c_10 (by decide)
      · refine lv_iconst (v := 0) hx hb dX8_append_37 (by decide) ?_
        exact hret _ _ H locs _ ((2, nI z, ac, sp, ou), tx, (yn, yt, y3), di, ke, ik) dX8_append_38 hP hD hS (mPost_t (K := (kApp z v)) (k := 2) (U := ((rf, nI z, ac, sp, ou), tx, (yn, yt, y3), di, ke, ik)) (by simp only [kApp, if_pos c_1, if_pos c_2, if_neg c_10]) (by decide))
  · have c_1 := zb_eq.mp c_1
    refine lv_iconst (v := 1) hx hb dX8_append_13 (by decide) ?_
    refine lv_goto (tgt := 31) hx hb dX8_append_14 (by decide) ?_
    refine wr_i (fun u => wj [[(b 0, .inr (5, [.int 1, .ref (b 1), .int (nI z), .ref (b 2), .ref (b 3), .ref (b 4), .ref (b 5), .int ac, .ref (b 6), .ref (b 7), .int sp, .int ou]))], [(b 1, .inl (cy 0, 120, .inl tx))], mW cy (b 2) yn, mW cy (b 3) yt, mW cy (b 4) y3, diW cy (b 5) 588 di, diW cy (b 6) 84 ke, [(b 7, .inl (cy 3, 2, .inl ik))]]) (va_runV (As := [.int 1]) (rest := []) hF (c_X8_refused l D cy b rf (nI z) ac sp ou 1 H.size) (cwV 1 hts gX8_append_X8_refused rfl rfl rfl (by decide +kernel) ⟨Nat.le_of_ble_eq_true rfl, Nat.le_of_ble_eq_true rfl⟩) (wr_preV hK hP hD (zz_pick1 [[(b 0, .inr (5, [.int rf, .ref (b 1), .int (nI z), .ref (b 2), .ref (b 3), .ref (b 4), .ref (b 5), .int ac, .ref (b 6), .ref (b 7), .int sp, .int ou]))], [(b 1, .inl (cy 0, 120, .inl tx))], mW cy (b 2) yn, mW cy (b 3) yt, mW cy (b 4) y3, diW cy (b 5) 588 di, diW cy (b 6) 84 ke, [(b 7, .inl (cy 3, 2, .inl ik))]] 0 [1, 2, 3, 4, 5, 6, 7] (show List.Perm ([0] ++ [1, 2, 3, 4, 5, 6, 7]) (List.range 8) by decide) rfl rfl) 0 5 rfl rfl rfl) rfl rfl hl.1 rfl (lv_room (Nat.le_of_ble_eq_true rfl)) dX8_append_31 ⟨Nat.le_of_ble_eq_true rfl, Nat.le_of_ble_eq_true rfl⟩) hP hD hS hA (zz_pick1 [[(b 0, .inr (5, [.int rf, .ref (b 1), .int (nI z), .ref (b 2), .ref (b 3), .ref (b 4), .ref (b 5), .int ac, .ref (b 6), .ref (b 7), .int sp, .int ou]))], [(b 1, .inl (cy 0, 120, .inl tx))], mW cy (b 2) yn, mW cy (b 3) yt, mW cy (b 4) y3, diW cy (b 5) 588 di, diW cy (b 6) 84 ke, [(b 7, .inl (cy 3, 2, .inl ik))]] 0 [1, 2, 3, 4, 5, 6, 7] (show List.Perm ([0] ++ [1, 2, 3, 4, 5, 6, 7]) (List.range 8) by decide) rfl rfl) (fun _ => (zz_pick1 [[(b 0, .inr (5, [.int 1, .ref (b 1), .int (nI z), .ref (b 2), .ref (b 3), .ref (b 4), .ref (b 5), .int ac, .ref (b 6), .ref (b 7), .int sp, .int ou]))], [(b 1, .inl (cy 0, 120, .inl tx))], mW cy (b 2) yn, mW cy (b 3) yt, mW cy (b 4) y3, diW cy (b 5) 588 di, diW cy (b 6) 84 ke, [(b 7, .inl (cy 3, 2, .inl ik))]] 0 [1, 2, 3, 4, 5, 6, 7] (show List.Perm ([0] ++ [1, 2, 3, 4, 5, 6, 7]) (List.range 8) by decide) rfl rfl)) (fun r_11 u_12 H locs e_13 hP hD hS => ?_)
    obtain rfl := e_13
    have hP : va_P D vwCl (modelW cy b ((1, nI z, ac, sp, ou), tx, (yn, yt, y3), di, ke, ik)) H := hP
    have hD : va_D A (modelW cy b ((1, nI z, ac, sp, ou), tx, (yn, yt, y3), di, ke, ik)) := hD
    refine lv_if_eq (tgt := 39) hx hb dX8_append_34 (by decide) (fun c_14 => ?_) (fun c_14 => ?_)
    · exact absurd c_14 (by decide)
    · refine lv_iconst (v := 0) hx hb dX8_append_37 (by decide) ?_
      exact hret _ _ H locs _ ((1, nI z, ac, sp, ou), tx, (yn, yt, y3), di, ke, ik) dX8_append_38 hP hD hS (mPost_t (K := (kApp z v)) (k := 1) (U := ((rf, nI z, ac, sp, ou), tx, (yn, yt, y3), di, ke, ik)) (by simp only [kApp, if_neg c_1, if_neg c_14]) (by decide))
abbrev rm_X8_clearText : Room := { frames := 0, cells := 0, slots := 0, locals := 0 }
set_option maxHeartbeats 4000000 in
set_option maxRecDepth 100000 in
theorem c_X8_clearText (l : Launch) (D : va_G) (cy : Nat → ClassId) (b : Nat → Nat) (rf sn ac sp ou : Int32) (tx : Nat → Int32) (yn yt y3 : HS) (di ke : Nat → HS) (ik : Nat → Int32) (n : Nat) (hn : n ≤ 4) (hg : yn.1.1 = nI n) (sz : Nat) : Met l yX8_clearText wsX8_clearText rm_X8_clearText (wrP D cy [.ref (b 0)] (modelW cy b ((rf, sn, ac, sp, ou), tx, (yn, yt, y3), di, ke, ik)) sz) (va_Qi (fun (r : Int32) (u : MS) => r = sn ∧ u = ((0, 0, ac, sp, ou), tx, (yn, yt, y3), di, ke, ik)) (wrB D (va_A (modelW cy b ((rf, sn, ac, sp, ou), tx, (yn, yt, y3), di, ke, ik)) sz) (fun u => modelW cy b u)) (va_A (modelW cy b ((rf, sn, ac, sp, ou), tx, (yn, yt, y3), di, ke, ik)) sz)) 0 0 (va_A (modelW cy b ((rf, sn, ac, sp, ou), tx, (yn, yt, y3), di, ke, ik)) sz) := by
  refine Mwi (cc := cX8_clearText) (maxL := 2) (ty := .int) (by decide) rfl (Nat.le_of_ble_eq_true rfl) (fun _ _ _ => rfl) ?_
  intro p e s m args below meth c Q ls A hsz hF hK hP hD hA hl hret
  obtain ⟨hx, hb, hml, hown, hts⟩ := id hF
  have hown : s.vm.findClass RX8 = some m.cls := hown
  have hin_X8 : ∀ w ∈ u_ws RX8 TX8 12, w ∈ wsX8_clearText := by decide +kernel
  have hl : lv_has ls 2 [(0, .ref (b 0))] := hl
  suffices key : ∀ (H : Heap) (locs : List Loc), va_P D vwCl (modelW cy b ((rf, sn, ac, sp, ou), tx, (yn, yt, y3), di, ke, ik)) H → va_D A (modelW cy b ((rf, sn, ac, sp, ou), tx, (yn, yt, y3), di, ke, ik)) → va_S A s.heap H locs → W p l e rm_X8_clearText s m args below meth c H locs 0 0 Q (F0 m 0 ls []) from key s.heap [] hP hD va_S.rf
  intro H locs hP hD hS
  refine lv_aload_n hx hb dX8_clearText_0 rfl (lv_at hl 0 rfl) ?_
  refine lv_iconst (v := 0) hx hb dX8_clearText_1 (by decide) ?_
  refine va_put (ci := 5) (v := .int 0) (ty := .int) (C := RX8) (T := TX8) (N := 12) hx hb hts hin_X8 tyX8 tyX8_ok nmX8 hown hK hP hD hS 0 rfl rfl 0 (by decide) (hts (.fieldLink RX8 36 "ButtonGuestsModel" "refusal" "I") (by decide +kernel)) (fun _ h9 => h9) rfl (by decide +kernel) rfl rfl (Nat.le_of_ble_eq_true rfl) dX8_clearText_2 (fun H locs hP hD hS => ?_)
  have hP : va_P D vwCl (modelW cy b ((0, sn, ac, sp, ou), tx, (yn, yt, y3), di, ke, ik)) H := hP
  have hD : va_D A (modelW cy b ((0, sn, ac, sp, ou), tx, (yn, yt, y3), di, ke, ik)) := hD
  refine lv_aload_n hx hb dX8_clearText_5 rfl (lv_at hl 0 rfl) ?_
  refine va_get (ci := 5) (v := .int sn) (C := RX8) (T := TX8) (N := 12) hx hb hts hin_X8 hown hK hP 0 rfl rfl 2 (by decide) (hts (.fieldLink RX8 105 "ButtonGuestsModel" "size" "I") (by decide +kernel)) (fun _ h9 => h9) rfl dX8_clearText_6 ?_
  refine lv_istore_n (lv' := [(1, .int sn), (0, .ref (b 0))]) hx hb dX8_clearText_9 rfl hl (by decide) rfl (fun ls hl => ?_)
  refine lv_aload_n hx hb dX8_clearText_10 rfl (lv_at hl 1 rfl) ?_
  refine lv_iconst (v := 0) hx hb dX8_clearText_11 (by decide) ?_
  refine va_put (ci := 5) (v := .int 0) (ty := .int) (C := RX8) (T := TX8) (N := 12) hx hb hts hin_X8 tyX8 tyX8_ok nmX8 hown hK hP hD hS 0 rfl rfl 2 (by decide) (hts (.fieldLink RX8 105 "ButtonGuestsModel" "size" "I") (by decide +kernel)) (fun _ h9 => h9) rfl (by decide +kernel) rfl rfl (Nat.le_of_ble_eq_true rfl) dX8_clearText_12 (fun H locs hP hD hS => ?_)
  have hP : va_P D vwCl (modelW cy b ((0, 0, ac, sp, ou), tx, (yn, yt, y3), di, ke, ik)) H := hP
  have hD : va_D A (modelW cy b ((0, 0, ac, sp, ou), tx, (yn, yt, y3), di, ke, ik)) := hD
  refine lv_iload_n hx hb dX8_clearText_15 rfl (lv_at hl 0 rfl) ?_
  exact hret _ _ H locs _ ((0, 0, ac, sp, ou), tx, (yn, yt, y3), di, ke, ik) dX8_clearText_16 hP hD hS ⟨rfl, rfl⟩
abbrev rm_X8_about : Room := { frames := 2, cells := 0, slots := 0, locals := 45 }
set_option maxHeartbeats 4000000 in
set_option maxRecDepth 100000 in
theorem c_X8_about (l : Launch) (D : va_G) (cy : Nat → ClassId) (b : Nat → Nat) (rf sn ac sp ou : Int32) (tx : Nat → Int32) (yn yt y3 : HS) (di ke : Nat → HS) (ik : Nat → Int32) (n : Nat) (hn : n ≤ 4) (hg : yn.1.1 = nI n) (v : Int32) (sz : Nat) : Met l yX8_about wsX8_about rm_X8_about (wrP D cy [.ref (b 0), .int v] (modelW cy b ((rf, sn, ac, sp, ou), tx, (yn, yt, y3), di, ke, ik)) sz) (va_Qi (fun (r : Int32) (u : MS) => mPost (kAbout v) r (hNum n yn v) u (((0, sn, ac, sp, ou), tx, (yn, yt, y3), di, ke, ik)) ((rf, sn, ac, sp, ou), tx, (yn, yt, y3), di, ke, ik)) (wrB D (va_A (modelW cy b ((rf, sn, ac, sp, ou), tx, (yn, yt, y3), di, ke, ik)) sz) (fun u => modelW cy b u)) (va_A (modelW cy b ((rf, sn, ac, sp, ou), tx, (yn, yt, y3), di, ke, ik)) sz)) 0 0 (va_A (modelW cy b ((rf, sn, ac, sp, ou), tx, (yn, yt, y3), di, ke, ik)) sz) := by
  refine Mwi (cc := cX8_about) (maxL := 2) (ty := .int) (by decide) rfl (Nat.le_of_ble_eq_true rfl) (fun _ _ _ => rfl) ?_
  intro p e s m args below meth c Q ls A hsz hF hK hP hD hA hl hret
  obtain ⟨hx, hb, hml, hown, hts⟩ := id hF
  have hown : s.vm.findClass RX8 = some m.cls := hown
  have hin_X8 : ∀ w ∈ u_ws RX8 TX8 12, w ∈ wsX8_about := by decide +kernel
  have hl : lv_has ls 2 [(0, .ref (b 0)), (1, .int v)] := hl
  suffices key : ∀ (H : Heap) (locs : List Loc), va_P D vwCl (modelW cy b ((rf, sn, ac, sp, ou), tx, (yn, yt, y3), di, ke, ik)) H → va_D A (modelW cy b ((rf, sn, ac, sp, ou), tx, (yn, yt, y3), di, ke, ik)) → va_S A s.heap H locs → W p l e rm_X8_about s m args below meth c H locs 0 0 Q (F0 m 0 ls []) from key s.heap [] hP hD va_S.rf
  intro H locs hP hD hS
  refine lv_aload_n hx hb dX8_about_0 rfl (lv_at hl 0 rfl) ?_
  refine lv_iload_n hx hb dX8_about_1 rfl (lv_at hl 1 rfl) ?_
  refine lv_i2l (v := Int32.toInt64 v) hx hb dX8_about_2 rfl ?_
  refine lv_lconst (v := 0) hx hb dX8_about_3 (by decide) ?_
  refine lv_ldc2 (v := 11) hx hb hown (hts (.constantLong RX8 165 (11)) (by decide +kernel)) dX8_about_4 ?_
  refine rd_S (As := [.long (Int32.toInt64 v), .long 0, .long 11]) (rest := [.ref (b 0)]) hF (c_X8_in l D cy (Int32.toInt64 v) 0 11) (va_cwS 3 hts gX8_about_X8_in rfl rfl rfl (by decide +kernel) ⟨Nat.le_of_ble_eq_true rfl, Nat.le_of_ble_eq_true rfl⟩) hK (fun k q h => by simp at h) rfl hl.1 rfl (Nat.le_of_ble_eq_true rfl) dX8_about_7 ⟨Nat.le_of_ble_eq_true rfl, Nat.le_of_ble_eq_true rfl⟩ ?_
  refine lv_if_eq (tgt := 17) hx hb dX8_about_10 (by decide) (fun c_1 => ?_) (fun c_1 => ?_)
  · have c_1 := zb_eq.mp c_1
    refine lv_iconst (v := 1) hx hb dX8_about_17 (by decide) ?_
    refine wr_i (fun u => wj [[(b 0, .inr (5, [.int 1, .ref (b 1), .int sn, .ref (b 2), .ref (b 3), .ref (b 4), .ref (b 5), .int ac, .ref (b 6), .ref (b 7), .int sp, .int ou]))], [(b 1, .inl (cy 0, 120, .inl tx))], mW cy (b 2) yn, mW cy (b 3) yt, mW cy (b 4) y3, diW cy (b 5) 588 di, diW cy (b 6) 84 ke, [(b 7, .inl (cy 3, 2, .inl ik))]]) (va_runV (As := [.int 1]) (rest := []) hF (c_X8_refused l D cy b rf sn ac sp ou 1 H.size) (cwV 1 hts gX8_about_X8_refused rfl rfl rfl (by decide +kernel) ⟨Nat.le_of_ble_eq_true rfl, Nat.le_of_ble_eq_true rfl⟩) (wr_preV hK hP hD (zz_pick1 [[(b 0, .inr (5, [.int rf, .ref (b 1), .int sn, .ref (b 2), .ref (b 3), .ref (b 4), .ref (b 5), .int ac, .ref (b 6), .ref (b 7), .int sp, .int ou]))], [(b 1, .inl (cy 0, 120, .inl tx))], mW cy (b 2) yn, mW cy (b 3) yt, mW cy (b 4) y3, diW cy (b 5) 588 di, diW cy (b 6) 84 ke, [(b 7, .inl (cy 3, 2, .inl ik))]] 0 [1, 2, 3, 4, 5, 6, 7] (show List.Perm ([0] ++ [1, 2, 3, 4, 5, 6, 7]) (List.range 8) by decide) rfl rfl) 0 5 rfl rfl rfl) rfl rfl hl.1 rfl (lv_room (Nat.le_of_ble_eq_true rfl)) dX8_about_18 ⟨Nat.le_of_ble_eq_true rfl, Nat.le_of_ble_eq_true rfl⟩) hP hD hS hA (zz_pick1 [[(b 0, .inr (5, [.int rf, .ref (b 1), .int sn, .ref (b 2), .ref (b 3), .ref (b 4), .ref (b 5), .int ac, .ref (b 6), .ref (b 7), .int sp, .int ou]))], [(b 1, .inl (cy 0, 120, .inl tx))], mW cy (b 2) yn, mW cy (b 3) yt, mW cy (b 4) y3, diW cy (b 5) 588 di, diW cy (b 6) 84 ke, [(b 7, .inl (cy 3, 2, .inl ik))]] 0 [1, 2, 3, 4, 5, 6, 7] (show List.Perm ([0] ++ [1, 2, 3, 4, 5, 6, 7]) (List.range 8) by decide) rfl rfl) (fun _ => (zz_pick1 [[(b 0, .inr (5, [.int 1, .ref (b 1), .int sn, .ref (b 2), .ref (b 3), .ref (b 4), .ref (b 5), .int ac, .ref (b 6), .ref (b 7), .int sp, .int ou]))], [(b 1, .inl (cy 0, 120, .inl tx))], mW cy (b 2) yn, mW cy (b 3) yt, mW cy (b 4) y3, diW cy (b 5) 588 di, diW cy (b 6) 84 ke, [(b 7, .inl (cy 3, 2, .inl ik))]] 0 [1, 2, 3, 4, 5, 6, 7] (show List.Perm ([0] ++ [1, 2, 3, 4, 5, 6, 7]) (List.range 8) by decide) rfl rfl)) (fun r_2 u_3 H locs e_4 hP hD hS => ?_)
    obtain rfl := e_4
    have hP : va_P D vwCl (modelW cy b ((1, sn, ac, sp, ou), tx, (yn, yt, y3), di, ke, ik)) H := hP
    have hD : va_D A (modelW cy b ((1, sn, ac, sp, ou), tx, (yn, yt, y3), di, ke, ik)) := hD
    refine lv_if_eq (tgt := 26) hx hb dX8_about_21 (by decide) (fun c_5 => ?_) (fun c_5 => ?_)
    · exact absurd c_5 (by decide)
    · refine lv_iconst (v := 0) hx hb dX8_about_24 (by decide) ?_
      exact hret _ _ H locs _ ((1, sn, ac, sp, ou), tx, (yn, yt, y3), di, ke, ik) dX8_about_25 hP hD hS (mPost_t (K := (kAbout v)) (k := 1) (U := ((rf, sn, ac, sp, ou), tx, (yn, yt, y3), di, ke, ik)) (by simp only [kAbout, if_neg c_1, if_neg c_5]) (by decide))
  · have c_1 := zb_ne.mp c_1
    refine lv_iconst (v := 0) hx hb dX8_about_13 (by decide) ?_
    refine lv_goto (tgt := 18) hx hb dX8_about_14 (by decide) ?_
    refine wr_i (fun u => wj [[(b 0, .inr (5, [.int 0, .ref (b 1), .int sn, .ref (b 2), .ref (b 3), .ref (b 4), .ref (b 5), .int ac, .ref (b 6), .ref (b 7), .int sp, .int ou]))], [(b 1, .inl (cy 0, 120, .inl tx))], mW cy (b 2) yn, mW cy (b 3) yt, mW cy (b 4) y3, diW cy (b 5) 588 di, diW cy (b 6) 84 ke, [(b 7, .inl (cy 3, 2, .inl ik))]]) (va_runV (As := [.int 0]) (rest := []) hF (c_X8_refused l D cy b rf sn ac sp ou 0 H.size) (cwV 1 hts gX8_about_X8_refused rfl rfl rfl (by decide +kernel) ⟨Nat.le_of_ble_eq_true rfl, Nat.le_of_ble_eq_true rfl⟩) (wr_preV hK hP hD (zz_pick1 [[(b 0, .inr (5, [.int rf, .ref (b 1), .int sn, .ref (b 2), .ref (b 3), .ref (b 4), .ref (b 5), .int ac, .ref (b 6), .ref (b 7), .int sp, .int ou]))], [(b 1, .inl (cy 0, 120, .inl tx))], mW cy (b 2) yn, mW cy (b 3) yt, mW cy (b 4) y3, diW cy (b 5) 588 di, diW cy (b 6) 84 ke, [(b 7, .inl (cy 3, 2, .inl ik))]] 0 [1, 2, 3, 4, 5, 6, 7] (show List.Perm ([0] ++ [1, 2, 3, 4, 5, 6, 7]) (List.range 8) by decide) rfl rfl) 0 5 rfl rfl rfl) rfl rfl hl.1 rfl (lv_room (Nat.le_of_ble_eq_true rfl)) dX8_about_18 ⟨Nat.le_of_ble_eq_true rfl, Nat.le_of_ble_eq_true rfl⟩) hP hD hS hA (zz_pick1 [[(b 0, .inr (5, [.int rf, .ref (b 1), .int sn, .ref (b 2), .ref (b 3), .ref (b 4), .ref (b 5), .int ac, .ref (b 6), .ref (b 7), .int sp, .int ou]))], [(b 1, .inl (cy 0, 120, .inl tx))], mW cy (b 2) yn, mW cy (b 3) yt, mW cy (b 4) y3, diW cy (b 5) 588 di, diW cy (b 6) 84 ke, [(b 7, .inl (cy 3, 2, .inl ik))]] 0 [1, 2, 3, 4, 5, 6, 7] (show List.Perm ([0] ++ [1, 2, 3, 4, 5, 6, 7]) (List.range 8) by decide) rfl rfl) (fun _ => (zz_pick1 [[(b 0, .inr (5, [.int 0, .ref (b 1), .int sn, .ref (b 2), .ref (b 3), .ref (b 4), .ref (b 5), .int ac, .ref (b 6), .ref (b 7), .int sp, .int ou]))], [(b 1, .inl (cy 0, 120, .inl tx))], mW cy (b 2) yn, mW cy (b 3) yt, mW cy (b 4) y3, diW cy (b 5) 588 di, diW cy (b 6) 84 ke, [(b 7, .inl (cy 3, 2, .inl ik))]] 0 [1, 2, 3, 4, 5, 6, 7] (show List.Perm ([0] ++ [1, 2, 3, 4, 5, 6, 7]) (List.range 8) by decide) rfl rfl)) (fun r_6 u_7 H locs e_8 hP hD hS => ?_)
    obtain rfl := e_8
    have hP : va_P D vwCl (modelW cy b ((0, sn, ac, sp, ou), tx, (yn, yt, y3), di, ke, ik)) H := hP
    have hD : va_D A (modelW cy b ((0, sn, ac, sp, ou), tx, (yn, yt, y3), di, ke, ik)) := hD
    refine lv_if_eq (tgt := 26) hx hb dX8_about_21 (by decide) (fun c_9 => ?_) (fun c_9 => ?_)
    · refine lv_iload_n hx hb dX8_about_26 rfl (lv_at hl 1 rfl) ?_
      by_cases c_10 : v = 0
      · refine lv_tableIn (off := 61) (tgt := 88) hx hb dX8_about_27 (by rw [c_10]; decide) (by rw [c_10]; decide) (by rw [c_10]; rfl) (by decide) ?_
        refine lv_aload_n hx hb dX8_about_88 rfl (lv_at hl 0 rfl) ?_
        refine va_get (ci := 5) (v := .ref (b 2)) (C := RX8) (T := TX8) (N := 12) hx hb hts hin_X8 hown hK hP 0 rfl rfl 3 (by decide) (hts (.fieldLink RX8 13 "ButtonGuestsModel" "now" "[I") (by decide +kernel)) (fun _ h9 => h9) rfl dX8_about_89 ?_
        refine lv_iload_n hx hb dX8_about_92 rfl (lv_at hl 1 rfl) ?_
        refine zz_top (y := 0) (by rw [c_10]; first | done | rfl) ?_
        refine zz_iald hx hb hK hP 2 0 0 rfl rfl rfl ⟨by decide, Nat.le_of_ble_eq_true rfl⟩ dX8_about_93 ?_
        refine zz_top (y := yn.1.1) rfl ?_
        refine zz_top (y := nI n) hg ?_
        exact hret _ _ H locs _ ((0, sn, ac, sp, ou), tx, (yn, yt, y3), di, ke, ik) dX8_about_94 hP hD hS (mPost_r (by simp only [kAbout, if_pos c_1, if_pos c_9]) (by rw [c_10]; first | rfl | (rw [← hg]; rfl)) (rfl))
      by_cases c_11 : v = 1
      · refine lv_tableIn (off := 61) (tgt := 88) hx hb dX8_about_27 (by rw [c_11]; decide) (by rw [c_11]; decide) (by rw [c_11]; rfl) (by decide) ?_
        refine lv_aload_n hx hb dX8_about_88 rfl (lv_at hl 0 rfl) ?_
        refine va_get (ci := 5) (v := .ref (b 2)) (C := RX8) (T := TX8) (N := 12) hx hb hts hin_X8 hown hK hP 0 rfl rfl 3 (by decide) (hts (.fieldLink RX8 13 "ButtonGuestsModel" "now" "[I") (by decide +kernel)) (fun _ h9 => h9) rfl dX8_about_89 ?_
        refine lv_iload_n hx hb dX8_about_92 rfl (lv_at hl 1 rfl) ?_
        refine zz_top (y := 1) (by rw [c_11]; first | done | rfl) ?_
        refine zz_iald hx hb hK hP 2 0 1 rfl rfl rfl ⟨by decide, Nat.le_of_ble_eq_true rfl⟩ dX8_about_93 ?_
        refine zz_top (y := yn.1.2.1) rfl ?_
        exact hret _ _ H locs _ ((0, sn, ac, sp, ou), tx, (yn, yt, y3), di, ke, ik) dX8_about_94 hP hD hS (mPost_r (by simp only [kAbout, if_pos c_1, if_pos c_9]) (by rw [c_11]; first | rfl | (rw [← hg]; rfl)) (rfl))
      by_cases c_12 : v = 2
      · refine lv_tableIn (off := 68) (tgt := 95) hx hb dX8_about_27 (by rw [c_12]; decide) (by rw [c_12]; decide) (by rw [c_12]; rfl) (by decide) ?_
        refine lv_aload_n hx hb dX8_about_95 rfl (lv_at hl 0 rfl) ?_
        refine va_get (ci := 5) (v := .ref (b 2)) (C := RX8) (T := TX8) (N := 12) hx hb hts hin_X8 hown hK hP 0 rfl rfl 3 (by decide) (hts (.fieldLink RX8 13 "ButtonGuestsModel" "now" "[I") (by decide +kernel)) (fun _ h9 => h9) rfl dX8_about_96 ?_
        refine rd_S (As := [.ref (b 2)]) (rest := []) hF (c_X8_load1 l D cy (b 2) n hn yn hg ) (va_cwS 1 hts gX8_about_X8_load1 rfl rfl rfl (by decide +kernel) ⟨Nat.le_of_ble_eq_true rfl, Nat.le_of_ble_eq_true rfl⟩) hK (hP.sub [2] rfl) rfl hl.1 rfl (Nat.le_of_ble_eq_true rfl) dX8_about_99 ⟨Nat.le_of_ble_eq_true rfl, Nat.le_of_ble_eq_true rfl⟩ ?_
        refine zz_top (y := lpN (sWR yn.2.2.2.2.2.2.1 yn.2.2.2.2.2.1) n 0 0) rfl ?_
        exact hret _ _ H locs _ ((0, sn, ac, sp, ou), tx, (yn, yt, y3), di, ke, ik) dX8_about_102 hP hD hS (mPost_r (by simp only [kAbout, if_pos c_1, if_pos c_9]) (by rw [c_12]; first | rfl | (rw [← hg]; rfl)) (rfl))
      by_cases c_13 : v = 3
      · refine lv_tableIn (off := 76) (tgt := 103) hx hb dX8_about_27 (by rw [c_13]; decide) (by rw [c_13]; decide) (by rw [c_13]; rfl) (by decide) ?_
        refine lv_aload_n hx hb dX8_about_103 rfl (lv_at hl 0 rfl) ?_
        refine va_get (ci := 5) (v := .ref (b 2)) (C := RX8) (T := TX8) (N := 12) hx hb hts hin_X8 hown hK hP 0 rfl rfl 3 (by decide) (hts (.fieldLink RX8 13 "ButtonGuestsModel" "now" "[I") (by decide +kernel)) (fun _ h9 => h9) rfl dX8_about_104 ?_
        refine lv_iload_n hx hb dX8_about_107 rfl (lv_at hl 1 rfl) ?_
        refine lv_iconst (v := 3) hx hb dX8_about_108 (by decide) ?_
        refine lv_isub hx hb dX8_about_109 ?_
        refine zz_top (y := 0) (by rw [c_13]; first | done | rfl) ?_
        refine rd_S (As := [.ref (b 2), .int 0]) (rest := []) hF (c_X8_inState l D cy (b 2) n hn yn hg 0) (va_cwS 2 hts gX8_about_X8_inState rfl rfl rfl (by decide +kernel) ⟨Nat.le_of_ble_eq_true rfl, Nat.le_of_ble_eq_true rfl⟩) hK (hP.sub [2] rfl) rfl hl.1 rfl (Nat.le_of_ble_eq_true rfl) dX8_about_110 ⟨Nat.le_of_ble_eq_true rfl, Nat.le_of_ble_eq_true rfl⟩ ?_
        exact hret _ _ H locs _ ((0, sn, ac, sp, ou), tx, (yn, yt, y3), di, ke, ik) dX8_about_113 hP hD hS (mPost_r (by simp only [kAbout, if_pos c_1, if_pos c_9]) (by rw [c_13]; first | rfl | (rw [← hg]; rfl)) (rfl))
      by_cases c_14 : v = 4
      · refine lv_tableIn (off := 76) (tgt := 103) hx hb dX8_about_27 (by rw [c_14]; decide) (by rw [c_14]; decide) (by rw [c_14]; rfl) (by decide) ?_
        refine lv_aload_n hx hb dX8_about_103 rfl (lv_at hl 0 rfl) ?_
        refine va_get (ci := 5) (v := .ref (b 2)) (C := RX8) (T := TX8) (N := 12) hx hb hts hin_X8 hown hK hP 0 rfl rfl 3 (by decide) (hts (.fieldLink RX8 13 "ButtonGuestsModel" "now" "[I") (by decide +kernel)) (fun _ h9 => h9) rfl dX8_about_104 ?_
        refine lv_iload_n hx hb dX8_about_107 rfl (lv_at hl 1 rfl) ?_
        refine lv_iconst (v := 3) hx hb dX8_about_108 (by decide) ?_
        refine lv_isub hx hb dX8_about_109 ?_
        refine zz_top (y := 1) (by rw [c_14]; first | done | rfl) ?_
        refine rd_S (As := [.ref (b 2), .int 1]) (rest := []) hF (c_X8_inState l D cy (b 2) n hn yn hg 1) (va_cwS 2 hts gX8_about_X8_inState rfl rfl rfl (by decide +kernel) ⟨Nat.le_of_ble_eq_true rfl, Nat.le_of_ble_eq_true rfl⟩) hK (hP.sub [2] rfl) rfl hl.1 rfl (Nat.le_of_ble_eq_true rfl) dX8_about_110 ⟨Nat.le_of_ble_eq_true rfl, Nat.le_of_ble_eq_true rfl⟩ ?_
        exact hret _ _ H locs _ ((0, sn, ac, sp, ou), tx, (yn, yt, y3), di, ke, ik) dX8_about_113 hP hD hS (mPost_r (by simp only [kAbout, if_pos c_1, if_pos c_9]) (by rw [c_14]; first | rfl | (rw [← hg]; rfl)) (rfl))
      by_cases c_15 : v = 5
      · refine lv_tableIn (off := 76) (tgt := 103) hx hb dX8_about_27 (by rw [c_15]; decide) (by rw [c_15]; decide) (by rw [c_15]; rfl) (by decide) ?_
        refine lv_aload_n hx hb dX8_about_103 rfl (lv_at hl 0 rfl) ?_
        refine va_get (ci := 5) (v := .ref (b 2)) (C := RX8) (T := TX8) (N := 12) hx hb hts hin_X8 hown hK hP 0 rfl rfl 3 (by decide) (hts (.fieldLink RX8 13 "ButtonGuestsModel" "now" "[I") (by decide +kernel)) (fun _ h9 => h9) rfl dX8_about_104 ?_
        refine lv_iload_n hx hb dX8_about_107 rfl (lv_at hl 1 rfl) ?_
        refine lv_iconst (v := 3) hx hb dX8_about_108 (by decide) ?_
        refine lv_isub hx hb dX8_about_109 ?_
        refine zz_top (y := 2) (by rw [c_15]; first | done | rfl) ?_
        refine rd_S (As := [.ref (b 2), .int 2]) (rest := []) hF (c_X8_inState l D cy (b 2) n hn yn hg 2) (va_cwS 2 hts gX8_about_X8_inState rfl rfl rfl (by decide +kernel) ⟨Nat.le_of_ble_eq_true rfl, Nat.le_of_ble_eq_true rfl⟩) hK (hP.sub [2] rfl) rfl hl.1 rfl (Nat.le_of_ble_eq_true rfl) dX8_about_110 ⟨Nat.le_of_ble_eq_true rfl, Nat.le_of_ble_eq_true rfl⟩ ?_
        exact hret _ _ H locs _ ((0, sn, ac, sp, ou), tx, (yn, yt, y3), di, ke, ik) dX8_about_113 hP hD hS (mPost_r (by simp only [kAbout, if_pos c_1, if_pos c_9]) (by rw [c_15]; first | rfl | (rw [← hg]; rfl)) (rfl))
      by_cases c_16 : v = 6
      · refine lv_tableIn (off := 103) (tgt := 130) hx hb dX8_about_27 (by rw [c_16]; decide) (by rw [c_16]; decide) (by rw [c_16]; rfl) (by decide) ?_
        refine lv_aload_n hx hb dX8_about_130 rfl (lv_at hl 0 rfl) ?_
        refine va_get (ci := 5) (v := .ref (b 2)) (C := RX8) (T := TX8) (N := 12) hx hb hts hin_X8 hown hK hP 0 rfl rfl 3 (by decide) (hts (.fieldLink RX8 13 "ButtonGuestsModel" "now" "[I") (by decide +kernel)) (fun _ h9 => h9) rfl dX8_about_131 ?_
        refine lv_iload_n hx hb dX8_about_134 rfl (lv_at hl 1 rfl) ?_
        refine lv_iconst (v := 4) hx hb dX8_about_135 (by decide) ?_
        refine lv_isub hx hb dX8_about_136 ?_
        refine zz_top (y := 2) (by rw [c_16]; first | done | rfl) ?_
        refine zz_iald hx hb hK hP 2 0 2 rfl rfl rfl ⟨by decide, Nat.le_of_ble_eq_true rfl⟩ dX8_about_137 ?_
        refine zz_top (y := yn.1.2.2.1) rfl ?_
        exact hret _ _ H locs _ ((0, sn, ac, sp, ou), tx, (yn, yt, y3), di, ke, ik) dX8_about_138 hP hD hS (mPost_r (by simp only [kAbout, if_pos c_1, if_pos c_9]) (by rw [c_16]; first | rfl | (rw [← hg]; rfl)) (rfl))
      by_cases c_17 : v = 7
      · refine lv_tableIn (off := 103) (tgt := 130) hx hb dX8_about_27 (by rw [c_17]; decide) (by rw [c_17]; decide) (by rw [c_17]; rfl) (by decide) ?_
        refine lv_aload_n hx hb dX8_about_130 rfl (lv_at hl 0 rfl) ?_
        refine va_get (ci := 5) (v := .ref (b 2)) (C := RX8) (T := TX8) (N := 12) hx hb hts hin_X8 hown hK hP 0 rfl rfl 3 (by decide) (hts (.fieldLink RX8 13 "ButtonGuestsModel" "now" "[I") (by decide +kernel)) (fun _ h9 => h9) rfl dX8_about_131 ?_
        refine lv_iload_n hx hb dX8_about_134 rfl (lv_at hl 1 rfl) ?_
        refine lv_iconst (v := 4) hx hb dX8_about_135 (by decide) ?_
        refine lv_isub hx hb dX8_about_136 ?_
        refine zz_top (y := 3) (by rw [c_17]; first | done | rfl) ?_
        refine zz_iald hx hb hK hP 2 0 3 rfl rfl rfl ⟨by decide, Nat.le_of_ble_eq_true rfl⟩ dX8_about_137 ?_
        refine zz_top (y := yn.1.2.2.2.1) rfl ?_
        exact hret _ _ H locs _ ((0, sn, ac, sp, ou), tx, (yn, yt, y3), di, ke, ik) dX8_about_138 hP hD hS (mPost_r (by simp only [kAbout, if_pos c_1, if_pos c_9]) (by rw [c_17]; first | rfl | (rw [← hg]; rfl)) (rfl))
      by_cases c_18 : v = 8
      · refine lv_tableIn (off := 103) (tgt := 130) hx hb dX8_about_27 (by rw [c_18]; decide) (by rw [c_18]; decide) (by rw [c_18]; rfl) (by decide) ?_
        refine lv_aload_n hx hb dX8_about_130 rfl (lv_at hl 0 rfl) ?_
        refine va_get (ci := 5) (v := .ref (b 2)) (C := RX8) (T := TX8) (N := 12) hx hb hts hin_X8 hown hK hP 0 rfl rfl 3 (by decide) (hts (.fieldLink RX8 13 "ButtonGuestsModel" "now" "[I") (by decide +kernel)) (fun _ h9 => h9) rfl dX8_about_131 ?_
        refine lv_iload_n hx hb dX8_about_134 rfl (lv_at hl 1 rfl) ?_
        refine lv_iconst (v := 4) hx hb dX8_about_135 (by decide) ?_
        refine lv_isub hx hb dX8_about_136 ?_
        refine zz_top (y := 4) (by rw [c_18]; first | done | rfl) ?_
        refine zz_iald hx hb hK hP 2 0 4 rfl rfl rfl ⟨by decide, Nat.le_of_ble_eq_true rfl⟩ dX8_about_137 ?_
        refine zz_top (y := yn.1.2.2.2.2.1) rfl ?_
        exact hret _ _ H locs _ ((0, sn, ac, sp, ou), tx, (yn, yt, y3), di, ke, ik) dX8_about_138 hP hD hS (mPost_r (by simp only [kAbout, if_pos c_1, if_pos c_9]) (by rw [c_18]; first | rfl | (rw [← hg]; rfl)) (rfl))
      by_cases c_19 : v = 9
      · refine lv_tableIn (off := 103) (tgt := 130) hx hb dX8_about_27 (by rw [c_19]; decide) (by rw [c_19]; decide) (by rw [c_19]; rfl) (by decide) ?_
        refine lv_aload_n hx hb dX8_about_130 rfl (lv_at hl 0 rfl) ?_
        refine va_get (ci := 5) (v := .ref (b 2)) (C := RX8) (T := TX8) (N := 12) hx hb hts hin_X8 hown hK hP 0 rfl rfl 3 (by decide) (hts (.fieldLink RX8 13 "ButtonGuestsModel" "now" "[I") (by decide +kernel)) (fun _ h9 => h9) rfl dX8_about_131 ?_
        refine lv_iload_n hx hb dX8_about_134 rfl (lv_at hl 1 rfl) ?_
        refine lv_iconst (v := 4) hx hb dX8_about_135 (by decide) ?_
        refine lv_isub hx hb dX8_about_136 ?_
        refine zz_top (y := 5) (by rw [c_19]; first | done | rfl) ?_
        refine zz_iald hx hb hK hP 2 0 5 rfl rfl rfl ⟨by decide, Nat.le_of_ble_eq_true rfl⟩ dX8_about_137 ?_
        refine zz_top (y := yn.1.2.2.2.2.2.1) rfl ?_
        exact hret _ _ H locs _ ((0, sn, ac, sp, ou), tx, (yn, yt, y3), di, ke, ik) dX8_about_138 hP hD hS (mPost_r (by simp only [kAbout, if_pos c_1, if_pos c_9]) (by rw [c_19]; first | rfl | (rw [← hg]; rfl)) (rfl))
      by_cases c_20 : v = 10
      · refine lv_tableIn (off := 87) (tgt := 114) hx hb dX8_about_27 (by rw [c_20]; decide) (by rw [c_20]; decide) (by rw [c_20]; rfl) (by decide) ?_
        refine lv_aload_n hx hb dX8_about_114 rfl (lv_at hl 0 rfl) ?_
        refine va_get (ci := 5) (v := .ref (b 2)) (C := RX8) (T := TX8) (N := 12) hx hb hts hin_X8 hown hK hP 0 rfl rfl 3 (by decide) (hts (.fieldLink RX8 13 "ButtonGuestsModel" "now" "[I") (by decide +kernel)) (fun _ h9 => h9) rfl dX8_about_115 ?_
        refine rd_S (As := [.ref (b 2)]) (rest := []) hF (c_X8_allGrudges l D cy (b 2) n hn yn hg ) (va_cwS 1 hts gX8_about_X8_allGrudges rfl rfl rfl (by decide +kernel) ⟨Nat.le_of_ble_eq_true rfl, Nat.le_of_ble_eq_true rfl⟩) hK (hP.sub [2] rfl) rfl hl.1 rfl (Nat.le_of_ble_eq_true rfl) dX8_about_118 ⟨Nat.le_of_ble_eq_true rfl, Nat.le_of_ble_eq_true rfl⟩ ?_
        exact hret _ _ H locs _ ((0, sn, ac, sp, ou), tx, (yn, yt, y3), di, ke, ik) dX8_about_121 hP hD hS (mPost_r (by simp only [kAbout, if_pos c_1, if_pos c_9]) (by rw [c_20]; first | rfl | (rw [← hg]; rfl)) (rfl))
      by_cases c_21 : v = 11
      · refine lv_tableIn (off := 95) (tgt := 122) hx hb dX8_about_27 (by rw [c_21]; decide) (by rw [c_21]; decide) (by rw [c_21]; rfl) (by decide) ?_
        refine lv_aload_n hx hb dX8_about_122 rfl (lv_at hl 0 rfl) ?_
        refine va_get (ci := 5) (v := .ref (b 2)) (C := RX8) (T := TX8) (N := 12) hx hb hts hin_X8 hown hK hP 0 rfl rfl 3 (by decide) (hts (.fieldLink RX8 13 "ButtonGuestsModel" "now" "[I") (by decide +kernel)) (fun _ h9 => h9) rfl dX8_about_123 ?_
        refine lv_bipush (v := 6) hx hb dX8_about_126 (by decide) ?_
        refine zz_iald hx hb hK hP 2 0 6 rfl rfl rfl ⟨by decide, Nat.le_of_ble_eq_true rfl⟩ dX8_about_128 ?_
        refine zz_top (y := yn.1.2.2.2.2.2.2) rfl ?_
        exact hret _ _ H locs _ ((0, sn, ac, sp, ou), tx, (yn, yt, y3), di, ke, ik) dX8_about_129 hP hD hS (mPost_r (by simp only [kAbout, if_pos c_1, if_pos c_9]) (by rw [c_21]; first | rfl | (rw [← hg]; rfl)) (rfl))
      have hsw : (v).toInt < 0 ∨ 11 < (v).toInt := by
        have q0 := fun (v9 : Int32) (h : ¬ v = v9) => fun (q : (v).toInt = v9.toInt) => h (Int32.toInt_inj.mp q)
        have q_c_10 : ¬ (v).toInt = 0 := q0 0 c_10
        have q_c_11 : ¬ (v).toInt = 1 := q0 1 c_11
        have q_c_12 : ¬ (v).toInt = 2 := q0 2 c_12
        have q_c_13 : ¬ (v).toInt = 3 := q0 3 c_13
        have q_c_14 : ¬ (v).toInt = 4 := q0 4 c_14
        have q_c_15 : ¬ (v).toInt = 5 := q0 5 c_15
        have q_c_16 : ¬ (v).toInt = 6 := q0 6 c_16
        have q_c_17 : ¬ (v).toInt = 7 := q0 7 c_17
        have q_c_18 : ¬ (v).toInt = 8 := q0 8 c_18
        have q_c_19 : ¬ (v).toInt = 9 := q0 9 c_19
        have q_c_20 : ¬ (v).toInt = 10 := q0 10 c_20
        have q_c_21 : ¬ (v).toInt = 11 := q0 11 c_21
        omega
      exact absurd hsw (by have q := (inI (x := v) (a := 0) (c := 11)).mp c_1; simp only [Int32.lt_iff_toInt_lt] at q; have e1 : (0 : Int32).toInt = 0 := rfl; have e2 : (11 : Int32).toInt = 11 := rfl; omega)
    · exact absurd c_9 (by decide)
abbrev rm_X8_guestOf : Room := { frames := 2, cells := 0, slots := 0, locals := 46 }
set_option maxHeartbeats 4000000 in
set_option maxRecDepth 100000 in
theorem c_X8_guestOf (l : Launch) (D : va_G) (cy : Nat → ClassId) (b : Nat → Nat) (rf sn ac sp ou : Int32) (tx : Nat → Int32) (yn yt y3 : HS) (di ke : Nat → HS) (ik : Nat → Int32) (n : Nat) (hn : n ≤ 4) (hg : yn.1.1 = nI n) (g v : Int32) (sz : Nat) : Met l yX8_guestOf wsX8_guestOf rm_X8_guestOf (wrP D cy [.ref (b 0), .int g, .int v] (modelW cy b ((rf, sn, ac, sp, ou), tx, (yn, yt, y3), di, ke, ik)) sz) (va_Qi (fun (r : Int32) (u : MS) => mPost (kGuest (nI n) g v) r (mCol yn v.toNatClampNeg g.toNatClampNeg) u (((0, sn, ac, sp, ou), tx, (yn, yt, y3), di, ke, ik)) ((rf, sn, ac, sp, ou), tx, (yn, yt, y3), di, ke, ik)) (wrB D (va_A (modelW cy b ((rf, sn, ac, sp, ou), tx, (yn, yt, y3), di, ke, ik)) sz) (fun u => modelW cy b u)) (va_A (modelW cy b ((rf, sn, ac, sp, ou), tx, (yn, yt, y3), di, ke, ik)) sz)) 0 0 (va_A (modelW cy b ((rf, sn, ac, sp, ou), tx, (yn, yt, y3), di, ke, ik)) sz) := by
  refine Mwi (cc := cX8_guestOf) (maxL := 3) (ty := .int) (by decide) rfl (Nat.le_of_ble_eq_true rfl) (fun _ _ _ => rfl) ?_
  intro p e s m args below meth c Q ls A hsz hF hK hP hD hA hl hret
  obtain ⟨hx, hb, hml, hown, hts⟩ := id hF
  have hown : s.vm.findClass RX8 = some m.cls := hown
  have hin_X8 : ∀ w ∈ u_ws RX8 TX8 12, w ∈ wsX8_guestOf := by decide +kernel
  have hl : lv_has ls 3 [(0, .ref (b 0)), (1, .int g), (2, .int v)] := hl
  suffices key : ∀ (H : Heap) (locs : List Loc), va_P D vwCl (modelW cy b ((rf, sn, ac, sp, ou), tx, (yn, yt, y3), di, ke, ik)) H → va_D A (modelW cy b ((rf, sn, ac, sp, ou), tx, (yn, yt, y3), di, ke, ik)) → va_S A s.heap H locs → W p l e rm_X8_guestOf s m args below meth c H locs 0 0 Q (F0 m 0 ls []) from key s.heap [] hP hD va_S.rf
  intro H locs hP hD hS
  refine lv_aload_n hx hb dX8_guestOf_0 rfl (lv_at hl 0 rfl) ?_
  refine lv_aload_n hx hb dX8_guestOf_1 rfl (lv_at hl 0 rfl) ?_
  refine va_get (ci := 5) (v := .ref (b 2)) (C := RX8) (T := TX8) (N := 12) hx hb hts hin_X8 hown hK hP 0 rfl rfl 3 (by decide) (hts (.fieldLink RX8 13 "ButtonGuestsModel" "now" "[I") (by decide +kernel)) (fun _ h9 => h9) rfl dX8_guestOf_2 ?_
  refine lv_iload_n hx hb dX8_guestOf_5 rfl (lv_at hl 1 rfl) ?_
  refine rd_S (As := [.ref (b 2), .int g]) (rest := [.ref (b 0)]) hF (c_X8_isGuest l D cy (b 2) n hn yn hg g) (va_cwS 2 hts gX8_guestOf_X8_isGuest rfl rfl rfl (by decide +kernel) ⟨Nat.le_of_ble_eq_true rfl, Nat.le_of_ble_eq_true rfl⟩) hK (hP.sub [2] rfl) rfl hl.1 rfl (Nat.le_of_ble_eq_true rfl) dX8_guestOf_6 ⟨Nat.le_of_ble_eq_true rfl, Nat.le_of_ble_eq_true rfl⟩ ?_
  refine zz_top (y := zb (isG (nI n) g)) (by rw [hg]) ?_
  refine lv_if_ne (tgt := 16) hx hb dX8_guestOf_9 (by decide) (fun c_1 => ?_) (fun c_1 => ?_)
  · have c_1 := zb_ne.mp c_1
    refine lv_iload_n hx hb dX8_guestOf_16 rfl (lv_at hl 2 rfl) ?_
    refine lv_i2l (v := Int32.toInt64 v) hx hb dX8_guestOf_17 rfl ?_
    refine lv_lconst (v := 0) hx hb dX8_guestOf_18 (by decide) ?_
    refine lv_ldc2 (v := 7) hx hb hown (hts (.constantLong RX8 167 (7)) (by decide +kernel)) dX8_guestOf_19 ?_
    refine rd_S (As := [.long (Int32.toInt64 v), .long 0, .long 7]) (rest := [.ref (b 0)]) hF (c_X8_in l D cy (Int32.toInt64 v) 0 7) (va_cwS 3 hts gX8_guestOf_X8_in rfl rfl rfl (by decide +kernel) ⟨Nat.le_of_ble_eq_true rfl, Nat.le_of_ble_eq_true rfl⟩) hK (fun k q h => by simp at h) rfl hl.1 rfl (Nat.le_of_ble_eq_true rfl) dX8_guestOf_22 ⟨Nat.le_of_ble_eq_true rfl, Nat.le_of_ble_eq_true rfl⟩ ?_
    refine lv_if_eq (tgt := 32) hx hb dX8_guestOf_25 (by decide) (fun c_2 => ?_) (fun c_2 => ?_)
    · have c_2 := zb_eq.mp c_2
      refine lv_iconst (v := 2) hx hb dX8_guestOf_32 (by decide) ?_
      refine wr_i (fun u => wj [[(b 0, .inr (5, [.int 2, .ref (b 1), .int sn, .ref (b 2), .ref (b 3), .ref (b 4), .ref (b 5), .int ac, .ref (b 6), .ref (b 7), .int sp, .int ou]))], [(b 1, .inl (cy 0, 120, .inl tx))], mW cy (b 2) yn, mW cy (b 3) yt, mW cy (b 4) y3, diW cy (b 5) 588 di, diW cy (b 6) 84 ke, [(b 7, .inl (cy 3, 2, .inl ik))]]) (va_runV (As := [.int 2]) (rest := []) hF (c_X8_refused l D cy b rf sn ac sp ou 2 H.size) (cwV 1 hts gX8_guestOf_X8_refused rfl rfl rfl (by decide +kernel) ⟨Nat.le_of_ble_eq_true rfl, Nat.le_of_ble_eq_true rfl⟩) (wr_preV hK hP hD (zz_pick1 [[(b 0, .inr (5, [.int rf, .ref (b 1), .int sn, .ref (b 2), .ref (b 3), .ref (b 4), .ref (b 5), .int ac, .ref (b 6), .ref (b 7), .int sp, .int ou]))], [(b 1, .inl (cy 0, 120, .inl tx))], mW cy (b 2) yn, mW cy (b 3) yt, mW cy (b 4) y3, diW cy (b 5) 588 di, diW cy (b 6) 84 ke, [(b 7, .inl (cy 3, 2, .inl ik))]] 0 [1, 2, 3, 4, 5, 6, 7] (show List.Perm ([0] ++ [1, 2, 3, 4, 5, 6, 7]) (List.range 8) by decide) rfl rfl) 0 5 rfl rfl rfl) rfl rfl hl.1 rfl (lv_room (Nat.le_of_ble_eq_true rfl)) dX8_guestOf_33 ⟨Nat.le_of_ble_eq_true rfl, Nat.le_of_ble_eq_true rfl⟩) hP hD hS hA (zz_pick1 [[(b 0, .inr (5, [.int rf, .ref (b 1), .int sn, .ref (b 2), .ref (b 3), .ref (b 4), .ref (b 5), .int ac, .ref (b 6), .ref (b 7), .int sp, .int ou]))], [(b 1, .inl (cy 0, 120, .inl tx))], mW cy (b 2) yn, mW cy (b 3) yt, mW cy (b 4) y3, diW cy (b 5) 588 di, diW cy (b 6) 84 ke, [(b 7, .inl (cy 3, 2, .inl ik))]] 0 [1, 2, 3, 4, 5, 6, 7] (show List.Perm ([0] ++ [1, 2, 3, 4, 5, 6, 7]) (List.range 8) by decide) rfl rfl) (fun _ => (zz_pick1 [[(b 0, .inr (5, [.int 2, .ref (b 1), .int sn, .ref (b 2), .ref (b 3), .ref (b 4), .ref (b 5), .int ac, .ref (b 6), .ref (b 7), .int sp, .int ou]))], [(b 1, .inl (cy 0, 120, .inl tx))], mW cy (b 2) yn, mW cy (b 3) yt, mW cy (b 4) y3, diW cy (b 5) 588 di, diW cy (b 6) 84 ke, [(b 7, .inl (cy 3, 2, .inl ik))]] 0 [1, 2, 3, 4, 5, 6, 7] (show List.Perm ([0] ++ [1, 2, 3, 4, 5, 6, 7]) (List.range 8) by decide) rfl rfl)) (fun r_3 u_4 H locs e_5 hP hD hS => ?_)
      obtain rfl := e_5
      have hP : va_P D vwCl (modelW cy b ((2, sn, ac, sp, ou), tx, (yn, yt, y3), di, ke, ik)) H := hP
      have hD : va_D A (modelW cy b ((2, sn, ac, sp, ou), tx, (yn, yt, y3), di, ke, ik)) := hD
      refine lv_if_eq (tgt := 41) hx hb dX8_guestOf_36 (by decide) (fun c_6 => ?_) (fun c_6 => ?_)
      · exact absurd c_6 (by decide)
      · refine lv_iconst (v := 0) hx hb dX8_guestOf_39 (by decide) ?_
        exact hret _ _ H locs _ ((2, sn, ac, sp, ou), tx, (yn, yt, y3), di, ke, ik) dX8_guestOf_40 hP hD hS (mPost_t (K := (kGuest (nI n) g v)) (k := 2) (U := ((rf, sn, ac, sp, ou), tx, (yn, yt, y3), di, ke, ik)) (by simp only [kGuest, if_pos c_1, if_neg c_2, if_neg c_6]) (by decide))
    · have c_2 := zb_ne.mp c_2
      refine lv_iconst (v := 0) hx hb dX8_guestOf_28 (by decide) ?_
      refine lv_goto (tgt := 33) hx hb dX8_guestOf_29 (by decide) ?_
      refine wr_i (fun u => wj [[(b 0, .inr (5, [.int 0, .ref (b 1), .int sn, .ref (b 2), .ref (b 3), .ref (b 4), .ref (b 5), .int ac, .ref (b 6), .ref (b 7), .int sp, .int ou]))], [(b 1, .inl (cy 0, 120, .inl tx))], mW cy (b 2) yn, mW cy (b 3) yt, mW cy (b 4) y3, diW cy (b 5) 588 di, diW cy (b 6) 84 ke, [(b 7, .inl (cy 3, 2, .inl ik))]]) (va_runV (As := [.int 0]) (rest := []) hF (c_X8_refused l D cy b rf sn ac sp ou 0 H.size) (cwV 1 hts gX8_guestOf_X8_refused rfl rfl rfl (by decide +kernel) ⟨Nat.le_of_ble_eq_true rfl, Nat.le_of_ble_eq_true rfl⟩) (wr_preV hK hP hD (zz_pick1 [[(b 0, .inr (5, [.int rf, .ref (b 1), .int sn, .ref (b 2), .ref (b 3), .ref (b 4), .ref (b 5), .int ac, .ref (b 6), .ref (b 7), .int sp, .int ou]))], [(b 1, .inl (cy 0, 120, .inl tx))], mW cy (b 2) yn, mW cy (b 3) yt, mW cy (b 4) y3, diW cy (b 5) 588 di, diW cy (b 6) 84 ke, [(b 7, .inl (cy 3, 2, .inl ik))]] 0 [1, 2, 3, 4, 5, 6, 7] (show List.Perm ([0] ++ [1, 2, 3, 4, 5, 6, 7]) (List.range 8) by decide) rfl rfl) 0 5 rfl rfl rfl) rfl rfl hl.1 rfl (lv_room (Nat.le_of_ble_eq_true rfl)) dX8_guestOf_33 ⟨Nat.le_of_ble_eq_true rfl, Nat.le_of_ble_eq_true rfl⟩) hP hD hS hA (zz_pick1 [[(b 0, .inr (5, [.int rf, .ref (b 1), .int sn, .ref (b 2), .ref (b 3), .ref (b 4), .ref (b 5), .int ac, .ref (b 6), .ref (b 7), .int sp, .int ou]))], [(b 1, .inl (cy 0, 120, .inl tx))], mW cy (b 2) yn, mW cy (b 3) yt, mW cy (b 4) y3, diW cy (b 5) 588 di, diW cy (b 6) 84 ke, [(b 7, .inl (cy 3, 2, .inl ik))]] 0 [1, 2, 3, 4, 5, 6, 7] (show List.Perm ([0] ++ [1, 2, 3, 4, 5, 6, 7]) (List.range 8) by decide) rfl rfl) (fun _ => (zz_pick1 [[(b 0, .inr (5, [.int 0, .ref (b 1), .int sn, .ref (b 2), .ref (b 3), .ref (b 4), .ref (b 5), .int ac, .ref (b 6), .ref (b 7), .int sp, .int ou]))], [(b 1, .inl (cy 0, 120, .inl tx))], mW cy (b 2) yn, mW cy (b 3) yt, mW cy (b 4) y3, diW cy (b 5) 588 di, diW cy (b 6) 84 ke, [(b 7, .inl (cy 3, 2, .inl ik))]] 0 [1, 2, 3, 4, 5, 6, 7] (show List.Perm ([0] ++ [1, 2, 3, 4, 5, 6, 7]) (List.range 8) by decide) rfl rfl)) (fun r_7 u_8 H locs e_9 hP hD hS => ?_)
      obtain rfl := e_9
      have hP : va_P D vwCl (modelW cy b ((0, sn, ac, sp, ou), tx, (yn, yt, y3), di, ke, ik)) H := hP
      have hD : va_D A (modelW cy b ((0, sn, ac, sp, ou), tx, (yn, yt, y3), di, ke, ik)) := hD
      refine lv_if_eq (tgt := 41) hx hb dX8_guestOf_36 (by decide) (fun c_10 => ?_) (fun c_10 => ?_)
      · obtain ⟨jg, hjg, rfl⟩ := isG_of hn c_1
        obtain ⟨jw, hjw, rfl⟩ := inL_nat (c := 7) (k := 7) (by decide) rfl c_2
        refine lv_aload_n hx hb dX8_guestOf_41 rfl (lv_at hl 0 rfl) ?_
        refine va_get (ci := 5) (v := .ref (b 2)) (C := RX8) (T := TX8) (N := 12) hx hb hts hin_X8 hown hK hP 0 rfl rfl 3 (by decide) (hts (.fieldLink RX8 13 "ButtonGuestsModel" "now" "[I") (by decide +kernel)) (fun _ h9 => h9) rfl dX8_guestOf_42 ?_
        refine lv_iload_n hx hb dX8_guestOf_45 rfl (lv_at hl 1 rfl) ?_
        refine lv_iload_n hx hb dX8_guestOf_46 rfl (lv_at hl 2 rfl) ?_
        refine rd_S (As := [.ref (b 2), .int (nI jg), .int (nI jw)]) (rest := []) hF (c_X8_of l D cy (b 2) n hn yn hg jg jw (by omega) (by omega)) (va_cwS 3 hts gX8_guestOf_X8_of rfl rfl rfl (by decide +kernel) ⟨Nat.le_of_ble_eq_true rfl, Nat.le_of_ble_eq_true rfl⟩) hK (hP.sub [2] rfl) rfl hl.1 rfl (Nat.le_of_ble_eq_true rfl) dX8_guestOf_47 ⟨Nat.le_of_ble_eq_true rfl, Nat.le_of_ble_eq_true rfl⟩ ?_
        exact hret _ _ H locs _ ((0, sn, ac, sp, ou), tx, (yn, yt, y3), di, ke, ik) dX8_guestOf_50 hP hD hS (mPost_r (by simp only [kGuest, if_pos c_1, if_pos c_2, if_pos c_10]) (by rw [nI_clamp (by omega), nI_clamp (by omega)]) (rfl))
      · exact absurd c_10 (by decide)
  · have c_1 := zb_eq.mp c_1
    refine lv_iconst (v := 1) hx hb dX8_guestOf_12 (by decide) ?_
    refine lv_goto (tgt := 33) hx hb dX8_guestOf_13 (by decide) ?_
    refine wr_i (fun u => wj [[(b 0, .inr (5, [.int 1, .ref (b 1), .int sn, .ref (b 2), .ref (b 3), .ref (b 4), .ref (b 5), .int ac, .ref (b 6), .ref (b 7), .int sp, .int ou]))], [(b 1, .inl (cy 0, 120, .inl tx))], mW cy (b 2) yn, mW cy (b 3) yt, mW cy (b 4) y3, diW cy (b 5) 588 di, diW cy (b 6) 84 ke, [(b 7, .inl (cy 3, 2, .inl ik))]]) (va_runV (As := [.int 1]) (rest := []) hF (c_X8_refused l D cy b rf sn ac sp ou 1 H.size) (cwV 1 hts gX8_guestOf_X8_refused rfl rfl rfl (by decide +kernel) ⟨Nat.le_of_ble_eq_true rfl, Nat.le_of_ble_eq_true rfl⟩) (wr_preV hK hP hD (zz_pick1 [[(b 0, .inr (5, [.int rf, .ref (b 1), .int sn, .ref (b 2), .ref (b 3), .ref (b 4), .ref (b 5), .int ac, .ref (b 6), .ref (b 7), .int sp, .int ou]))], [(b 1, .inl (cy 0, 120, .inl tx))], mW cy (b 2) yn, mW cy (b 3) yt, mW cy (b 4) y3, diW cy (b 5) 588 di, diW cy (b 6) 84 ke, [(b 7, .inl (cy 3, 2, .inl ik))]] 0 [1, 2, 3, 4, 5, 6, 7] (show List.Perm ([0] ++ [1, 2, 3, 4, 5, 6, 7]) (List.range 8) by decide) rfl rfl) 0 5 rfl rfl rfl) rfl rfl hl.1 rfl (lv_room (Nat.le_of_ble_eq_true rfl)) dX8_guestOf_33 ⟨Nat.le_of_ble_eq_true rfl, Nat.le_of_ble_eq_true rfl⟩) hP hD hS hA (zz_pick1 [[(b 0, .inr (5, [.int rf, .ref (b 1), .int sn, .ref (b 2), .ref (b 3), .ref (b 4), .ref (b 5), .int ac, .ref (b 6), .ref (b 7), .int sp, .int ou]))], [(b 1, .inl (cy 0, 120, .inl tx))], mW cy (b 2) yn, mW cy (b 3) yt, mW cy (b 4) y3, diW cy (b 5) 588 di, diW cy (b 6) 84 ke, [(b 7, .inl (cy 3, 2, .inl ik))]] 0 [1, 2, 3, 4, 5, 6, 7] (show List.Perm ([0] ++ [1, 2, 3, 4, 5, 6, 7]) (List.range 8) by decide) rfl rfl) (fun _ => (zz_pick1 [[(b 0, .inr (5, [.int 1, .ref (b 1), .int sn, .ref (b 2), .ref (b 3), .ref (b 4), .ref (b 5), .int ac, .ref (b 6), .ref (b 7), .int sp, .int ou]))], [(b 1, .inl (cy 0, 120, .inl tx))], mW cy (b 2) yn, mW cy (b 3) yt, mW cy (b 4) y3, diW cy (b 5) 588 di, diW cy (b 6) 84 ke, [(b 7, .inl (cy 3, 2, .inl ik))]] 0 [1, 2, 3, 4, 5, 6, 7] (show List.Perm ([0] ++ [1, 2, 3, 4, 5, 6, 7]) (List.range 8) by decide) rfl rfl)) (fun r_11 u_12 H locs e_13 hP hD hS => ?_)
    obtain rfl := e_13
    have hP : va_P D vwCl (modelW cy b ((1, sn, ac, sp, ou), tx, (yn, yt, y3), di, ke, ik)) H := hP
    have hD : va_D A (modelW cy b ((1, sn, ac, sp, ou), tx, (yn, yt, y3), di, ke, ik)) := hD
    refine lv_if_eq (tgt := 41) hx hb dX8_guestOf_36 (by decide) (fun c_14 => ?_) (fun c_14 => ?_)
    · exact absurd c_14 (by decide)
    · refine lv_iconst (v := 0) hx hb dX8_guestOf_39 (by decide) ?_
      exact hret _ _ H locs _ ((1, sn, ac, sp, ou), tx, (yn, yt, y3), di, ke, ik) dX8_guestOf_40 hP hD hS (mPost_t (K := (kGuest (nI n) g v)) (k := 1) (U := ((rf, sn, ac, sp, ou), tx, (yn, yt, y3), di, ke, ik)) (by simp only [kGuest, if_neg c_1, if_neg c_14]) (by decide))
abbrev rm_X8_floorOf : Room := { frames := 2, cells := 0, slots := 0, locals := 45 }
set_option maxHeartbeats 4000000 in
set_option maxRecDepth 100000 in
theorem c_X8_floorOf (l : Launch) (D : va_G) (cy : Nat → ClassId) (b : Nat → Nat) (rf sn ac sp ou : Int32) (tx : Nat → Int32) (yn yt y3 : HS) (di ke : Nat → HS) (ik : Nat → Int32) (n : Nat) (hn : n ≤ 4) (hg : yn.1.1 = nI n) (f v : Int32) (sz : Nat) : Met l yX8_floorOf wsX8_floorOf rm_X8_floorOf (wrP D cy [.ref (b 0), .int f, .int v] (modelW cy b ((rf, sn, ac, sp, ou), tx, (yn, yt, y3), di, ke, ik)) sz) (va_Qi (fun (r : Int32) (u : MS) => mPost (kFloor f v) r (mFS n yn f v) u (((0, sn, ac, sp, ou), tx, (yn, yt, y3), di, ke, ik)) ((rf, sn, ac, sp, ou), tx, (yn, yt, y3), di, ke, ik)) (wrB D (va_A (modelW cy b ((rf, sn, ac, sp, ou), tx, (yn, yt, y3), di, ke, ik)) sz) (fun u => modelW cy b u)) (va_A (modelW cy b ((rf, sn, ac, sp, ou), tx, (yn, yt, y3), di, ke, ik)) sz)) 0 0 (va_A (modelW cy b ((rf, sn, ac, sp, ou), tx, (yn, yt, y3), di, ke, ik)) sz) := by
  refine Mwi (cc := cX8_floorOf) (maxL := 6) (ty := .int) (by decide) rfl (Nat.le_of_ble_eq_true rfl) (fun _ _ _ => rfl) ?_
  intro p e s m args below meth c Q ls A hsz hF hK hP hD hA hl hret
  obtain ⟨hx, hb, hml, hown, hts⟩ := id hF
  have hown : s.vm.findClass RX8 = some m.cls := hown
  have hin_X8 : ∀ w ∈ u_ws RX8 TX8 12, w ∈ wsX8_floorOf := by decide +kernel
  have hl : lv_has ls 6 [(0, .ref (b 0)), (1, .int f), (2, .int v)] := hl
  suffices key : ∀ (H : Heap) (locs : List Loc), va_P D vwCl (modelW cy b ((rf, sn, ac, sp, ou), tx, (yn, yt, y3), di, ke, ik)) H → va_D A (modelW cy b ((rf, sn, ac, sp, ou), tx, (yn, yt, y3), di, ke, ik)) → va_S A s.heap H locs → W p l e rm_X8_floorOf s m args below meth c H locs 0 0 Q (F0 m 0 ls []) from key s.heap [] hP hD va_S.rf
  intro H locs hP hD hS
  refine lv_aload_n hx hb dX8_floorOf_0 rfl (lv_at hl 0 rfl) ?_
  refine lv_iload_n hx hb dX8_floorOf_1 rfl (lv_at hl 1 rfl) ?_
  refine rd_S (As := [.int f]) (rest := [.ref (b 0)]) hF (c_X8_isFloor l D cy f) (va_cwS 1 hts gX8_floorOf_X8_isFloor rfl rfl rfl (by decide +kernel) ⟨Nat.le_of_ble_eq_true rfl, Nat.le_of_ble_eq_true rfl⟩) hK (fun k q h => by simp at h) rfl hl.1 rfl (Nat.le_of_ble_eq_true rfl) dX8_floorOf_2 ⟨Nat.le_of_ble_eq_true rfl, Nat.le_of_ble_eq_true rfl⟩ ?_
  refine lv_if_ne (tgt := 12) hx hb dX8_floorOf_5 (by decide) (fun c_1 => ?_) (fun c_1 => ?_)
  · have c_1 := zb_ne.mp c_1
    refine lv_iload_n hx hb dX8_floorOf_12 rfl (lv_at hl 2 rfl) ?_
    refine lv_i2l (v := Int32.toInt64 v) hx hb dX8_floorOf_13 rfl ?_
    refine lv_lconst (v := 0) hx hb dX8_floorOf_14 (by decide) ?_
    refine lv_ldc2 (v := 2) hx hb hown (hts (.constantLong RX8 172 (2)) (by decide +kernel)) dX8_floorOf_15 ?_
    refine rd_S (As := [.long (Int32.toInt64 v), .long 0, .long 2]) (rest := [.ref (b 0)]) hF (c_X8_in l D cy (Int32.toInt64 v) 0 2) (va_cwS 3 hts gX8_floorOf_X8_in rfl rfl rfl (by decide +kernel) ⟨Nat.le_of_ble_eq_true rfl, Nat.le_of_ble_eq_true rfl⟩) hK (fun k q h => by simp at h) rfl hl.1 rfl (Nat.le_of_ble_eq_true rfl) dX8_floorOf_18 ⟨Nat.le_of_ble_eq_true rfl, Nat.le_of_ble_eq_true rfl⟩ ?_
    refine lv_if_eq (tgt := 28) hx hb dX8_floorOf_21 (by decide) (fun c_2 => ?_) (fun c_2 => ?_)
    · have c_2 := zb_eq.mp c_2
      refine lv_iconst (v := 2) hx hb dX8_floorOf_28 (by decide) ?_
      refine wr_i (fun u => wj [[(b 0, .inr (5, [.int 2, .ref (b 1), .int sn, .ref (b 2), .ref (b 3), .ref (b 4), .ref (b 5), .int ac, .ref (b 6), .ref (b 7), .int sp, .int ou]))], [(b 1, .inl (cy 0, 120, .inl tx))], mW cy (b 2) yn, mW cy (b 3) yt, mW cy (b 4) y3, diW cy (b 5) 588 di, diW cy (b 6) 84 ke, [(b 7, .inl (cy 3, 2, .inl ik))]]) (va_runV (As := [.int 2]) (rest := []) hF (c_X8_refused l D cy b rf sn ac sp ou 2 H.size) (cwV 1 hts gX8_floorOf_X8_refused rfl rfl rfl (by decide +kernel) ⟨Nat.le_of_ble_eq_true rfl, Nat.le_of_ble_eq_true rfl⟩) (wr_preV hK hP hD (zz_pick1 [[(b 0, .inr (5, [.int rf, .ref (b 1), .int sn, .ref (b 2), .ref (b 3), .ref (b 4), .ref (b 5), .int ac, .ref (b 6), .ref (b 7), .int sp, .int ou]))], [(b 1, .inl (cy 0, 120, .inl tx))], mW cy (b 2) yn, mW cy (b 3) yt, mW cy (b 4) y3, diW cy (b 5) 588 di, diW cy (b 6) 84 ke, [(b 7, .inl (cy 3, 2, .inl ik))]] 0 [1, 2, 3, 4, 5, 6, 7] (show List.Perm ([0] ++ [1, 2, 3, 4, 5, 6, 7]) (List.range 8) by decide) rfl rfl) 0 5 rfl rfl rfl) rfl rfl hl.1 rfl (lv_room (Nat.le_of_ble_eq_true rfl)) dX8_floorOf_29 ⟨Nat.le_of_ble_eq_true rfl, Nat.le_of_ble_eq_true rfl⟩) hP hD hS hA (zz_pick1 [[(b 0, .inr (5, [.int rf, .ref (b 1), .int sn, .ref (b 2), .ref (b 3), .ref (b 4), .ref (b 5), .int ac, .ref (b 6), .ref (b 7), .int sp, .int ou]))], [(b 1, .inl (cy 0, 120, .inl tx))], mW cy (b 2) yn, mW cy (b 3) yt, mW cy (b 4) y3, diW cy (b 5) 588 di, diW cy (b 6) 84 ke, [(b 7, .inl (cy 3, 2, .inl ik))]] 0 [1, 2, 3, 4, 5, 6, 7] (show List.Perm ([0] ++ [1, 2, 3, 4, 5, 6, 7]) (List.range 8) by decide) rfl rfl) (fun _ => (zz_pick1 [[(b 0, .inr (5, [.int 2, .ref (b 1), .int sn, .ref (b 2), .ref (b 3), .ref (b 4), .ref (b 5), .int ac, .ref (b 6), .ref (b 7), .int sp, .int ou]))], [(b 1, .inl (cy 0, 120, .inl tx))], mW cy (b 2) yn, mW cy (b 3) yt, mW cy (b 4) y3, diW cy (b 5) 588 di, diW cy (b 6) 84 ke, [(b 7, .inl (cy 3, 2, .inl ik))]] 0 [1, 2, 3, 4, 5, 6, 7] (show List.Perm ([0] ++ [1, 2, 3, 4, 5, 6, 7]) (List.range 8) by decide) rfl rfl)) (fun r_3 u_4 H locs e_5 hP hD hS => ?_)
      obtain rfl := e_5
      have hP : va_P D vwCl (modelW cy b ((2, sn, ac, sp, ou), tx, (yn, yt, y3), di, ke, ik)) H := hP
      have hD : va_D A (modelW cy b ((2, sn, ac, sp, ou), tx, (yn, yt, y3), di, ke, ik)) := hD
      refine lv_if_eq (tgt := 37) hx hb dX8_floorOf_32 (by decide) (fun c_6 => ?_) (fun c_6 => ?_)
      · exact absurd c_6 (by decide)
      · refine lv_iconst (v := 0) hx hb dX8_floorOf_35 (by decide) ?_
        exact hret _ _ H locs _ ((2, sn, ac, sp, ou), tx, (yn, yt, y3), di, ke, ik) dX8_floorOf_36 hP hD hS (mPost_t (K := (kFloor f v)) (k := 2) (U := ((rf, sn, ac, sp, ou), tx, (yn, yt, y3), di, ke, ik)) (by simp only [kFloor, if_pos c_1, if_neg c_2, if_neg c_6]) (by decide))
    · have c_2 := zb_ne.mp c_2
      refine lv_iconst (v := 0) hx hb dX8_floorOf_24 (by decide) ?_
      refine lv_goto (tgt := 29) hx hb dX8_floorOf_25 (by decide) ?_
      refine wr_i (fun u => wj [[(b 0, .inr (5, [.int 0, .ref (b 1), .int sn, .ref (b 2), .ref (b 3), .ref (b 4), .ref (b 5), .int ac, .ref (b 6), .ref (b 7), .int sp, .int ou]))], [(b 1, .inl (cy 0, 120, .inl tx))], mW cy (b 2) yn, mW cy (b 3) yt, mW cy (b 4) y3, diW cy (b 5) 588 di, diW cy (b 6) 84 ke, [(b 7, .inl (cy 3, 2, .inl ik))]]) (va_runV (As := [.int 0]) (rest := []) hF (c_X8_refused l D cy b rf sn ac sp ou 0 H.size) (cwV 1 hts gX8_floorOf_X8_refused rfl rfl rfl (by decide +kernel) ⟨Nat.le_of_ble_eq_true rfl, Nat.le_of_ble_eq_true rfl⟩) (wr_preV hK hP hD (zz_pick1 [[(b 0, .inr (5, [.int rf, .ref (b 1), .int sn, .ref (b 2), .ref (b 3), .ref (b 4), .ref (b 5), .int ac, .ref (b 6), .ref (b 7), .int sp, .int ou]))], [(b 1, .inl (cy 0, 120, .inl tx))], mW cy (b 2) yn, mW cy (b 3) yt, mW cy (b 4) y3, diW cy (b 5) 588 di, diW cy (b 6) 84 ke, [(b 7, .inl (cy 3, 2, .inl ik))]] 0 [1, 2, 3, 4, 5, 6, 7] (show List.Perm ([0] ++ [1, 2, 3, 4, 5, 6, 7]) (List.range 8) by decide) rfl rfl) 0 5 rfl rfl rfl) rfl rfl hl.1 rfl (lv_room (Nat.le_of_ble_eq_true rfl)) dX8_floorOf_29 ⟨Nat.le_of_ble_eq_true rfl, Nat.le_of_ble_eq_true rfl⟩) hP hD hS hA (zz_pick1 [[(b 0, .inr (5, [.int rf, .ref (b 1), .int sn, .ref (b 2), .ref (b 3), .ref (b 4), .ref (b 5), .int ac, .ref (b 6), .ref (b 7), .int sp, .int ou]))], [(b 1, .inl (cy 0, 120, .inl tx))], mW cy (b 2) yn, mW cy (b 3) yt, mW cy (b 4) y3, diW cy (b 5) 588 di, diW cy (b 6) 84 ke, [(b 7, .inl (cy 3, 2, .inl ik))]] 0 [1, 2, 3, 4, 5, 6, 7] (show List.Perm ([0] ++ [1, 2, 3, 4, 5, 6, 7]) (List.range 8) by decide) rfl rfl) (fun _ => (zz_pick1 [[(b 0, .inr (5, [.int 0, .ref (b 1), .int sn, .ref (b 2), .ref (b 3), .ref (b 4), .ref (b 5), .int ac, .ref (b 6), .ref (b 7), .int sp, .int ou]))], [(b 1, .inl (cy 0, 120, .inl tx))], mW cy (b 2) yn, mW cy (b 3) yt, mW cy (b 4) y3, diW cy (b 5) 588 di, diW cy (b 6) 84 ke, [(b 7, .inl (cy 3, 2, .inl ik))]] 0 [1, 2, 3, 4, 5, 6, 7] (show List.Perm ([0] ++ [1, 2, 3, 4, 5, 6, 7]) (List.range 8) by decide) rfl rfl)) (fun r_7 u_8 H locs e_9 hP hD hS => ?_)
      obtain rfl := e_9
      have hP : va_P D vwCl (modelW cy b ((0, sn, ac, sp, ou), tx, (yn, yt, y3), di, ke, ik)) H := hP
      have hD : va_D A (modelW cy b ((0, sn, ac, sp, ou), tx, (yn, yt, y3), di, ke, ik)) := hD
      refine lv_if_eq (tgt := 37) hx hb dX8_floorOf_32 (by decide) (fun c_10 => ?_) (fun c_10 => ?_)
      · refine lv_iconst (v := 0) hx hb dX8_floorOf_37 (by decide) ?_
        refine lv_istore_n (lv' := [(3, .int 0), (0, .ref (b 0)), (1, .int f), (2, .int v)]) hx hb dX8_floorOf_38 rfl hl (by decide) rfl (fun ls hl => ?_)
        refine lv_iconst (v := 0) hx hb dX8_floorOf_39 (by decide) ?_
        refine lv_istore (lv' := [(4, .int 0), (3, .int 0), (0, .ref (b 0)), (1, .int f), (2, .int v)]) hx hb dX8_floorOf_40 hl (by decide) rfl (fun ls hl => ?_)
        have loop : ∀ (k i : Nat) (a : Int32), i ≤ n → n + 1 ≤ i + k → lpN (sFM yn.2.2.2.2.2.2.1 yn.2.2.2.1 yn.2.2.1 f v) (n - i) i a = lpN (sFM yn.2.2.2.2.2.2.1 yn.2.2.2.1 yn.2.2.1 f v) n 0 0 → ∀ (H : Heap) (locs : List Loc) (ls : Array Slot), va_P D vwCl (modelW cy b ((0, sn, ac, sp, ou), tx, (yn, yt, y3), di, ke, ik)) H → va_D A (modelW cy b ((0, sn, ac, sp, ou), tx, (yn, yt, y3), di, ke, ik)) → va_S A s.heap H locs → lv_has ls 6 [(4, .int (nI i)), (3, .int a), (0, .ref (b 0)), (1, .int f), (2, .int v)] → W p l e rm_X8_floorOf s m args below meth c H locs 0 0 Q (F0 m 42 ls []) := by
          intro k
          induction k with
          | zero =>
            intro i a hi hk hv
            exact absurd hk (by omega)
          | succ k ih =>
            intro i a hi hk hv H locs ls hP hD hS hl
            refine lv_iload hx hb dX8_floorOf_42 (lv_at hl 0 rfl) ?_
            refine lv_aload_n hx hb dX8_floorOf_44 rfl (lv_at hl 2 rfl) ?_
            refine va_get (ci := 5) (v := .ref (b 2)) (C := RX8) (T := TX8) (N := 12) hx hb hts hin_X8 hown hK hP 0 rfl rfl 3 (by decide) (hts (.fieldLink RX8 13 "ButtonGuestsModel" "now" "[I") (by decide +kernel)) (fun _ h9 => h9) rfl dX8_floorOf_45 ?_
            refine lv_iconst (v := 0) hx hb dX8_floorOf_48 (by decide) ?_
            refine zz_iald hx hb hK hP 2 0 0 rfl rfl rfl ⟨by decide, Nat.le_of_ble_eq_true rfl⟩ dX8_floorOf_49 ?_
            refine zz_top (y := yn.1.1) rfl ?_
            refine zz_top (y := nI n) hg ?_
            refine lv_icmp_ge (tgt := 145) hx hb dX8_floorOf_50 (by decide) (fun c_11 => ?_) (fun c_11 => ?_)
            · have c_11 : n ≤ i := (nI_leI (a := n) (b := i) (by omega) (by omega)).mp c_11
              refine lv_iload_n hx hb dX8_floorOf_145 rfl (lv_at hl 1 rfl) ?_
              exact hret _ _ H locs _ ((0, sn, ac, sp, ou), tx, (yn, yt, y3), di, ke, ik) dX8_floorOf_146 hP hD hS (mPost_r (by simp only [kFloor, if_pos c_1, if_pos c_2, if_pos c_10]) (lpN_end c_11 hv) (rfl))
            · have c_11 : ¬ n ≤ i := fun q => c_11 ((nI_leI (a := n) (b := i) (by omega) (by omega)).mpr q)
              refine lv_iload_n hx hb dX8_floorOf_53 rfl (lv_at hl 4 rfl) ?_
              refine lv_iconst (v := 2) hx hb dX8_floorOf_54 (by decide) ?_
              refine lv_icmp_ne (tgt := 80) hx hb dX8_floorOf_55 (by decide) (fun c_12 => ?_) (fun c_12 => ?_)
              · have c_12 : ¬ v = 2 := c_12
                refine lv_aload_n hx hb dX8_floorOf_80 rfl (lv_at hl 2 rfl) ?_
                refine va_get (ci := 5) (v := .ref (b 2)) (C := RX8) (T := TX8) (N := 12) hx hb hts hin_X8 hown hK hP 0 rfl rfl 3 (by decide) (hts (.fieldLink RX8 13 "ButtonGuestsModel" "now" "[I") (by decide +kernel)) (fun _ h9 => h9) rfl dX8_floorOf_81 ?_
                refine lv_iload hx hb dX8_floorOf_84 (lv_at hl 0 rfl) ?_
                refine lv_iconst (v := 4) hx hb dX8_floorOf_86 (by decide) ?_
                refine rd_S (As := [.ref (b 2), .int (nI i), .int 4]) (rest := []) hF (c_X8_of l D cy (b 2) n hn yn hg i 4 (by omega) (by decide)) (va_cwS 3 hts gX8_floorOf_X8_of rfl rfl rfl (by decide +kernel) ⟨Nat.le_of_ble_eq_true rfl, Nat.le_of_ble_eq_true rfl⟩) hK (hP.sub [2] rfl) rfl hl.1 rfl (Nat.le_of_ble_eq_true rfl) dX8_floorOf_87 ⟨Nat.le_of_ble_eq_true rfl, Nat.le_of_ble_eq_true rfl⟩ ?_
                refine zz_top (y := yn.2.2.2.1 i) rfl ?_
                refine lv_iload_n hx hb dX8_floorOf_90 rfl (lv_at hl 3 rfl) ?_
                refine lv_icmp_ne (tgt := 120) hx hb dX8_floorOf_91 (by decide) (fun c_13 => ?_) (fun c_13 => ?_)
                · have c_13 : ¬ (yn.2.2.2.1 i) = f := c_13
                  refine lv_iconst (v := 0) hx hb dX8_floorOf_120 (by decide) ?_
                  refine lv_istore (lv' := [(5, .int 0), (4, .int (nI i)), (3, .int a), (0, .ref (b 0)), (1, .int f), (2, .int v)]) hx hb dX8_floorOf_121 hl (by decide) rfl (fun ls hl => ?_)
                  refine lv_iload_n hx hb dX8_floorOf_123 rfl (lv_at hl 2 rfl) ?_
                  refine lv_iload hx hb dX8_floorOf_124 (lv_at hl 0 rfl) ?_
                  refine lv_if_eq (tgt := 136) hx hb dX8_floorOf_126 (by decide) (fun c_14 => ?_) (fun c_14 => ?_)
                  · refine lv_iconst (v := 0) hx hb dX8_floorOf_136 (by decide) ?_
                    refine lv_ior hx hb dX8_floorOf_137 ?_
                    refine lv_istore_n (lv' := [(3, .int (a ||| 0)), (5, .int 0), (4, .int (nI i)), (0, .ref (b 0)), (1, .int f), (2, .int v)]) hx hb dX8_floorOf_138 rfl hl (by decide) rfl (fun ls hl => ?_)
                    refine lv_iinc (v := nI (i + 1)) (lv' := [(4, .int (nI (i + 1))), (3, .int (a ||| 0)), (5, .int 0), (0, .ref (b 0)), (1, .int f), (2, .int v)]) hx hb dX8_floorOf_139 hl (k := 2) rfl (nI_add (i) 1) (by decide) rfl (fun ls hl => ?_)
                    refine lv_goto (tgt := 42) hx hb dX8_floorOf_142 (by decide) ?_
                    exact ih (i + 1) _ (by omega) (by omega) (lpN_next (by omega) hv (by simp only [sFM, if_neg c_11, if_neg c_12, if_neg c_13, if_pos c_14])) _ _ _ hP hD hS (lv_sub hl [0, 1, 3, 4, 5] rfl)
                  · exact absurd c_14 (by decide)
                · have c_13 : (yn.2.2.2.1 i) = f := c_13
                  refine lv_aload_n hx hb dX8_floorOf_94 rfl (lv_at hl 2 rfl) ?_
                  refine va_get (ci := 5) (v := .ref (b 2)) (C := RX8) (T := TX8) (N := 12) hx hb hts hin_X8 hown hK hP 0 rfl rfl 3 (by decide) (hts (.fieldLink RX8 13 "ButtonGuestsModel" "now" "[I") (by decide +kernel)) (fun _ h9 => h9) rfl dX8_floorOf_95 ?_
                  refine lv_iload hx hb dX8_floorOf_98 (lv_at hl 0 rfl) ?_
                  refine lv_iconst (v := 3) hx hb dX8_floorOf_100 (by decide) ?_
                  refine rd_S (As := [.ref (b 2), .int (nI i), .int 3]) (rest := []) hF (c_X8_of l D cy (b 2) n hn yn hg i 3 (by omega) (by decide)) (va_cwS 3 hts gX8_floorOf_X8_of rfl rfl rfl (by decide +kernel) ⟨Nat.le_of_ble_eq_true rfl, Nat.le_of_ble_eq_true rfl⟩) hK (hP.sub [2] rfl) rfl hl.1 rfl (Nat.le_of_ble_eq_true rfl) dX8_floorOf_101 ⟨Nat.le_of_ble_eq_true rfl, Nat.le_of_ble_eq_true rfl⟩ ?_
                  refine zz_top (y := yn.2.2.2.2.2.2.1 i) rfl ?_
                  refine lv_iload_n hx hb dX8_floorOf_104 rfl (lv_at hl 4 rfl) ?_
                  refine lv_if_ne (tgt := 112) hx hb dX8_floorOf_105 (by decide) (fun c_15 => ?_) (fun c_15 => ?_)
                  · have c_15 : ¬ v = 0 := c_15
                    refine lv_iconst (v := 2) hx hb dX8_floorOf_112 (by decide) ?_
                    refine lv_icmp_ne (tgt := 120) hx hb dX8_floorOf_113 (by decide) (fun c_16 => ?_) (fun c_16 => ?_)
                    · have c_16 : ¬ (yn.2.2.2.2.2.2.1 i) = 2 := c_16
                      refine lv_iconst (v := 0) hx hb dX8_floorOf_120 (by decide) ?_
                      refine lv_istore (lv' := [(5, .int 0), (4, .int (nI i)), (3, .int a), (0, .ref (b 0)), (1, .int f), (2, .int v)]) hx hb dX8_floorOf_121 hl (by decide) rfl (fun ls hl => ?_)
                      refine lv_iload_n hx hb dX8_floorOf_123 rfl (lv_at hl 2 rfl) ?_
                      refine lv_iload hx hb dX8_floorOf_124 (lv_at hl 0 rfl) ?_
                      refine lv_if_eq (tgt := 136) hx hb dX8_floorOf_126 (by decide) (fun c_17 => ?_) (fun c_17 => ?_)
                      · refine lv_iconst (v := 0) hx hb dX8_floorOf_136 (by decide) ?_
                        refine lv_ior hx hb dX8_floorOf_137 ?_
                        refine lv_istore_n (lv' := [(3, .int (a ||| 0)), (5, .int 0), (4, .int (nI i)), (0, .ref (b 0)), (1, .int f), (2, .int v)]) hx hb dX8_floorOf_138 rfl hl (by decide) rfl (fun ls hl => ?_)
                        refine lv_iinc (v := nI (i + 1)) (lv' := [(4, .int (nI (i + 1))), (3, .int (a ||| 0)), (5, .int 0), (0, .ref (b 0)), (1, .int f), (2, .int v)]) hx hb dX8_floorOf_139 hl (k := 2) rfl (nI_add (i) 1) (by decide) rfl (fun ls hl => ?_)
                        refine lv_goto (tgt := 42) hx hb dX8_floorOf_142 (by decide) ?_
                        exact ih (i + 1) _ (by omega) (by omega) (lpN_next (by omega) hv (by simp only [sFM, if_neg c_11, if_neg c_12, if_pos c_13, if_neg c_15, if_neg c_16, if_pos c_17])) _ _ _ hP hD hS (lv_sub hl [0, 1, 3, 4, 5] rfl)
                      · exact absurd c_17 (by decide)
                    · have c_16 : (yn.2.2.2.2.2.2.1 i) = 2 := c_16
                      refine lv_iconst (v := 1) hx hb dX8_floorOf_116 (by decide) ?_
                      refine lv_goto (tgt := 121) hx hb dX8_floorOf_117 (by decide) ?_
                      refine lv_istore (lv' := [(5, .int 1), (4, .int (nI i)), (3, .int a), (0, .ref (b 0)), (1, .int f), (2, .int v)]) hx hb dX8_floorOf_121 hl (by decide) rfl (fun ls hl => ?_)
                      refine lv_iload_n hx hb dX8_floorOf_123 rfl (lv_at hl 2 rfl) ?_
                      refine lv_iload hx hb dX8_floorOf_124 (lv_at hl 0 rfl) ?_
                      refine lv_if_eq (tgt := 136) hx hb dX8_floorOf_126 (by decide) (fun c_18 => ?_) (fun c_18 => ?_)
                      · exact absurd c_18 (by decide)
                      · refine lv_iconst (v := 1) hx hb dX8_floorOf_129 (by decide) ?_
                        refine lv_iload hx hb dX8_floorOf_130 (lv_at hl 1 rfl) ?_
                        refine lv_ishl hx hb dX8_floorOf_132 ?_
                        refine lv_goto (tgt := 137) hx hb dX8_floorOf_133 (by decide) ?_
                        refine lv_ior hx hb dX8_floorOf_137 ?_
                        refine lv_istore_n (lv' := [(3, .int (a ||| (1 <<< ((nI i) &&& 31)))), (5, .int 1), (4, .int (nI i)), (0, .ref (b 0)), (1, .int f), (2, .int v)]) hx hb dX8_floorOf_138 rfl hl (by decide) rfl (fun ls hl => ?_)
                        refine lv_iinc (v := nI (i + 1)) (lv' := [(4, .int (nI (i + 1))), (3, .int (a ||| (1 <<< ((nI i) &&& 31)))), (5, .int 1), (0, .ref (b 0)), (1, .int f), (2, .int v)]) hx hb dX8_floorOf_139 hl (k := 2) rfl (nI_add (i) 1) (by decide) rfl (fun ls hl => ?_)
                        refine lv_goto (tgt := 42) hx hb dX8_floorOf_142 (by decide) ?_
                        exact ih (i + 1) _ (by omega) (by omega) (lpN_next (by omega) hv (by simp only [sFM, if_neg c_11, if_neg c_12, if_pos c_13, if_neg c_15, if_pos c_16, if_neg c_18])) _ _ _ hP hD hS (lv_sub hl [0, 1, 3, 4, 5] rfl)
                  · have c_15 : v = 0 := c_15
                    refine lv_iconst (v := 0) hx hb dX8_floorOf_108 (by decide) ?_
                    refine lv_goto (tgt := 113) hx hb dX8_floorOf_109 (by decide) ?_
                    refine lv_icmp_ne (tgt := 120) hx hb dX8_floorOf_113 (by decide) (fun c_19 => ?_) (fun c_19 => ?_)
                    · have c_19 : ¬ (yn.2.2.2.2.2.2.1 i) = 0 := c_19
                      refine lv_iconst (v := 0) hx hb dX8_floorOf_120 (by decide) ?_
                      refine lv_istore (lv' := [(5, .int 0), (4, .int (nI i)), (3, .int a), (0, .ref (b 0)), (1, .int f), (2, .int v)]) hx hb dX8_floorOf_121 hl (by decide) rfl (fun ls hl => ?_)
                      refine lv_iload_n hx hb dX8_floorOf_123 rfl (lv_at hl 2 rfl) ?_
                      refine lv_iload hx hb dX8_floorOf_124 (lv_at hl 0 rfl) ?_
                      refine lv_if_eq (tgt := 136) hx hb dX8_floorOf_126 (by decide) (fun c_20 => ?_) (fun c_20 => ?_)
                      · refine lv_iconst (v := 0) hx hb dX8_floorOf_136 (by decide) ?_
                        refine lv_ior hx hb dX8_floorOf_137 ?_
                        refine lv_istore_n (lv' := [(3, .int (a ||| 0)), (5, .int 0), (4, .int (nI i)), (0, .ref (b 0)), (1, .int f), (2, .int v)]) hx hb dX8_floorOf_138 rfl hl (by decide) rfl (fun ls hl => ?_)
                        refine lv_iinc (v := nI (i + 1)) (lv' := [(4, .int (nI (i + 1))), (3, .int (a ||| 0)), (5, .int 0), (0, .ref (b 0)), (1, .int f), (2, .int v)]) hx hb dX8_floorOf_139 hl (k := 2) rfl (nI_add (i) 1) (by decide) rfl (fun ls hl => ?_)
                        refine lv_goto (tgt := 42) hx hb dX8_floorOf_142 (by decide) ?_
                        exact ih (i + 1) _ (by omega) (by omega) (lpN_next (by omega) hv (by simp only [sFM, if_neg c_11, if_neg c_12, if_pos c_13, if_pos c_15, if_neg c_19, if_pos c_20])) _ _ _ hP hD hS (lv_sub hl [0, 1, 3, 4, 5] rfl)
                      · exact absurd c_20 (by decide)
                    · have c_19 : (yn.2.2.2.2.2.2.1 i) = 0 := c_19
                      refine lv_iconst (v := 1) hx hb dX8_floorOf_116 (by decide) ?_
                      refine lv_goto (tgt := 121) hx hb dX8_floorOf_117 (by decide) ?_
                      refine lv_istore (lv' := [(5, .int 1), (4, .int (nI i)), (3, .int a), (0, .ref (b 0)), (1, .int f), (2, .int v)]) hx hb dX8_floorOf_121 hl (by decide) rfl (fun ls hl => ?_)
                      refine lv_iload_n hx hb dX8_floorOf_123 rfl (lv_at hl 2 rfl) ?_
                      refine lv_iload hx hb dX8_floorOf_124 (lv_at hl 0 rfl) ?_
                      refine lv_if_eq (tgt := 136) hx hb dX8_floorOf_126 (by decide) (fun c_21 => ?_) (fun c_21 => ?_)
                      · exact absurd c_21 (by decide)
                      · refine lv_iconst (v := 1) hx hb dX8_floorOf_129 (by decide) ?_
                        refine lv_iload hx hb dX8_floorOf_130 (lv_at hl 1 rfl) ?_
                        refine lv_ishl hx hb dX8_floorOf_132 ?_
                        refine lv_goto (tgt := 137) hx hb dX8_floorOf_133 (by decide) ?_
                        refine lv_ior hx hb dX8_floorOf_137 ?_
                        refine lv_istore_n (lv' := [(3, .int (a ||| (1 <<< ((nI i) &&& 31)))), (5, .int 1), (4, .int (nI i)), (0, .ref (b 0)), (1, .int f), (2, .int v)]) hx hb dX8_floorOf_138 rfl hl (by decide) rfl (fun ls hl => ?_)
                        refine lv_iinc (v := nI (i + 1)) (lv' := [(4, .int (nI (i + 1))), (3, .int (a ||| (1 <<< ((nI i) &&& 31)))), (5, .int 1), (0, .ref (b 0)), (1, .int f), (2, .int v)]) hx hb dX8_floorOf_139 hl (k := 2) rfl (nI_add (i) 1) (by decide) rfl (fun ls hl => ?_)
                        refine lv_goto (tgt := 42) hx hb dX8_floorOf_142 (by decide) ?_
                        exact ih (i + 1) _ (by omega) (by omega) (lpN_next (by omega) hv (by simp only [sFM, if_neg c_11, if_neg c_12, if_pos c_13, if_pos c_15, if_pos c_19, if_neg c_21])) _ _ _ hP hD hS (lv_sub hl [0, 1, 3, 4, 5] rfl)
              · have c_12 : v = 2 := c_12
                refine lv_aload_n hx hb dX8_floorOf_58 rfl (lv_at hl 2 rfl) ?_
                refine va_get (ci := 5) (v := .ref (b 2)) (C := RX8) (T := TX8) (N := 12) hx hb hts hin_X8 hown hK hP 0 rfl rfl 3 (by decide) (hts (.fieldLink RX8 13 "ButtonGuestsModel" "now" "[I") (by decide +kernel)) (fun _ h9 => h9) rfl dX8_floorOf_59 ?_
                refine lv_iload hx hb dX8_floorOf_62 (lv_at hl 0 rfl) ?_
                refine lv_iconst (v := 0) hx hb dX8_floorOf_64 (by decide) ?_
                refine rd_S (As := [.ref (b 2), .int (nI i), .int 0]) (rest := []) hF (c_X8_of l D cy (b 2) n hn yn hg i 0 (by omega) (by decide)) (va_cwS 3 hts gX8_floorOf_X8_of rfl rfl rfl (by decide +kernel) ⟨Nat.le_of_ble_eq_true rfl, Nat.le_of_ble_eq_true rfl⟩) hK (hP.sub [2] rfl) rfl hl.1 rfl (Nat.le_of_ble_eq_true rfl) dX8_floorOf_65 ⟨Nat.le_of_ble_eq_true rfl, Nat.le_of_ble_eq_true rfl⟩ ?_
                refine zz_top (y := yn.2.2.1 i) rfl ?_
                refine lv_iload_n hx hb dX8_floorOf_68 rfl (lv_at hl 3 rfl) ?_
                refine lv_icmp_ne (tgt := 76) hx hb dX8_floorOf_69 (by decide) (fun c_22 => ?_) (fun c_22 => ?_)
                · have c_22 : ¬ (yn.2.2.1 i) = f := c_22
                  refine lv_iconst (v := 0) hx hb dX8_floorOf_76 (by decide) ?_
                  refine lv_goto (tgt := 121) hx hb dX8_floorOf_77 (by decide) ?_
                  refine lv_istore (lv' := [(5, .int 0), (4, .int (nI i)), (3, .int a), (0, .ref (b 0)), (1, .int f), (2, .int v)]) hx hb dX8_floorOf_121 hl (by decide) rfl (fun ls hl => ?_)
                  refine lv_iload_n hx hb dX8_floorOf_123 rfl (lv_at hl 2 rfl) ?_
                  refine lv_iload hx hb dX8_floorOf_124 (lv_at hl 0 rfl) ?_
                  refine lv_if_eq (tgt := 136) hx hb dX8_floorOf_126 (by decide) (fun c_23 => ?_) (fun c_23 => ?_)
                  · refine lv_iconst (v := 0) hx hb dX8_floorOf_136 (by decide) ?_
                    refine lv_ior hx hb dX8_floorOf_137 ?_
                    refine lv_istore_n (lv' := [(3, .int (a ||| 0)), (5, .int 0), (4, .int (nI i)), (0, .ref (b 0)), (1, .int f), (2, .int v)]) hx hb dX8_floorOf_138 rfl hl (by decide) rfl (fun ls hl => ?_)
                    refine lv_iinc (v := nI (i + 1)) (lv' := [(4, .int (nI (i + 1))), (3, .int (a ||| 0)), (5, .int 0), (0, .ref (b 0)), (1, .int f), (2, .int v)]) hx hb dX8_floorOf_139 hl (k := 2) rfl (nI_add (i) 1) (by decide) rfl (fun ls hl => ?_)
                    refine lv_goto (tgt := 42) hx hb dX8_floorOf_142 (by decide) ?_
                    exact ih (i + 1) _ (by omega) (by omega) (lpN_next (by omega) hv (by simp only [sFM, if_neg c_11, if_pos c_12, if_neg c_22, if_pos c_23])) _ _ _ hP hD hS (lv_sub hl [0, 1, 3, 4, 5] rfl)
                  · exact absurd c_23 (by decide)
                · have c_22 : (yn.2.2.1 i) = f := c_22
                  refine lv_iconst (v := 1) hx hb dX8_floorOf_72 (by decide) ?_
                  refine lv_goto (tgt := 121) hx hb dX8_floorOf_73 (by decide) ?_
                  refine lv_istore (lv' := [(5, .int 1), (4, .int (nI i)), (3, .int a), (0, .ref (b 0)), (1, .int f), (2, .int v)]) hx hb dX8_floorOf_121 hl (by decide) rfl (fun ls hl => ?_)
                  refine lv_iload_n hx hb dX8_floorOf_123 rfl (lv_at hl 2 rfl) ?_
                  refine lv_iload hx hb dX8_floorOf_124 (lv_at hl 0 rfl) ?_
                  refine lv_if_eq (tgt := 136) hx hb dX8_floorOf_126 (by decide) (fun c_24 => ?_) (fun c_24 => ?_)
                  · exact absurd c_24 (by decide)
                  · refine lv_iconst (v := 1) hx hb dX8_floorOf_129 (by decide) ?_
                    refine lv_iload hx hb dX8_floorOf_130 (lv_at hl 1 rfl) ?_
                    refine lv_ishl hx hb dX8_floorOf_132 ?_
                    refine lv_goto (tgt := 137) hx hb dX8_floorOf_133 (by decide) ?_
                    refine lv_ior hx hb dX8_floorOf_137 ?_
                    refine lv_istore_n (lv' := [(3, .int (a ||| (1 <<< ((nI i) &&& 31)))), (5, .int 1), (4, .int (nI i)), (0, .ref (b 0)), (1, .int f), (2, .int v)]) hx hb dX8_floorOf_138 rfl hl (by decide) rfl (fun ls hl => ?_)
                    refine lv_iinc (v := nI (i + 1)) (lv' := [(4, .int (nI (i + 1))), (3, .int (a ||| (1 <<< ((nI i) &&& 31)))), (5, .int 1), (0, .ref (b 0)), (1, .int f), (2, .int v)]) hx hb dX8_floorOf_139 hl (k := 2) rfl (nI_add (i) 1) (by decide) rfl (fun ls hl => ?_)
                    refine lv_goto (tgt := 42) hx hb dX8_floorOf_142 (by decide) ?_
                    exact ih (i + 1) _ (by omega) (by omega) (lpN_next (by omega) hv (by simp only [sFM, if_neg c_11, if_pos c_12, if_pos c_22, if_neg c_24])) _ _ _ hP hD hS (lv_sub hl [0, 1, 3, 4, 5] rfl)
        exact loop (n + 1) 0 _ (Nat.zero_le _) (by omega) rfl _ _ _ hP hD hS (lv_sub hl [0, 1, 2, 3, 4] rfl)
      · exact absurd c_10 (by decide)
  · have c_1 := zb_eq.mp c_1
    refine lv_iconst (v := 1) hx hb dX8_floorOf_8 (by decide) ?_
    refine lv_goto (tgt := 29) hx hb dX8_floorOf_9 (by decide) ?_
    refine wr_i (fun u => wj [[(b 0, .inr (5, [.int 1, .ref (b 1), .int sn, .ref (b 2), .ref (b 3), .ref (b 4), .ref (b 5), .int ac, .ref (b 6), .ref (b 7), .int sp, .int ou]))], [(b 1, .inl (cy 0, 120, .inl tx))], mW cy (b 2) yn, mW cy (b 3) yt, mW cy (b 4) y3, diW cy (b 5) 588 di, diW cy (b 6) 84 ke, [(b 7, .inl (cy 3, 2, .inl ik))]]) (va_runV (As := [.int 1]) (rest := []) hF (c_X8_refused l D cy b rf sn ac sp ou 1 H.size) (cwV 1 hts gX8_floorOf_X8_refused rfl rfl rfl (by decide +kernel) ⟨Nat.le_of_ble_eq_true rfl, Nat.le_of_ble_eq_true rfl⟩) (wr_preV hK hP hD (zz_pick1 [[(b 0, .inr (5, [.int rf, .ref (b 1), .int sn, .ref (b 2), .ref (b 3), .ref (b 4), .ref (b 5), .int ac, .ref (b 6), .ref (b 7), .int sp, .int ou]))], [(b 1, .inl (cy 0, 120, .inl tx))], mW cy (b 2) yn, mW cy (b 3) yt, mW cy (b 4) y3, diW cy (b 5) 588 di, diW cy (b 6) 84 ke, [(b 7, .inl (cy 3, 2, .inl ik))]] 0 [1, 2, 3, 4, 5, 6, 7] (show List.Perm ([0] ++ [1, 2, 3, 4, 5, 6, 7]) (List.range 8) by decide) rfl rfl) 0 5 rfl rfl rfl) rfl rfl hl.1 rfl (lv_room (Nat.le_of_ble_eq_true rfl)) dX8_floorOf_29 ⟨Nat.le_of_ble_eq_true rfl, Nat.le_of_ble_eq_true rfl⟩) hP hD hS hA (zz_pick1 [[(b 0, .inr (5, [.int rf, .ref (b 1), .int sn, .ref (b 2), .ref (b 3), .ref (b 4), .ref (b 5), .int ac, .ref (b 6), .ref (b 7), .int sp, .int ou]))], [(b 1, .inl (cy 0, 120, .inl tx))], mW cy (b 2) yn, mW cy (b 3) yt, mW cy (b 4) y3, diW cy (b 5) 588 di, diW cy (b 6) 84 ke, [(b 7, .inl (cy 3, 2, .inl ik))]] 0 [1, 2, 3, 4, 5, 6, 7] (show List.Perm ([0] ++ [1, 2, 3, 4, 5, 6, 7]) (List.range 8) by decide) rfl rfl) (fun _ => (zz_pick1 [[(b 0, .inr (5, [.int 1, .ref (b 1), .int sn, .ref (b 2), .ref (b 3), .ref (b 4), .ref (b 5), .int ac, .ref (b 6), .ref (b 7), .int sp, .int ou]))], [(b 1, .inl (cy 0, 120, .inl tx))], mW cy (b 2) yn, mW cy (b 3) yt, mW cy (b 4) y3, diW cy (b 5) 588 di, diW cy (b 6) 84 ke, [(b 7, .inl (cy 3, 2, .inl ik))]] 0 [1, 2, 3, 4, 5, 6, 7] (show List.Perm ([0] ++ [1, 2, 3, 4, 5, 6, 7]) (List.range 8) by decide) rfl rfl)) (fun r_25 u_26 H locs e_27 hP hD hS => ?_)
    obtain rfl := e_27
    have hP : va_P D vwCl (modelW cy b ((1, sn, ac, sp, ou), tx, (yn, yt, y3), di, ke, ik)) H := hP
    have hD : va_D A (modelW cy b ((1, sn, ac, sp, ou), tx, (yn, yt, y3), di, ke, ik)) := hD
    refine lv_if_eq (tgt := 37) hx hb dX8_floorOf_32 (by decide) (fun c_28 => ?_) (fun c_28 => ?_)
    · exact absurd c_28 (by decide)
    · refine lv_iconst (v := 0) hx hb dX8_floorOf_35 (by decide) ?_
      exact hret _ _ H locs _ ((1, sn, ac, sp, ou), tx, (yn, yt, y3), di, ke, ik) dX8_floorOf_36 hP hD hS (mPost_t (K := (kFloor f v)) (k := 1) (U := ((rf, sn, ac, sp, ou), tx, (yn, yt, y3), di, ke, ik)) (by simp only [kFloor, if_neg c_1, if_neg c_28]) (by decide))
abbrev rm_X8_setting : Room := { frames := 1, cells := 0, slots := 0, locals := 25 }
set_option maxHeartbeats 4000000 in
set_option maxRecDepth 100000 in
theorem c_X8_setting (l : Launch) (D : va_G) (cy : Nat → ClassId) (b : Nat → Nat) (rf sn ac sp ou : Int32) (tx : Nat → Int32) (yn yt y3 : HS) (di ke : Nat → HS) (ik : Nat → Int32) (n : Nat) (hn : n ≤ 4) (hg : yn.1.1 = nI n) (v : Int32) (sz : Nat) : Met l yX8_setting wsX8_setting rm_X8_setting (wrP D cy [.ref (b 0), .int v] (modelW cy b ((rf, sn, ac, sp, ou), tx, (yn, yt, y3), di, ke, ik)) sz) (va_Qi (fun (r : Int32) (u : MS) => mPost (kSetg v) r (yn.2.1 v.toNatClampNeg) u (((0, sn, ac, sp, ou), tx, (yn, yt, y3), di, ke, ik)) ((rf, sn, ac, sp, ou), tx, (yn, yt, y3), di, ke, ik)) (wrB D (va_A (modelW cy b ((rf, sn, ac, sp, ou), tx, (yn, yt, y3), di, ke, ik)) sz) (fun u => modelW cy b u)) (va_A (modelW cy b ((rf, sn, ac, sp, ou), tx, (yn, yt, y3), di, ke, ik)) sz)) 0 0 (va_A (modelW cy b ((rf, sn, ac, sp, ou), tx, (yn, yt, y3), di, ke, ik)) sz) := by
  refine Mwi (cc := cX8_setting) (maxL := 2) (ty := .int) (by decide) rfl (Nat.le_of_ble_eq_true rfl) (fun _ _ _ => rfl) ?_
  intro p e s m args below meth c Q ls A hsz hF hK hP hD hA hl hret
  obtain ⟨hx, hb, hml, hown, hts⟩ := id hF
  have hown : s.vm.findClass RX8 = some m.cls := hown
  have hin_X8 : ∀ w ∈ u_ws RX8 TX8 12, w ∈ wsX8_setting := by decide +kernel
  have hl : lv_has ls 2 [(0, .ref (b 0)), (1, .int v)] := hl
  suffices key : ∀ (H : Heap) (locs : List Loc), va_P D vwCl (modelW cy b ((rf, sn, ac, sp, ou), tx, (yn, yt, y3), di, ke, ik)) H → va_D A (modelW cy b ((rf, sn, ac, sp, ou), tx, (yn, yt, y3), di, ke, ik)) → va_S A s.heap H locs → W p l e rm_X8_setting s m args below meth c H locs 0 0 Q (F0 m 0 ls []) from key s.heap [] hP hD va_S.rf
  intro H locs hP hD hS
  refine lv_aload_n hx hb dX8_setting_0 rfl (lv_at hl 0 rfl) ?_
  refine lv_iload_n hx hb dX8_setting_1 rfl (lv_at hl 1 rfl) ?_
  refine lv_i2l (v := Int32.toInt64 v) hx hb dX8_setting_2 rfl ?_
  refine lv_lconst (v := 0) hx hb dX8_setting_3 (by decide) ?_
  refine lv_ldc2 (v := 2) hx hb hown (hts (.constantLong RX8 172 (2)) (by decide +kernel)) dX8_setting_4 ?_
  refine rd_S (As := [.long (Int32.toInt64 v), .long 0, .long 2]) (rest := [.ref (b 0)]) hF (c_X8_in l D cy (Int32.toInt64 v) 0 2) (va_cwS 3 hts gX8_setting_X8_in rfl rfl rfl (by decide +kernel) ⟨Nat.le_of_ble_eq_true rfl, Nat.le_of_ble_eq_true rfl⟩) hK (fun k q h => by simp at h) rfl hl.1 rfl (Nat.le_of_ble_eq_true rfl) dX8_setting_7 ⟨Nat.le_of_ble_eq_true rfl, Nat.le_of_ble_eq_true rfl⟩ ?_
  refine lv_if_eq (tgt := 17) hx hb dX8_setting_10 (by decide) (fun c_1 => ?_) (fun c_1 => ?_)
  · have c_1 := zb_eq.mp c_1
    refine lv_iconst (v := 1) hx hb dX8_setting_17 (by decide) ?_
    refine wr_i (fun u => wj [[(b 0, .inr (5, [.int 1, .ref (b 1), .int sn, .ref (b 2), .ref (b 3), .ref (b 4), .ref (b 5), .int ac, .ref (b 6), .ref (b 7), .int sp, .int ou]))], [(b 1, .inl (cy 0, 120, .inl tx))], mW cy (b 2) yn, mW cy (b 3) yt, mW cy (b 4) y3, diW cy (b 5) 588 di, diW cy (b 6) 84 ke, [(b 7, .inl (cy 3, 2, .inl ik))]]) (va_runV (As := [.int 1]) (rest := []) hF (c_X8_refused l D cy b rf sn ac sp ou 1 H.size) (cwV 1 hts gX8_setting_X8_refused rfl rfl rfl (by decide +kernel) ⟨Nat.le_of_ble_eq_true rfl, Nat.le_of_ble_eq_true rfl⟩) (wr_preV hK hP hD (zz_pick1 [[(b 0, .inr (5, [.int rf, .ref (b 1), .int sn, .ref (b 2), .ref (b 3), .ref (b 4), .ref (b 5), .int ac, .ref (b 6), .ref (b 7), .int sp, .int ou]))], [(b 1, .inl (cy 0, 120, .inl tx))], mW cy (b 2) yn, mW cy (b 3) yt, mW cy (b 4) y3, diW cy (b 5) 588 di, diW cy (b 6) 84 ke, [(b 7, .inl (cy 3, 2, .inl ik))]] 0 [1, 2, 3, 4, 5, 6, 7] (show List.Perm ([0] ++ [1, 2, 3, 4, 5, 6, 7]) (List.range 8) by decide) rfl rfl) 0 5 rfl rfl rfl) rfl rfl hl.1 rfl (lv_room (Nat.le_of_ble_eq_true rfl)) dX8_setting_18 ⟨Nat.le_of_ble_eq_true rfl, Nat.le_of_ble_eq_true rfl⟩) hP hD hS hA (zz_pick1 [[(b 0, .inr (5, [.int rf, .ref (b 1), .int sn, .ref (b 2), .ref (b 3), .ref (b 4), .ref (b 5), .int ac, .ref (b 6), .ref (b 7), .int sp, .int ou]))], [(b 1, .inl (cy 0, 120, .inl tx))], mW cy (b 2) yn, mW cy (b 3) yt, mW cy (b 4) y3, diW cy (b 5) 588 di, diW cy (b 6) 84 ke, [(b 7, .inl (cy 3, 2, .inl ik))]] 0 [1, 2, 3, 4, 5, 6, 7] (show List.Perm ([0] ++ [1, 2, 3, 4, 5, 6, 7]) (List.range 8) by decide) rfl rfl) (fun _ => (zz_pick1 [[(b 0, .inr (5, [.int 1, .ref (b 1), .int sn, .ref (b 2), .ref (b 3), .ref (b 4), .ref (b 5), .int ac, .ref (b 6), .ref (b 7), .int sp, .int ou]))], [(b 1, .inl (cy 0, 120, .inl tx))], mW cy (b 2) yn, mW cy (b 3) yt, mW cy (b 4) y3, diW cy (b 5) 588 di, diW cy (b 6) 84 ke, [(b 7, .inl (cy 3, 2, .inl ik))]] 0 [1, 2, 3, 4, 5, 6, 7] (show List.Perm ([0] ++ [1, 2, 3, 4, 5, 6, 7]) (List.range 8) by decide) rfl rfl)) (fun r_2 u_3 H locs e_4 hP hD hS => ?_)
    obtain rfl := e_4
    have hP : va_P D vwCl (modelW cy b ((1, sn, ac, sp, ou), tx, (yn, yt, y3), di, ke, ik)) H := hP
    have hD : va_D A (modelW cy b ((1, sn, ac, sp, ou), tx, (yn, yt, y3), di, ke, ik)) := hD
    refine lv_if_eq (tgt := 26) hx hb dX8_setting_21 (by decide) (fun c_5 => ?_) (fun c_5 => ?_)
    · exact absurd c_5 (by decide)
    · refine lv_iconst (v := 0) hx hb dX8_setting_24 (by decide) ?_
      exact hret _ _ H locs _ ((1, sn, ac, sp, ou), tx, (yn, yt, y3), di, ke, ik) dX8_setting_25 hP hD hS (mPost_t (K := (kSetg v)) (k := 1) (U := ((rf, sn, ac, sp, ou), tx, (yn, yt, y3), di, ke, ik)) (by simp only [kSetg, if_neg c_1, if_neg c_5]) (by decide))
  · have c_1 := zb_ne.mp c_1
    refine lv_iconst (v := 0) hx hb dX8_setting_13 (by decide) ?_
    refine lv_goto (tgt := 18) hx hb dX8_setting_14 (by decide) ?_
    refine wr_i (fun u => wj [[(b 0, .inr (5, [.int 0, .ref (b 1), .int sn, .ref (b 2), .ref (b 3), .ref (b 4), .ref (b 5), .int ac, .ref (b 6), .ref (b 7), .int sp, .int ou]))], [(b 1, .inl (cy 0, 120, .inl tx))], mW cy (b 2) yn, mW cy (b 3) yt, mW cy (b 4) y3, diW cy (b 5) 588 di, diW cy (b 6) 84 ke, [(b 7, .inl (cy 3, 2, .inl ik))]]) (va_runV (As := [.int 0]) (rest := []) hF (c_X8_refused l D cy b rf sn ac sp ou 0 H.size) (cwV 1 hts gX8_setting_X8_refused rfl rfl rfl (by decide +kernel) ⟨Nat.le_of_ble_eq_true rfl, Nat.le_of_ble_eq_true rfl⟩) (wr_preV hK hP hD (zz_pick1 [[(b 0, .inr (5, [.int rf, .ref (b 1), .int sn, .ref (b 2), .ref (b 3), .ref (b 4), .ref (b 5), .int ac, .ref (b 6), .ref (b 7), .int sp, .int ou]))], [(b 1, .inl (cy 0, 120, .inl tx))], mW cy (b 2) yn, mW cy (b 3) yt, mW cy (b 4) y3, diW cy (b 5) 588 di, diW cy (b 6) 84 ke, [(b 7, .inl (cy 3, 2, .inl ik))]] 0 [1, 2, 3, 4, 5, 6, 7] (show List.Perm ([0] ++ [1, 2, 3, 4, 5, 6, 7]) (List.range 8) by decide) rfl rfl) 0 5 rfl rfl rfl) rfl rfl hl.1 rfl (lv_room (Nat.le_of_ble_eq_true rfl)) dX8_setting_18 ⟨Nat.le_of_ble_eq_true rfl, Nat.le_of_ble_eq_true rfl⟩) hP hD hS hA (zz_pick1 [[(b 0, .inr (5, [.int rf, .ref (b 1), .int sn, .ref (b 2), .ref (b 3), .ref (b 4), .ref (b 5), .int ac, .ref (b 6), .ref (b 7), .int sp, .int ou]))], [(b 1, .inl (cy 0, 120, .inl tx))], mW cy (b 2) yn, mW cy (b 3) yt, mW cy (b 4) y3, diW cy (b 5) 588 di, diW cy (b 6) 84 ke, [(b 7, .inl (cy 3, 2, .inl ik))]] 0 [1, 2, 3, 4, 5, 6, 7] (show List.Perm ([0] ++ [1, 2, 3, 4, 5, 6, 7]) (List.range 8) by decide) rfl rfl) (fun _ => (zz_pick1 [[(b 0, .inr (5, [.int 0, .ref (b 1), .int sn, .ref (b 2), .ref (b 3), .ref (b 4), .ref (b 5), .int ac, .ref (b 6), .ref (b 7), .int sp, .int ou]))], [(b 1, .inl (cy 0, 120, .inl tx))], mW cy (b 2) yn, mW cy (b 3) yt, mW cy (b 4) y3, diW cy (b 5) 588 di, diW cy (b 6) 84 ke, [(b 7, .inl (cy 3, 2, .inl ik))]] 0 [1, 2, 3, 4, 5, 6, 7] (show List.Perm ([0] ++ [1, 2, 3, 4, 5, 6, 7]) (List.range 8) by decide) rfl rfl)) (fun r_6 u_7 H locs e_8 hP hD hS => ?_)
    obtain rfl := e_8
    have hP : va_P D vwCl (modelW cy b ((0, sn, ac, sp, ou), tx, (yn, yt, y3), di, ke, ik)) H := hP
    have hD : va_D A (modelW cy b ((0, sn, ac, sp, ou), tx, (yn, yt, y3), di, ke, ik)) := hD
    refine lv_if_eq (tgt := 26) hx hb dX8_setting_21 (by decide) (fun c_9 => ?_) (fun c_9 => ?_)
    · obtain ⟨jw, hjw, rfl⟩ := inL_nat (c := 2) (k := 2) (by decide) rfl c_1
      refine lv_aload_n hx hb dX8_setting_26 rfl (lv_at hl 0 rfl) ?_
      refine va_get (ci := 5) (v := .ref (b 2)) (C := RX8) (T := TX8) (N := 12) hx hb hts hin_X8 hown hK hP 0 rfl rfl 3 (by decide) (hts (.fieldLink RX8 13 "ButtonGuestsModel" "now" "[I") (by decide +kernel)) (fun _ h9 => h9) rfl dX8_setting_27 ?_
      refine lv_bipush (v := 7) hx hb dX8_setting_30 (by decide) ?_
      refine lv_iload_n hx hb dX8_setting_32 rfl (lv_at hl 1 rfl) ?_
      refine lv_iadd hx hb dX8_setting_33 ?_
      refine zz_top (y := nI (7 + jw)) (nI_add 7 jw) ?_
      refine zz_iald hx hb hK hP 2 0 (7 + jw) rfl rfl rfl ⟨by omega, Nat.le_of_ble_eq_true rfl⟩ dX8_setting_34 ?_
      refine zz_top (y := yn.2.1 jw) (mOf_s (by omega)) ?_
      exact hret _ _ H locs _ ((0, sn, ac, sp, ou), tx, (yn, yt, y3), di, ke, ik) dX8_setting_35 hP hD hS (mPost_r (by simp only [kSetg, if_pos c_1, if_pos c_9]) (by rw [nI_clamp (by omega)]) (rfl))
    · exact absurd c_9 (by decide)
