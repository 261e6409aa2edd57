/-! the reference's object: refusal, size, acts, spot, out; text; now, trial, third; diary, kept, isKept -/
abbrev MS : Type := (Int32 × Int32 × Int32 × Int32 × Int32) × (Nat → Int32) × (HS × HS × HS) × (Nat → HS) × (Nat → HS) × (Nat → Int32)
/-- a row of states, 42 numbers each -/
def diOf (d : Nat → HS) : Nat → Int32 := fun j => mOf (d (j / 42)) (j % 42)
abbrev diW (cy : Nat → ClassId) (b nb : Nat) (d : Nat → HS) : va_W := [(b, .inl (cy 0, nb, .inl (diOf d)))]
abbrev modelW (cy : Nat → ClassId) (b : Nat → Nat) (u : MS) : va_W := wj [[(b 0, .inr (5, [.int u.1.1, .ref (b 1), .int u.1.2.1, .ref (b 2), .ref (b 3), .ref (b 4), .ref (b 5), .int u.1.2.2.1, .ref (b 6), .ref (b 7), .int u.1.2.2.2.1, .int u.1.2.2.2.2]))], [(b 1, .inl (cy 0, 120, .inl u.2.1))], mW cy (b 2) u.2.2.1.1, mW cy (b 3) u.2.2.1.2.1, mW cy (b 4) u.2.2.1.2.2, diW cy (b 5) 588 u.2.2.2.1, diW cy (b 6) 84 u.2.2.2.2.1, [(b 7, .inl (cy 3, 2, .inl u.2.2.2.2.2))]]
theorem cp_st {f : Nat → Int32} {sp : Nat} {y : HS} {g : Nat → Int32} (hf : ∀ j, j < 42 → f (sp + j) = mOf y j) (j : Nat) (hj : j < 42) : lpN (sCp f sp 0) 42 0 g j = mOf y j := by
  rw [lpN_cp, if_pos (by omega), ← hf j hj]
  congr 1
theorem cp_di {f : Nat → Int32} {sp k : Nat} {y : HS} {d : Nat → HS} (hf : ∀ j, j < 42 → f (sp + j) = mOf y j) : lpN (sCp f sp (42 * k)) 42 0 (diOf d) = diOf (va_up d k y) := by
  funext j
  rw [lpN_cp]
  unfold diOf va_up
  by_cases h : 42 * k + 0 ≤ j ∧ j < 42 * k + 0 + 42
  · rw [if_pos h, if_pos (by omega), hf _ (by omega)]
    congr 1
    omega
  · rw [if_neg h, if_neg (by omega)]
theorem diOf_at {d : Nat → HS} {k : Nat} (j : Nat) (hj : j < 42) : diOf d (42 * k + j) = mOf (d k) j := by
  unfold diOf
  rw [show (42 * k + j) / 42 = k by omega, show (42 * k + j) % 42 = j by omega]
def sDown : Nat → (Nat → Int32) → (Nat → Int32) := fun i g => upd g i (g (i + 42))
theorem lpN_down : ∀ (k i : Nat) (g : Nat → Int32) (j : Nat), lpN sDown k i g j = if i ≤ j ∧ j < i + k then g (j + 42) else g j
  | 0, i, g, j => by rw [if_neg (by omega)]; rfl
  | k + 1, i, g, j => by
    show lpN sDown k (i + 1) (upd g i (g (i + 42))) j = _
    rw [lpN_down k (i + 1)]
    unfold upd
    by_cases h : i + 1 ≤ j ∧ j < i + 1 + k
    · rw [if_pos h, if_neg (show ¬ j + 42 = i by omega), if_pos (by omega)]
    · rw [if_neg h]
      by_cases h2 : j = i
      · rw [if_pos h2, if_pos (by omega), h2]
      · rw [if_neg h2, if_neg (by omega)]
def downD (d : Nat → HS) : Nat → HS := fun k => if k < 13 then d (k + 1) else d k
theorem diOf_down {d : Nat → HS} : lpN sDown 546 0 (diOf d) = diOf (downD d) := by
  funext j
  rw [lpN_down]
  unfold diOf downD
  by_cases h : j < 546
  · rw [if_pos (by omega), if_pos (by omega), show (j + 42) / 42 = j / 42 + 1 by omega, show (j + 42) % 42 = j % 42 by omega]
  · rw [if_neg (by omega), if_neg (by omega)]
def mRem (ac : Nat) (y : HS) (d : Nat → HS) : Nat → HS := if ac = 14 then va_up (downD d) 13 y else va_up d ac y
def mAc (ac : Nat) : Nat := if ac = 14 then 14 else ac + 1
set_option maxHeartbeats 4000000 in
set_option maxRecDepth 100000 in
theorem c_X8_copyState_s (l : Launch) (D : va_G) (cy : Nat → ClassId) (a b na sp : Nat) (f : Nat → Int32) (y0 y : HS) (h1 : sp + 42 ≤ na) (h3 : na < 2 ^ 31) (hf : ∀ j, j < 42 → f (sp + j) = mOf y j) (sz : Nat) : Met l yX8_copyState wsX8_copyState rm_X8_copyState (wrP D cy [.ref a, .int (nI sp), .ref b, .int (nI 0)] ([(a, .inl (cy 0, na, .inl f)), (b, .inl (cy 0, 42, .inl ((mOf y0))))]) sz) (va_Qv (fun u : Unit => True) (wrB D (va_A ([(a, .inl (cy 0, na, .inl f)), (b, .inl (cy 0, 42, .inl ((mOf y0))))]) sz) (fun u => [(a, .inl (cy 0, na, .inl f)), (b, .inl (cy 0, 42, .inl (mOf y)))])) (va_A ([(a, .inl (cy 0, na, .inl f)), (b, .inl (cy 0, 42, .inl ((mOf y0))))]) sz)) 0 0 (va_A ([(a, .inl (cy 0, na, .inl f)), (b, .inl (cy 0, 42, .inl ((mOf y0))))]) sz) := by
  refine Mwv (cc := cX8_copyState) (maxL := 5) (by decide) rfl (Nat.le_of_ble_eq_true rfl) ?_
  intro p e s m args below meth c Q ls A hsz hinit hF hK hP hD hA hl hret
  obtain ⟨hx, hb, hml, hown, hts⟩ := id hF
  have hown : s.vm.findClass RX8 = some m.cls := hown
  have hl : lv_has ls 5 [(0, .ref a), (1, .int (nI sp)), (2, .ref b), (3, .int (nI 0))] := hl
  suffices key : ∀ (H : Heap) (locs : List Loc), va_P D vwCl ([(a, .inl (cy 0, na, .inl f)), (b, .inl (cy 0, 42, .inl ((mOf y0))))]) H → va_D A ([(a, .inl (cy 0, na, .inl f)), (b, .inl (cy 0, 42, .inl ((mOf y0))))]) → va_S A s.heap H locs → W p l e rm_X8_copyState s m args below meth c H locs 0 0 Q (F0 m 0 ls []) from key s.heap [] hP hD va_S.rf
  intro H locs hP hD hS
  refine lv_iconst (v := 0) hx hb dX8_copyState_0 (by decide) ?_
  refine lv_istore (lv' := [(4, .int 0), (0, .ref a), (1, .int (nI sp)), (2, .ref b), (3, .int (nI 0))]) hx hb dX8_copyState_1 hl (by decide) rfl (fun ls hl => ?_)
  have loop : ∀ (k i : Nat) (gv : Nat → Int32), i ≤ 42 → 43 ≤ i + k → lpN (sCp f sp 0) (42 - i) i gv = lpN (sCp f sp 0) 42 0 (mOf y0) → ∀ (H : Heap) (locs : List Loc) (ls : Array Slot), va_P D vwCl ([(a, .inl (cy 0, na, .inl f)), (b, .inl (cy 0, 42, .inl gv))]) H → va_D A ([(a, .inl (cy 0, na, .inl f)), (b, .inl (cy 0, 42, .inl gv))]) → va_S A s.heap H locs → lv_has ls 5 [(4, .int (nI i)), (0, .ref a), (1, .int (nI sp)), (2, .ref b), (3, .int (nI 0))] → W p l e rm_X8_copyState s m args below meth c H locs 0 0 Q (F0 m 3 ls []) := by
    intro k
    induction k with
    | zero =>
      intro i gv hi hk hv
      exact absurd hk (by omega)
    | succ k ih =>
      intro i gv hi hk hv H locs ls hP hD hS hl
      refine lv_iload hx hb dX8_copyState_3 (lv_at hl 0 rfl) ?_
      refine lv_bipush (v := 42) hx hb dX8_copyState_5 (by decide) ?_
      refine lv_icmp_ge (tgt := 28) hx hb dX8_copyState_7 (by decide) (fun c_1 => ?_) (fun c_1 => ?_)
      · have c_1 : 42 ≤ i := (nI_leI (a := 42) (b := i) (by omega) (by omega)).mp c_1
        obtain rfl := lpN_end c_1 hv
        exact hret _ _ H locs () dX8_copyState_28 (zz_rowP (ws := [(a, .inl (cy 0, na, .inl f)), (b, .inl (cy 0, 42, .inl f))]) (q := 1) (Nat.lt_succ_self 1) (cp_st hf) hP) (zz_rowD (ws := [(a, .inl (cy 0, na, .inl f)), (b, .inl (cy 0, 42, .inl f))]) (q := 1) hD) hS trivial
      · have c_1 : ¬ 42 ≤ i := fun q => c_1 ((nI_leI (a := 42) (b := i) (by omega) (by omega)).mpr q)
        refine lv_aload_n hx hb dX8_copyState_10 rfl (lv_at hl 3 rfl) ?_
        refine lv_iload_n hx hb dX8_copyState_11 rfl (lv_at hl 4 rfl) ?_
        refine lv_iload hx hb dX8_copyState_12 (lv_at hl 0 rfl) ?_
        refine lv_iadd hx hb dX8_copyState_14 ?_
        refine zz_top (y := nI (0 + i)) (nI_add (0) i) ?_
        refine lv_aload_n hx hb dX8_copyState_15 rfl (lv_at hl 1 rfl) ?_
        refine lv_iload_n hx hb dX8_copyState_16 rfl (lv_at hl 2 rfl) ?_
        refine lv_iload hx hb dX8_copyState_17 (lv_at hl 0 rfl) ?_
        refine lv_iadd hx hb dX8_copyState_19 ?_
        refine zz_top (y := nI (sp + i)) (nI_add sp i) ?_
        refine zz_iald hx hb hK hP 0 0 (sp + i) rfl rfl rfl ⟨by omega, by omega⟩ dX8_copyState_20 ?_
        refine zz_iast hx hb hK hP hD hS 1 0 (0 + i) rfl rfl rfl ⟨by omega, Nat.le_of_ble_eq_true rfl⟩ dX8_copyState_21 (fun H locs hP hD hS => ?_)
        have hP : va_P D vwCl ([(a, .inl (cy 0, na, .inl f)), (b, .inl (cy 0, 42, .inl ((upd gv (0 + i) (f (sp + i))))))]) H := hP
        have hD : va_D A ([(a, .inl (cy 0, na, .inl f)), (b, .inl (cy 0, 42, .inl ((upd gv (0 + i) (f (sp + i))))))]) := hD
        refine lv_iinc (v := nI (i + 1)) (lv' := [(4, .int (nI (i + 1))), (0, .ref a), (1, .int (nI sp)), (2, .ref b), (3, .int (nI 0))]) hx hb dX8_copyState_22 hl (k := 0) rfl (nI_add (i) 1) (by decide) rfl (fun ls hl => ?_)
        refine lv_goto (tgt := 3) hx hb dX8_copyState_25 (by decide) ?_
        exact ih (i + 1) _ (by omega) (by omega) (lpN_next (by omega) hv rfl) _ _ _ hP hD hS (lv_sub hl [0, 1, 2, 3, 4] rfl)
  exact loop 43 0 _ (Nat.zero_le _) (by omega) rfl _ _ _ hP hD hS (lv_sub hl [0, 1, 2, 3, 4] rfl)
set_option maxHeartbeats 4000000 in
set_option maxRecDepth 100000 in
theorem c_X8_copyState_d (l : Launch) (D : va_G) (cy : Nat → ClassId) (a b na nb sp k9 : Nat) (f : Nat → Int32) (d : Nat → HS) (y : HS) (h1 : sp + 42 ≤ na) (h2 : 42 * k9 + 42 ≤ nb) (h3 : na < 2 ^ 31) (h4 : nb < 2 ^ 31) (hf : ∀ j, j < 42 → f (sp + j) = mOf y j) (sz : Nat) : Met l yX8_copyState wsX8_copyState rm_X8_copyState (wrP D cy [.ref a, .int (nI sp), .ref b, .int (nI (42 * k9))] ([(a, .inl (cy 0, na, .inl f)), (b, .inl (cy 0, nb, .inl ((diOf d))))]) sz) (va_Qv (fun u : Unit => True) (wrB D (va_A ([(a, .inl (cy 0, na, .inl f)), (b, .inl (cy 0, nb, .inl ((diOf d))))]) sz) (fun u => [(a, .inl (cy 0, na, .inl f)), (b, .inl (cy 0, nb, .inl (diOf (va_up d k9 y))))])) (va_A ([(a, .inl (cy 0, na, .inl f)), (b, .inl (cy 0, nb, .inl ((diOf d))))]) sz)) 0 0 (va_A ([(a, .inl (cy 0, na, .inl f)), (b, .inl (cy 0, nb, .inl ((diOf d))))]) sz) := by
  refine Mwv (cc := cX8_copyState) (maxL := 5) (by decide) rfl (Nat.le_of_ble_eq_true rfl) ?_
  intro p e s m args below meth c Q ls A hsz hinit hF hK hP hD hA hl hret
  obtain ⟨hx, hb, hml, hown, hts⟩ := id hF
  have hown : s.vm.findClass RX8 = some m.cls := hown
  have hl : lv_has ls 5 [(0, .ref a), (1, .int (nI sp)), (2, .ref b), (3, .int (nI (42 * k9)))] := hl
  suffices key : ∀ (H : Heap) (locs : List Loc), va_P D vwCl ([(a, .inl (cy 0, na, .inl f)), (b, .inl (cy 0, nb, .inl ((diOf d))))]) H → va_D A ([(a, .inl (cy 0, na, .inl f)), (b, .inl (cy 0, nb, .inl ((diOf d))))]) → va_S A s.heap H locs → W p l e rm_X8_copyState s m args below meth c H locs 0 0 Q (F0 m 0 ls []) from key s.heap [] hP hD va_S.rf
  intro H locs hP hD hS
  refine lv_iconst (v := 0) hx hb dX8_copyState_0 (by decide) ?_
  refine lv_istore (lv' := [(4, .int 0), (0, .ref a), (1, .int (nI sp)), (2, .ref b), (3, .int (nI (42 * k9)))]) hx hb dX8_copyState_1 hl (by decide) rfl (fun ls hl => ?_)
  have loop : ∀ (k i : Nat) (gv : Nat → Int32), i ≤ 42 → 43 ≤ i + k → lpN (sCp f sp (42 * k9)) (42 - i) i gv = lpN (sCp f sp (42 * k9)) 42 0 (diOf d) → ∀ (H : Heap) (locs : List Loc) (ls : Array Slot), va_P D vwCl ([(a, .inl (cy 0, na, .inl f)), (b, .inl (cy 0, nb, .inl gv))]) H → va_D A ([(a, .inl (cy 0, na, .inl f)), (b, .inl (cy 0, nb, .inl gv))]) → va_S A s.heap H locs → lv_has ls 5 [(4, .int (nI i)), (0, .ref a), (1, .int (nI sp)), (2, .ref b), (3, .int (nI (42 * k9)))] → W p l e rm_X8_copyState s m args below meth c H locs 0 0 Q (F0 m 3 ls []) := by
    intro k
    induction k with
    | zero =>
      intro i gv hi hk hv
      exact absurd hk (by omega)
    | succ k ih =>
      intro i gv hi hk hv H locs ls hP hD hS hl
      refine lv_iload hx hb dX8_copyState_3 (lv_at hl 0 rfl) ?_
      refine lv_bipush (v := 42) hx hb dX8_copyState_5 (by decide) ?_
      refine lv_icmp_ge (tgt := 28) hx hb dX8_copyState_7 (by decide) (fun c_1 => ?_) (fun c_1 => ?_)
      · have c_1 : 42 ≤ i := (nI_leI (a := 42) (b := i) (by omega) (by omega)).mp c_1
        have q := (lpN_end c_1 hv).trans (cp_di hf)
        subst q
        exact hret _ _ H locs () dX8_copyState_28 hP hD hS trivial
      · have c_1 : ¬ 42 ≤ i := fun q => c_1 ((nI_leI (a := 42) (b := i) (by omega) (by omega)).mpr q)
        refine lv_aload_n hx hb dX8_copyState_10 rfl (lv_at hl 3 rfl) ?_
        refine lv_iload_n hx hb dX8_copyState_11 rfl (lv_at hl 4 rfl) ?_
        refine lv_iload hx hb dX8_copyState_12 (lv_at hl 0 rfl) ?_
        refine lv_iadd hx hb dX8_copyState_14 ?_
        refine zz_top (y := nI (42 * k9 + i)) (nI_add (42 * k9) i) ?_
        refine lv_aload_n hx hb dX8_copyState_15 rfl (lv_at hl 1 rfl) ?_
        refine lv_iload_n hx hb dX8_copyState_16 rfl (lv_at hl 2 rfl) ?_
        refine lv_iload hx hb dX8_copyState_17 (lv_at hl 0 rfl) ?_
        refine lv_iadd hx hb dX8_copyState_19 ?_
        refine zz_top (y := nI (sp + i)) (nI_add sp i) ?_
        refine zz_iald hx hb hK hP 0 0 (sp + i) rfl rfl rfl ⟨by omega, by omega⟩ dX8_copyState_20 ?_
        refine zz_iast hx hb hK hP hD hS 1 0 (42 * k9 + i) rfl rfl rfl ⟨by omega, by omega⟩ dX8_copyState_21 (fun H locs hP hD hS => ?_)
        have hP : va_P D vwCl ([(a, .inl (cy 0, na, .inl f)), (b, .inl (cy 0, nb, .inl ((upd gv (42 * k9 + i) (f (sp + i))))))]) H := hP
        have hD : va_D A ([(a, .inl (cy 0, na, .inl f)), (b, .inl (cy 0, nb, .inl ((upd gv (42 * k9 + i) (f (sp + i))))))]) := hD
        refine lv_iinc (v := nI (i + 1)) (lv' := [(4, .int (nI (i + 1))), (0, .ref a), (1, .int (nI sp)), (2, .ref b), (3, .int (nI (42 * k9)))]) hx hb dX8_copyState_22 hl (k := 0) rfl (nI_add (i) 1) (by decide) rfl (fun ls hl => ?_)
        refine lv_goto (tgt := 3) hx hb dX8_copyState_25 (by decide) ?_
        exact ih (i + 1) _ (by omega) (by omega) (lpN_next (by omega) hv rfl) _ _ _ hP hD hS (lv_sub hl [0, 1, 2, 3, 4] rfl)
  exact loop 43 0 _ (Nat.zero_le _) (by omega) rfl _ _ _ hP hD hS (lv_sub hl [0, 1, 2, 3, 4] rfl)
abbrev rm_X8_refused : Room := { frames := 0, cells := 0, slots := 0, locals := 0 }
set_option maxHeartbeats 4000000 in
set_option maxRecDepth 100000 in
theorem c_X8_refused (l : Launch) (D : va_G) (cy : Nat → ClassId) (b : Nat → Nat) (rf sn ac sp ou v : Int32) (sz : Nat) : Met l yX8_refused wsX8_refused rm_X8_refused (wrP D cy [.ref (b 0), .int v] ([(b 0, .inr (5, [.int rf, .ref (b 1), .int sn, .ref (b 2), .ref (b 3), .ref (b 4), .ref (b 5), .int ac, .ref (b 6), .ref (b 7), .int sp, .int ou]))]) sz) (va_Qi (fun (r : Int32) (u : Unit) => r = zb (¬ v ≤ 0)) (wrB D (va_A ([(b 0, .inr (5, [.int rf, .ref (b 1), .int sn, .ref (b 2), .ref (b 3), .ref (b 4), .ref (b 5), .int ac, .ref (b 6), .ref (b 7), .int sp, .int ou]))]) sz) (fun u => [(b 0, .inr (5, [.int v, .ref (b 1), .int sn, .ref (b 2), .ref (b 3), .ref (b 4), .ref (b 5), .int ac, .ref (b 6), .ref (b 7), .int sp, .int ou]))])) (va_A ([(b 0, .inr (5, [.int rf, .ref (b 1), .int sn, .ref (b 2), .ref (b 3), .ref (b 4), .ref (b 5), .int ac, .ref (b 6), .ref (b 7), .int sp, .int ou]))]) sz)) 0 0 (va_A ([(b 0, .inr (5, [.int rf, .ref (b 1), .int sn, .ref (b 2), .ref (b 3), .ref (b 4), .ref (b 5), .int ac, .ref (b 6), .ref (b 7), .int sp, .int ou]))]) sz) := by
  refine Mwi (cc := cX8_refused) (maxL := 2) (ty := .boolean) (by decide) rfl (Nat.le_of_ble_eq_true rfl) (fun _ _ q => by rw [q]; exact zb_nar) ?_
  intro p e s m args below meth c Q ls A hsz hF hK hP hD hA hl hret
  obtain ⟨hx, hb, hml, hown, hts⟩ := id hF
  have hown : s.vm.findClass RX8 = some m.cls := hown
  have hin_X8 : ∀ w ∈ u_ws RX8 TX8 12, w ∈ wsX8_refused := by decide +kernel
  have hl : lv_has ls 2 [(0, .ref (b 0)), (1, .int v)] := hl
  suffices key : ∀ (H : Heap) (locs : List Loc), va_P D vwCl ([(b 0, .inr (5, [.int rf, .ref (b 1), .int sn, .ref (b 2), .ref (b 3), .ref (b 4), .ref (b 5), .int ac, .ref (b 6), .ref (b 7), .int sp, .int ou]))]) H → va_D A ([(b 0, .inr (5, [.int rf, .ref (b 1), .int sn, .ref (b 2), .ref (b 3), .ref (b 4), .ref (b 5), .int ac, .ref (b 6), .ref (b 7), .int sp, .int ou]))]) → va_S A s.heap H locs → W p l e rm_X8_refused s m args below meth c H locs 0 0 Q (F0 m 0 ls []) from key s.heap [] hP hD va_S.rf
  intro H locs hP hD hS
  refine lv_aload_n hx hb dX8_refused_0 rfl (lv_at hl 0 rfl) ?_
  refine lv_iload_n hx hb dX8_refused_1 rfl (lv_at hl 1 rfl) ?_
  refine va_put (ci := 5) (v := .int v) (ty := .int) (C := RX8) (T := TX8) (N := 12) hx hb hts hin_X8 tyX8 tyX8_ok nmX8 hown hK hP hD hS 0 rfl rfl 0 (by decide) (hts (.fieldLink RX8 36 "ButtonGuestsModel" "refusal" "I") (by decide +kernel)) (fun _ h9 => h9) rfl (by decide +kernel) rfl rfl (Nat.le_of_ble_eq_true rfl) dX8_refused_2 (fun H locs hP hD hS => ?_)
  have hP : va_P D vwCl ([(b 0, .inr (5, [.int v, .ref (b 1), .int sn, .ref (b 2), .ref (b 3), .ref (b 4), .ref (b 5), .int ac, .ref (b 6), .ref (b 7), .int sp, .int ou]))]) H := hP
  have hD : va_D A ([(b 0, .inr (5, [.int v, .ref (b 1), .int sn, .ref (b 2), .ref (b 3), .ref (b 4), .ref (b 5), .int ac, .ref (b 6), .ref (b 7), .int sp, .int ou]))]) := hD
  refine lv_iload_n hx hb dX8_refused_5 rfl (lv_at hl 1 rfl) ?_
  refine lv_if_le (tgt := 13) hx hb dX8_refused_6 (by decide) (fun c_1 => ?_) (fun c_1 => ?_)
  · have c_1 : v ≤ 0 := c_1
    refine lv_iconst (v := 0) hx hb dX8_refused_13 (by decide) ?_
    exact hret _ _ H locs _ () dX8_refused_14 hP hD hS (zb_f (fun q => q c_1))
  · have c_1 : ¬ v ≤ 0 := c_1
    refine lv_iconst (v := 1) hx hb dX8_refused_9 (by decide) ?_
    refine lv_goto (tgt := 14) hx hb dX8_refused_10 (by decide) ?_
    exact hret _ _ H locs _ () dX8_refused_14 hP hD hS (zb_t c_1)
abbrev rm_X8_thrown : Room := { frames := 0, cells := 0, slots := 0, locals := 0 }
set_option maxHeartbeats 4000000 in
set_option maxRecDepth 100000 in
theorem c_X8_thrown (l : Launch) (D : va_G) (cy : Nat → ClassId) (b : Nat → Nat) (rf sn ac sp ou : Int32) : Met l yX8_thrown wsX8_thrown rm_X8_thrown (rdP D cy [.ref (b 0)] ([(b 0, .inr (5, [.int rf, .ref (b 1), .int sn, .ref (b 2), .ref (b 3), .ref (b 4), .ref (b 5), .int ac, .ref (b 6), .ref (b 7), .int sp, .int ou]))])) (QcRead (rf)) 0 0 (fun _ => False) := by
  refine Mrd (cc := cX8_thrown) (maxL := 1) (ty := .int) (by decide) rfl (Nat.le_of_ble_eq_true rfl) rfl ?_
  intro p e s m args below meth c Q ls hF hK hP hl hret
  obtain ⟨hx, hb, hml, hown, hts⟩ := id hF
  have hown : s.vm.findClass RX8 = some m.cls := hown
  have hin_X8 : ∀ w ∈ u_ws RX8 TX8 12, w ∈ wsX8_thrown := by decide +kernel
  have hl : lv_has ls 1 [(0, .ref (b 0))] := hl
  refine lv_aload_n hx hb dX8_thrown_0 rfl (lv_at hl 0 rfl) ?_
  refine va_get (ci := 5) (v := .int rf) (C := RX8) (T := TX8) (N := 12) hx hb hts hin_X8 hown hK hP 0 rfl rfl 0 (by decide) (hts (.fieldLink RX8 36 "ButtonGuestsModel" "refusal" "I") (by decide +kernel)) (fun _ h9 => h9) rfl dX8_thrown_1 ?_
  exact hret _ _ dX8_thrown_4
