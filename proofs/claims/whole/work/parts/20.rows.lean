/-! more of the reference's rows -/
def sCp (f : Nat → Int32) (sp dp : Nat) : Nat → (Nat → Int32) → (Nat → Int32) := fun i g => upd g (dp + i) (f (sp + i))
def sZero : Nat → (Nat → Int32) → (Nat → Int32) := fun i g => upd g i 0
def sSh : Nat → (Nat → Int32) → (Nat → Int32) := fun i g => upd g i (g (i + 8))
theorem lpN_add {α : Type} (f : Nat → α → α) : ∀ (k m i : Nat) (x : α), lpN f (k + m) i x = lpN f m (i + k) (lpN f k i x)
  | 0, m, i, x => by rw [Nat.zero_add]; rfl
  | k + 1, m, i, x => by
    rw [show k + 1 + m = (k + m) + 1 by omega]
    show lpN f (k + m) (i + 1) (f i x) = _
    rw [lpN_add f k m (i + 1) (f i x), show i + 1 + k = i + (k + 1) by omega]
    rfl
theorem lpN_cp {f : Nat → Int32} {sp dp : Nat} : ∀ (k i : Nat) (g : Nat → Int32) (j : Nat), lpN (sCp f sp dp) k i g j = if dp + i ≤ j ∧ j < dp + i + k then f (sp + (j - dp)) else g j
  | 0, i, g, j => by rw [if_neg (by omega)]; rfl
  | k + 1, i, g, j => by
    show lpN (sCp f sp dp) k (i + 1) (upd g (dp + i) (f (sp + i))) j = _
    rw [lpN_cp k (i + 1)]
    by_cases h : dp + (i + 1) ≤ j ∧ j < dp + (i + 1) + k
    · rw [if_pos h, if_pos (by omega)]
    · rw [if_neg h]
      unfold upd
      by_cases h2 : j = dp + i
      · rw [if_pos h2, if_pos (by omega)]
        congr 1
        omega
      · rw [if_neg h2, if_neg (by omega)]
theorem lpN_zero : ∀ (k i : Nat) (g : Nat → Int32) (j : Nat), lpN sZero k i g j = if i ≤ j ∧ j < i + k then 0 else g j
  | 0, i, g, j => by rw [if_neg (by omega)]; rfl
  | k + 1, i, g, j => by
    show lpN sZero k (i + 1) (upd g i 0) j = _
    rw [lpN_zero k (i + 1)]
    by_cases h : i + 1 ≤ j ∧ j < i + 1 + k
    · rw [if_pos h, if_pos (by omega)]
    · rw [if_neg h]
      unfold upd
      by_cases h2 : j = i
      · rw [if_pos h2, if_pos (by omega)]
      · rw [if_neg h2, if_neg (by omega)]
theorem mOf_hot0 {g : Nat → Int32} (j : Nat) (hj : j < 42) : upd (upd (upd (lpN sZero 42 0 g) 7 6) 8 3) 9 2 j = mOf hot0 j := by
  unfold upd
  by_cases h9 : j = 9
  · subst h9; rfl
  · by_cases h8 : j = 8
    · subst h8; rfl
    · by_cases h7 : j = 7
      · subst h7; rfl
      · rw [if_neg h9, if_neg h8, if_neg h7, lpN_zero, if_pos (by omega)]
        by_cases hl : j < 7
        · rcases (show j = 0 ∨ j = 1 ∨ j = 2 ∨ j = 3 ∨ j = 4 ∨ j = 5 ∨ j = 6 by omega) with h | h | h | h | h | h | h <;> subst h <;> rfl
        · simp only [mOf, if_neg hl, if_neg (show ¬ j < 10 by omega), hot0, mCol]
          simp
theorem sSh_8 {x : HS} {j : Nat} : lpN sSh 8 (10 + 8 * j) (mOf x) = mOf (hMove (j + 1) j x) := by
  obtain ⟨nn, ⟨sg, bu, wa, ho, we, st, gr, po, ri⟩⟩ := x
  obtain ⟨gu, fl, se, pr, re, go, ch⟩ := nn
  have rd : ∀ (y : HS) (w : Nat), w < 8 → mOf y (10 + 8 * j + w + 8) = mCol y w (j + 1) := fun y w hw => by
    rw [show 10 + 8 * j + w + 8 = 10 + 8 * (j + 1) + w by omega, mOf_at hw]
  have st1 : ∀ (y : HS) (w : Nat), w < 8 → sSh (10 + 8 * j + w) (mOf y) = mOf (mPut w j (mCol y w (j + 1)) y) := fun y w hw => by
    unfold sSh
    rw [rd y w hw, mOf_put hw]
  show sSh (10 + 8 * j + 7) (sSh (10 + 8 * j + 6) (sSh (10 + 8 * j + 5) (sSh (10 + 8 * j + 4) (sSh (10 + 8 * j + 3) (sSh (10 + 8 * j + 2) (sSh (10 + 8 * j + 1) (sSh (10 + 8 * j + 0) (mOf _)))))))) = _
  rw [st1 _ 0 (by omega), st1 _ 1 (by omega), st1 _ 2 (by omega), st1 _ 3 (by omega), st1 _ 4 (by omega), st1 _ 5 (by omega), st1 _ 6 (by omega), st1 _ 7 (by omega)]
  rfl
theorem sSh_mv : ∀ (m j : Nat) (x : HS), lpN sSh (8 * m) (10 + 8 * j) (mOf x) = mOf (lpN sMv m j x)
  | 0, j, x => rfl
  | m + 1, j, x => by
    rw [show 8 * (m + 1) = 8 + 8 * m by omega, lpN_add, sSh_8, show 10 + 8 * j + 8 = 10 + 8 * (j + 1) by omega, sSh_mv m (j + 1)]
    rfl
def vBest (t : Int32) : Int32 := if t = -1 then -1 else if 10000 ≤ t then t - t / 10000 * 10000 else -1
theorem okSV_iff {w v : Int32} : okSV w v ↔ (w = 0 ∧ inL v.toInt64 4 16) ∨ ((w = 1 ∨ w = 2) ∧ inL v.toInt64 1 9) := by
  have h0 : inL v.toInt64 4 16 ↔ (¬ v < 4 ∧ ¬ 16 < v) := inI (x := v) (a := 4) (c := 16)
  have h1 : inL v.toInt64 1 9 ↔ (¬ v < 1 ∧ ¬ 9 < v) := inI (x := v) (a := 1) (c := 9)
  rw [h0, h1]
  constructor
  · intro ⟨g, a, b⟩
    obtain ⟨j, hj, rfl⟩ := isG_of (n := 3) (by decide) g
    rw [nI_clamp (by omega)] at a b
    rcases (show j = 0 ∨ j = 1 ∨ j = 2 by omega) with h | h | h <;> subst h
    · exact Or.inl ⟨rfl, a, b⟩
    · exact Or.inr ⟨Or.inl rfl, a, b⟩
    · exact Or.inr ⟨Or.inr rfl, a, b⟩
  · rintro (⟨rfl, a, b⟩ | ⟨rfl | rfl, a, b⟩)
    · exact ⟨by decide, a, b⟩
    · exact ⟨by decide, a, b⟩
    · exact ⟨by decide, a, b⟩
abbrev rm_X8_areHome : Room := { frames := 2, cells := 0, slots := 0, locals := 45 }
set_option maxHeartbeats 4000000 in
set_option maxRecDepth 100000 in
theorem c_X8_areHome (l : Launch) (D : va_G) (cy : Nat → ClassId) (b : Nat) (n : Nat) (hn : n ≤ 4) (x : HS) (hg : x.1.1 = nI n) : Met l yX8_areHome wsX8_areHome rm_X8_areHome (rdP D cy [.ref b] (mW cy b x)) (QcRead (zb (hGI n x 2 = x.1.1))) 0 0 (fun _ => False) := by
  obtain ⟨⟨gu, fl, se, pr, re, go, ch⟩, ⟨sg, bu, wa, ho, we, st, gr, po, ri⟩⟩ := x
  obtain rfl : gu = nI n := hg
  refine Mrd (cc := cX8_areHome) (maxL := 1) (ty := .boolean) (by decide) rfl (Nat.le_of_ble_eq_true rfl) zb_nar ?_
  intro p e s m args below meth c Q ls hF hK hP hl hret
  obtain ⟨hx, hb, hml, hown, hts⟩ := id hF
  have hown : s.vm.findClass RX8 = some m.cls := hown
  have hl : lv_has ls 1 [(0, .ref b)] := hl
  refine lv_aload_n hx hb dX8_areHome_0 rfl (lv_at hl 0 rfl) ?_
  refine lv_iconst (v := 2) hx hb dX8_areHome_1 (by decide) ?_
  refine rd_S (As := [.ref b, .int 2]) (rest := []) hF (c_X8_inState l D cy b n hn ((nI n, fl, se, pr, re, go, ch), (sg, bu, wa, ho, we, st, gr, po, ri)) rfl 2) (va_cwS 2 hts gX8_areHome_X8_inState rfl rfl rfl (by decide +kernel) ⟨Nat.le_of_ble_eq_true rfl, Nat.le_of_ble_eq_true rfl⟩) hK hP rfl hl.1 rfl (Nat.le_of_ble_eq_true rfl) dX8_areHome_2 ⟨Nat.le_of_ble_eq_true rfl, Nat.le_of_ble_eq_true rfl⟩ ?_
  refine lv_aload_n hx hb dX8_areHome_5 rfl (lv_at hl 0 rfl) ?_
  refine lv_iconst (v := 0) hx hb dX8_areHome_6 (by decide) ?_
  refine zz_iald hx hb hK hP 0 0 0 rfl rfl rfl ⟨by decide, Nat.le_of_ble_eq_true rfl⟩ dX8_areHome_7 ?_
  refine zz_top (y := nI n) rfl ?_
  refine lv_icmp_ne (tgt := 15) hx hb dX8_areHome_8 (by decide) (fun c_1 => ?_) (fun c_1 => ?_)
  · have c_1 : ¬ (hGI n ((nI n, fl, se, pr, re, go, ch), (sg, bu, wa, ho, we, st, gr, po, ri)) 2) = (nI n) := c_1
    refine lv_iconst (v := 0) hx hb dX8_areHome_15 (by decide) ?_
    exact zz_top (zb_f c_1) (hret _ _ dX8_areHome_16)
  · have c_1 : (hGI n ((nI n, fl, se, pr, re, go, ch), (sg, bu, wa, ho, we, st, gr, po, ri)) 2) = (nI n) := c_1
    refine lv_iconst (v := 1) hx hb dX8_areHome_11 (by decide) ?_
    refine lv_goto (tgt := 16) hx hb dX8_areHome_12 (by decide) ?_
    exact zz_top (zb_t c_1) (hret _ _ dX8_areHome_16)
abbrev rm_X8_bestOf : Room := { frames := 0, cells := 0, slots := 0, locals := 0 }
set_option maxHeartbeats 4000000 in
set_option maxRecDepth 100000 in
theorem c_X8_bestOf (l : Launch) (D : va_G) (cy : Nat → ClassId) (v : Int32) : Met l yX8_bestOf wsX8_bestOf rm_X8_bestOf (rdP D cy [.int v] ([])) (QcRead (vBest v)) 0 0 (fun _ => False) := by
  refine Mrd (cc := cX8_bestOf) (maxL := 1) (ty := .int) (by decide) rfl (Nat.le_of_ble_eq_true rfl) rfl ?_
  intro p e s m args below meth c Q ls hF hK hP hl hret
  obtain ⟨hx, hb, hml, hown, hts⟩ := id hF
  have hown : s.vm.findClass RX8 = some m.cls := hown
  have hl : lv_has ls 1 [(0, .int v)] := hl
  refine lv_iload_n hx hb dX8_bestOf_0 rfl (lv_at hl 0 rfl) ?_
  refine lv_iconst (v := (-1)) hx hb dX8_bestOf_1 (by decide) ?_
  refine lv_icmp_eq (tgt := 12) hx hb dX8_bestOf_2 (by decide) (fun c_1 => ?_) (fun c_1 => ?_)
  · have c_1 : v = ((-1)) := c_1
    refine lv_iconst (v := (-1)) hx hb dX8_bestOf_12 (by decide) ?_
    refine lv_goto (tgt := 21) hx hb dX8_bestOf_13 (by decide) ?_
    exact zz_top (by simp only [vBest, if_pos c_1]) (hret _ _ dX8_bestOf_21)
  · have c_1 : ¬ v = ((-1)) := c_1
    refine lv_iload_n hx hb dX8_bestOf_5 rfl (lv_at hl 0 rfl) ?_
    refine lv_sipush (v := 10000) hx hb dX8_bestOf_6 (by decide) ?_
    refine lv_icmp_ge (tgt := 16) hx hb dX8_bestOf_9 (by decide) (fun c_2 => ?_) (fun c_2 => ?_)
    · have c_2 : 10000 ≤ v := c_2
      refine lv_iload_n hx hb dX8_bestOf_16 rfl (lv_at hl 0 rfl) ?_
      refine lv_sipush (v := 10000) hx hb dX8_bestOf_17 (by decide) ?_
      refine lv_irem hx hb dX8_bestOf_20 (by decide) ?_
      exact zz_top (by simp only [vBest, if_neg c_1, if_pos c_2]) (hret _ _ dX8_bestOf_21)
    · have c_2 : ¬ 10000 ≤ v := c_2
      refine lv_iconst (v := (-1)) hx hb dX8_bestOf_12 (by decide) ?_
      refine lv_goto (tgt := 21) hx hb dX8_bestOf_13 (by decide) ?_
      exact zz_top (by simp only [vBest, if_neg c_1, if_neg c_2]) (hret _ _ dX8_bestOf_21)
abbrev rm_X8_isSetting : Room := { frames := 1, cells := 0, slots := 0, locals := 25 }
set_option maxHeartbeats 4000000 in
set_option maxRecDepth 100000 in
theorem c_X8_isSetting (l : Launch) (D : va_G) (cy : Nat → ClassId) (w v : Int32) : Met l yX8_isSetting wsX8_isSetting rm_X8_isSetting (rdP D cy [.int w, .int v] ([])) (QcRead (zb (okSV w v))) 0 0 (fun _ => False) := by
  refine Mrd (cc := cX8_isSetting) (maxL := 2) (ty := .boolean) (by decide) rfl (Nat.le_of_ble_eq_true rfl) zb_nar ?_
  intro p e s m args below meth c Q ls hF hK hP hl hret
  obtain ⟨hx, hb, hml, hown, hts⟩ := id hF
  have hown : s.vm.findClass RX8 = some m.cls := hown
  have hl : lv_has ls 2 [(0, .int w), (1, .int v)] := hl
  refine lv_iload_n hx hb dX8_isSetting_0 rfl (lv_at hl 0 rfl) ?_
  refine lv_if_ne (tgt := 18) hx hb dX8_isSetting_1 (by decide) (fun c_1 => ?_) (fun c_1 => ?_)
  · have c_1 : ¬ w = 0 := c_1
    refine lv_iload_n hx hb dX8_isSetting_18 rfl (lv_at hl 0 rfl) ?_
    refine lv_iconst (v := 1) hx hb dX8_isSetting_19 (by decide) ?_
    refine lv_icmp_eq (tgt := 28) hx hb dX8_isSetting_20 (by decide) (fun c_2 => ?_) (fun c_2 => ?_)
    · have c_2 : w = 1 := c_2
      refine lv_iload_n hx hb dX8_isSetting_28 rfl (lv_at hl 1 rfl) ?_
      refine lv_i2l (v := Int32.toInt64 v) hx hb dX8_isSetting_29 rfl ?_
      refine lv_lconst (v := 1) hx hb dX8_isSetting_30 (by decide) ?_
      refine lv_ldc2 (v := 9) hx hb hown (hts (.constantLong RX8 50 (9)) (by decide +kernel)) dX8_isSetting_31 ?_
      refine rd_S (As := [.long (Int32.toInt64 v), .long 1, .long 9]) (rest := []) hF (c_X8_in l D cy (Int32.toInt64 v) 1 9) (va_cwS 3 hts gX8_isSetting_X8_in rfl rfl rfl (by decide +kernel) ⟨Nat.le_of_ble_eq_true rfl, Nat.le_of_ble_eq_true rfl⟩) hK (fun k q h => by simp at h) rfl hl.1 rfl (Nat.le_of_ble_eq_true rfl) dX8_isSetting_34 ⟨Nat.le_of_ble_eq_true rfl, Nat.le_of_ble_eq_true rfl⟩ ?_
      refine lv_if_eq (tgt := 44) hx hb dX8_isSetting_37 (by decide) (fun c_3 => ?_) (fun c_3 => ?_)
      · have c_3 := zb_eq.mp c_3
        refine lv_iconst (v := 0) hx hb dX8_isSetting_44 (by decide) ?_
        exact zz_top (zb_f (fun q => by rcases okSV_iff.mp q with ⟨a, b⟩ | ⟨a | a, b⟩ <;> first | exact c_1 a | exact c_1 b | exact absurd (c_2.symm.trans a) (by decide) | exact c_3 a | exact c_3 b)) (hret _ _ dX8_isSetting_45)
      · have c_3 := zb_ne.mp c_3
        refine lv_iconst (v := 1) hx hb dX8_isSetting_40 (by decide) ?_
        refine lv_goto (tgt := 45) hx hb dX8_isSetting_41 (by decide) ?_
        exact zz_top (zb_t (okSV_iff.mpr (Or.inr ⟨by first | exact Or.inl c_2 | exact Or.inr c_2, c_3⟩))) (hret _ _ dX8_isSetting_45)
    · have c_2 : ¬ w = 1 := c_2
      refine lv_iload_n hx hb dX8_isSetting_23 rfl (lv_at hl 0 rfl) ?_
      refine lv_iconst (v := 2) hx hb dX8_isSetting_24 (by decide) ?_
      refine lv_icmp_ne (tgt := 44) hx hb dX8_isSetting_25 (by decide) (fun c_4 => ?_) (fun c_4 => ?_)
      · have c_4 : ¬ w = 2 := c_4
        refine lv_iconst (v := 0) hx hb dX8_isSetting_44 (by decide) ?_
        exact zz_top (zb_f (fun q => by rcases okSV_iff.mp q with ⟨a, b⟩ | ⟨a | a, b⟩ <;> first | exact c_1 a | exact c_1 b | exact c_2 a | exact c_2 b | exact c_4 a | exact c_4 b)) (hret _ _ dX8_isSetting_45)
      · have c_4 : w = 2 := c_4
        refine lv_iload_n hx hb dX8_isSetting_28 rfl (lv_at hl 1 rfl) ?_
        refine lv_i2l (v := Int32.toInt64 v) hx hb dX8_isSetting_29 rfl ?_
        refine lv_lconst (v := 1) hx hb dX8_isSetting_30 (by decide) ?_
        refine lv_ldc2 (v := 9) hx hb hown (hts (.constantLong RX8 50 (9)) (by decide +kernel)) dX8_isSetting_31 ?_
        refine rd_S (As := [.long (Int32.toInt64 v), .long 1, .long 9]) (rest := []) hF (c_X8_in l D cy (Int32.toInt64 v) 1 9) (va_cwS 3 hts gX8_isSetting_X8_in rfl rfl rfl (by decide +kernel) ⟨Nat.le_of_ble_eq_true rfl, Nat.le_of_ble_eq_true rfl⟩) hK (fun k q h => by simp at h) rfl hl.1 rfl (Nat.le_of_ble_eq_true rfl) dX8_isSetting_34 ⟨Nat.le_of_ble_eq_true rfl, Nat.le_of_ble_eq_true rfl⟩ ?_
        refine lv_if_eq (tgt := 44) hx hb dX8_isSetting_37 (by decide) (fun c_5 => ?_) (fun c_5 => ?_)
        · have c_5 := zb_eq.mp c_5
          refine lv_iconst (v := 0) hx hb dX8_isSetting_44 (by decide) ?_
          exact zz_top (zb_f (fun q => by rcases okSV_iff.mp q with ⟨a, b⟩ | ⟨a | a, b⟩ <;> first | exact c_1 a | exact c_1 b | exact c_2 a | exact c_2 b | exact absurd (c_4.symm.trans a) (by decide) | exact c_5 a | exact c_5 b)) (hret _ _ dX8_isSetting_45)
        · have c_5 := zb_ne.mp c_5
          refine lv_iconst (v := 1) hx hb dX8_isSetting_40 (by decide) ?_
          refine lv_goto (tgt := 45) hx hb dX8_isSetting_41 (by decide) ?_
          exact zz_top (zb_t (okSV_iff.mpr (Or.inr ⟨by first | exact Or.inl c_4 | exact Or.inr c_4, c_5⟩))) (hret _ _ dX8_isSetting_45)
  · have c_1 : w = 0 := c_1
    refine lv_iload_n hx hb dX8_isSetting_4 rfl (lv_at hl 1 rfl) ?_
    refine lv_i2l (v := Int32.toInt64 v) hx hb dX8_isSetting_5 rfl ?_
    refine lv_ldc2 (v := 4) hx hb hown (hts (.constantLong RX8 46 (4)) (by decide +kernel)) dX8_isSetting_6 ?_
    refine lv_ldc2 (v := 16) hx hb hown (hts (.constantLong RX8 48 (16)) (by decide +kernel)) dX8_isSetting_9 ?_
    refine rd_S (As := [.long (Int32.toInt64 v), .long 4, .long 16]) (rest := []) hF (c_X8_in l D cy (Int32.toInt64 v) 4 16) (va_cwS 3 hts gX8_isSetting_X8_in rfl rfl rfl (by decide +kernel) ⟨Nat.le_of_ble_eq_true rfl, Nat.le_of_ble_eq_true rfl⟩) hK (fun k q h => by simp at h) rfl hl.1 rfl (Nat.le_of_ble_eq_true rfl) dX8_isSetting_12 ⟨Nat.le_of_ble_eq_true rfl, Nat.le_of_ble_eq_true rfl⟩ ?_
    refine lv_if_ne (tgt := 40) hx hb dX8_isSetting_15 (by decide) (fun c_6 => ?_) (fun c_6 => ?_)
    · have c_6 := zb_ne.mp c_6
      refine lv_iconst (v := 1) hx hb dX8_isSetting_40 (by decide) ?_
      refine lv_goto (tgt := 45) hx hb dX8_isSetting_41 (by decide) ?_
      exact zz_top (zb_t (okSV_iff.mpr (Or.inl ⟨c_1, c_6⟩))) (hret _ _ dX8_isSetting_45)
    · have c_6 := zb_eq.mp c_6
      refine lv_iload_n hx hb dX8_isSetting_18 rfl (lv_at hl 0 rfl) ?_
      refine lv_iconst (v := 1) hx hb dX8_isSetting_19 (by decide) ?_
      refine lv_icmp_eq (tgt := 28) hx hb dX8_isSetting_20 (by decide) (fun c_7 => ?_) (fun c_7 => ?_)
      · have c_7 : w = 1 := c_7
        refine lv_iload_n hx hb dX8_isSetting_28 rfl (lv_at hl 1 rfl) ?_
        refine lv_i2l (v := Int32.toInt64 v) hx hb dX8_isSetting_29 rfl ?_
        refine lv_lconst (v := 1) hx hb dX8_isSetting_30 (by decide) ?_
        refine lv_ldc2 (v := 9) hx hb hown (hts (.constantLong RX8 50 (9)) (by decide +kernel)) dX8_isSetting_31 ?_
        refine rd_S (As := [.long (Int32.toInt64 v), .long 1, .long 9]) (rest := []) hF (c_X8_in l D cy (Int32.toInt64 v) 1 9) (va_cwS 3 hts gX8_isSetting_X8_in rfl rfl rfl (by decide +kernel) ⟨Nat.le_of_ble_eq_true rfl, Nat.le_of_ble_eq_true rfl⟩) hK (fun k q h => by simp at h) rfl hl.1 rfl (Nat.le_of_ble_eq_true rfl) dX8_isSetting_34 ⟨Nat.le_of_ble_eq_true rfl, Nat.le_of_ble_eq_true rfl⟩ ?_
        refine lv_if_eq (tgt := 44) hx hb dX8_isSetting_37 (by decide) (fun c_8 => ?_) (fun c_8 => ?_)
        · have c_8 := zb_eq.mp c_8
          refine lv_iconst (v := 0) hx hb dX8_isSetting_44 (by decide) ?_
          exact zz_top (zb_f (fun q => by rcases okSV_iff.mp q with ⟨a, b⟩ | ⟨a | a, b⟩ <;> first | exact absurd (c_1.symm.trans a) (by decide) | exact c_6 a | exact c_6 b | exact absurd (c_7.symm.trans a) (by decide) | exact c_8 a | exact c_8 b)) (hret _ _ dX8_isSetting_45)
        · have c_8 := zb_ne.mp c_8
          refine lv_iconst (v := 1) hx hb dX8_isSetting_40 (by decide) ?_
          refine lv_goto (tgt := 45) hx hb dX8_isSetting_41 (by decide) ?_
          exact zz_top (zb_t (okSV_iff.mpr (Or.inr ⟨by first | exact Or.inl c_7 | exact Or.inr c_7, c_8⟩))) (hret _ _ dX8_isSetting_45)
      · have c_7 : ¬ w = 1 := c_7
        refine lv_iload_n hx hb dX8_isSetting_23 rfl (lv_at hl 0 rfl) ?_
        refine lv_iconst (v := 2) hx hb dX8_isSetting_24 (by decide) ?_
        refine lv_icmp_ne (tgt := 44) hx hb dX8_isSetting_25 (by decide) (fun c_9 => ?_) (fun c_9 => ?_)
        · have c_9 : ¬ w = 2 := c_9
          refine lv_iconst (v := 0) hx hb dX8_isSetting_44 (by decide) ?_
          exact zz_top (zb_f (fun q => by rcases okSV_iff.mp q with ⟨a, b⟩ | ⟨a | a, b⟩ <;> first | exact absurd (c_1.symm.trans a) (by decide) | exact c_6 a | exact c_6 b | exact c_7 a | exact c_7 b | exact c_9 a | exact c_9 b)) (hret _ _ dX8_isSetting_45)
        · have c_9 : w = 2 := c_9
          refine lv_iload_n hx hb dX8_isSetting_28 rfl (lv_at hl 1 rfl) ?_
          refine lv_i2l (v := Int32.toInt64 v) hx hb dX8_isSetting_29 rfl ?_
          refine lv_lconst (v := 1) hx hb dX8_isSetting_30 (by decide) ?_
          refine lv_ldc2 (v := 9) hx hb hown (hts (.constantLong RX8 50 (9)) (by decide +kernel)) dX8_isSetting_31 ?_
          refine rd_S (As := [.long (Int32.toInt64 v), .long 1, .long 9]) (rest := []) hF (c_X8_in l D cy (Int32.toInt64 v) 1 9) (va_cwS 3 hts gX8_isSetting_X8_in rfl rfl rfl (by decide +kernel) ⟨Nat.le_of_ble_eq_true rfl, Nat.le_of_ble_eq_true rfl⟩) hK (fun k q h => by simp at h) rfl hl.1 rfl (Nat.le_of_ble_eq_true rfl) dX8_isSetting_34 ⟨Nat.le_of_ble_eq_true rfl, Nat.le_of_ble_eq_true rfl⟩ ?_
          refine lv_if_eq (tgt := 44) hx hb dX8_isSetting_37 (by decide) (fun c_10 => ?_) (fun c_10 => ?_)
          · have c_10 := zb_eq.mp c_10
            refine lv_iconst (v := 0) hx hb dX8_isSetting_44 (by decide) ?_
            exact zz_top (zb_f (fun q => by rcases okSV_iff.mp q with ⟨a, b⟩ | ⟨a | a, b⟩ <;> first | exact absurd (c_1.symm.trans a) (by decide) | exact c_6 a | exact c_6 b | exact c_7 a | exact c_7 b | exact absurd (c_9.symm.trans a) (by decide) | exact c_10 a | exact c_10 b)) (hret _ _ dX8_isSetting_45)
          · have c_10 := zb_ne.mp c_10
            refine lv_iconst (v := 1) hx hb dX8_isSetting_40 (by decide) ?_
            refine lv_goto (tgt := 45) hx hb dX8_isSetting_41 (by decide) ?_
            exact zz_top (zb_t (okSV_iff.mpr (Or.inr ⟨by first | exact Or.inl c_9 | exact Or.inr c_9, c_10⟩))) (hret _ _ dX8_isSetting_45)
abbrev rm_X8_copyState : Room := { frames := 0, cells := 0, slots := 0, locals := 0 }
set_option maxHeartbeats 4000000 in
set_option maxRecDepth 100000 in
theorem c_X8_copyState (l : Launch) (D : va_G) (cy : Nat → ClassId) (a b na nb sp dp : Nat) (f g : Nat → Int32) (h1 : sp + 42 ≤ na) (h2 : dp + 42 ≤ nb) (h3 : na < 2 ^ 31) (h4 : nb < 2 ^ 31) (sz : Nat) : Met l yX8_copyState wsX8_copyState rm_X8_copyState (wrP D cy [.ref a, .int (nI sp), .ref b, .int (nI dp)] ([(a, .inl (cy 0, na, .inl f)), (b, .inl (cy 0, nb, .inl g))]) sz) (va_Qv (fun u : Nat → Int32 => u = lpN (sCp f sp dp) 42 0 g) (wrB D (va_A ([(a, .inl (cy 0, na, .inl f)), (b, .inl (cy 0, nb, .inl g))]) sz) (fun u => [(a, .inl (cy 0, na, .inl f)), (b, .inl (cy 0, nb, .inl u))])) (va_A ([(a, .inl (cy 0, na, .inl f)), (b, .inl (cy 0, nb, .inl g))]) sz)) 0 0 (va_A ([(a, .inl (cy 0, na, .inl f)), (b, .inl (cy 0, nb, .inl g))]) sz) := by
  refine Mwv (cc := cX8_copyState) (maxL := 5) (by decide) rfl (Nat.le_of_ble_eq_true rfl) ?_
  intro p e s m args below meth c Q ls A hsz hinit hF hK hP hD hA hl hret
  obtain ⟨hx, hb, hml, hown, hts⟩ := id hF
  have hown : s.vm.findClass RX8 = some m.cls := hown
  have hl : lv_has ls 5 [(0, .ref a), (1, .int (nI sp)), (2, .ref b), (3, .int (nI dp))] := hl
  suffices key : ∀ (H : Heap) (locs : List Loc), va_P D vwCl ([(a, .inl (cy 0, na, .inl f)), (b, .inl (cy 0, nb, .inl g))]) H → va_D A ([(a, .inl (cy 0, na, .inl f)), (b, .inl (cy 0, nb, .inl g))]) → va_S A s.heap H locs → W p l e rm_X8_copyState s m args below meth c H locs 0 0 Q (F0 m 0 ls []) from key s.heap [] hP hD va_S.rf
  intro H locs hP hD hS
  refine lv_iconst (v := 0) hx hb dX8_copyState_0 (by decide) ?_
  refine lv_istore (lv' := [(4, .int 0), (0, .ref a), (1, .int (nI sp)), (2, .ref b), (3, .int (nI dp))]) hx hb dX8_copyState_1 hl (by decide) rfl (fun ls hl => ?_)
  have loop : ∀ (k i : Nat) (gv : Nat → Int32), i ≤ 42 → 43 ≤ i + k → lpN (sCp f sp dp) (42 - i) i gv = lpN (sCp f sp dp) 42 0 g → ∀ (H : Heap) (locs : List Loc) (ls : Array Slot), va_P D vwCl ([(a, .inl (cy 0, na, .inl f)), (b, .inl (cy 0, nb, .inl gv))]) H → va_D A ([(a, .inl (cy 0, na, .inl f)), (b, .inl (cy 0, nb, .inl gv))]) → va_S A s.heap H locs → lv_has ls 5 [(4, .int (nI i)), (0, .ref a), (1, .int (nI sp)), (2, .ref b), (3, .int (nI dp))] → W p l e rm_X8_copyState s m args below meth c H locs 0 0 Q (F0 m 3 ls []) := by
    intro k
    induction k with
    | zero =>
      intro i gv hi hk hv
      exact absurd hk (by omega)
    | succ k ih =>
      intro i gv hi hk hv H locs ls hP hD hS hl
      refine lv_iload hx hb dX8_copyState_3 (lv_at hl 0 rfl) ?_
      refine lv_bipush (v := 42) hx hb dX8_copyState_5 (by decide) ?_
      refine lv_icmp_ge (tgt := 28) hx hb dX8_copyState_7 (by decide) (fun c_1 => ?_) (fun c_1 => ?_)
      · have c_1 : 42 ≤ i := (nI_leI (a := 42) (b := i) (by omega) (by omega)).mp c_1
        exact hret _ _ H locs gv dX8_copyState_28 hP hD hS (lpN_end c_1 hv)
      · have c_1 : ¬ 42 ≤ i := fun q => c_1 ((nI_leI (a := 42) (b := i) (by omega) (by omega)).mpr q)
        refine lv_aload_n hx hb dX8_copyState_10 rfl (lv_at hl 3 rfl) ?_
        refine lv_iload_n hx hb dX8_copyState_11 rfl (lv_at hl 4 rfl) ?_
        refine lv_iload hx hb dX8_copyState_12 (lv_at hl 0 rfl) ?_
        refine lv_iadd hx hb dX8_copyState_14 ?_
        refine zz_top (y := nI (dp + i)) (nI_add dp i) ?_
        refine lv_aload_n hx hb dX8_copyState_15 rfl (lv_at hl 1 rfl) ?_
        refine lv_iload_n hx hb dX8_copyState_16 rfl (lv_at hl 2 rfl) ?_
        refine lv_iload hx hb dX8_copyState_17 (lv_at hl 0 rfl) ?_
        refine lv_iadd hx hb dX8_copyState_19 ?_
        refine zz_top (y := nI (sp + i)) (nI_add sp i) ?_
        refine zz_iald hx hb hK hP 0 0 (sp + i) rfl rfl rfl ⟨by omega, by omega⟩ dX8_copyState_20 ?_
        refine zz_iast hx hb hK hP hD hS 1 0 (dp + i) rfl rfl rfl ⟨by omega, by omega⟩ dX8_copyState_21 (fun H locs hP hD hS => ?_)
        have hP : va_P D vwCl ([(a, .inl (cy 0, na, .inl f)), (b, .inl (cy 0, nb, .inl ((upd gv (dp + i) (f (sp + i))))))]) H := hP
        have hD : va_D A ([(a, .inl (cy 0, na, .inl f)), (b, .inl (cy 0, nb, .inl ((upd gv (dp + i) (f (sp + i))))))]) := hD
        refine lv_iinc (v := nI (i + 1)) (lv' := [(4, .int (nI (i + 1))), (0, .ref a), (1, .int (nI sp)), (2, .ref b), (3, .int (nI dp))]) hx hb dX8_copyState_22 hl (k := 0) rfl (nI_add (i) 1) (by decide) rfl (fun ls hl => ?_)
        refine lv_goto (tgt := 3) hx hb dX8_copyState_25 (by decide) ?_
        exact ih (i + 1) _ (by omega) (by omega) (lpN_next (by omega) hv rfl) _ _ _ hP hD hS (lv_sub hl [0, 1, 2, 3, 4] rfl)
  exact loop 43 0 _ (Nat.zero_le _) (by omega) rfl _ _ _ hP hD hS (lv_sub hl [0, 1, 2, 3, 4] rfl)
abbrev rm_X8_clear : Room := { frames := 0, cells := 0, slots := 0, locals := 0 }
set_option maxHeartbeats 4000000 in
set_option maxRecDepth 100000 in
theorem c_X8_clear (l : Launch) (D : va_G) (cy : Nat → ClassId) (b : Nat) (f : Nat → Int32) (sz : Nat) : Met l yX8_clear wsX8_clear rm_X8_clear (wrP D cy [.ref b] ([(b, .inl (cy 0, 42, .inl f))]) sz) (va_Qv (fun u : Unit => True) (wrB D (va_A ([(b, .inl (cy 0, 42, .inl f))]) sz) (fun u => mW cy b hot0)) (va_A ([(b, .inl (cy 0, 42, .inl f))]) sz)) 0 0 (va_A ([(b, .inl (cy 0, 42, .inl f))]) sz) := by
  refine Mwv (cc := cX8_clear) (maxL := 2) (by decide) rfl (Nat.le_of_ble_eq_true rfl) ?_
  intro p e s m args below meth c Q ls A hsz hinit hF hK hP hD hA hl hret
  obtain ⟨hx, hb, hml, hown, hts⟩ := id hF
  have hown : s.vm.findClass RX8 = some m.cls := hown
  have hl : lv_has ls 2 [(0, .ref b)] := hl
  suffices key : ∀ (H : Heap) (locs : List Loc), va_P D vwCl ([(b, .inl (cy 0, 42, .inl f))]) H → va_D A ([(b, .inl (cy 0, 42, .inl f))]) → va_S A s.heap H locs → W p l e rm_X8_clear s m args below meth c H locs 0 0 Q (F0 m 0 ls []) from key s.heap [] hP hD va_S.rf
  intro H locs hP hD hS
  refine lv_iconst (v := 0) hx hb dX8_clear_0 (by decide) ?_
  refine lv_istore_n (lv' := [(1, .int 0), (0, .ref b)]) hx hb dX8_clear_1 rfl hl (by decide) rfl (fun ls hl => ?_)
  have loop : ∀ (k i : Nat) (gv : Nat → Int32), i ≤ 42 → 43 ≤ i + k → lpN sZero (42 - i) i gv = lpN sZero 42 0 f → ∀ (H : Heap) (locs : List Loc) (ls : Array Slot), va_P D vwCl ([(b, .inl (cy 0, 42, .inl gv))]) H → va_D A ([(b, .inl (cy 0, 42, .inl gv))]) → va_S A s.heap H locs → lv_has ls 2 [(1, .int (nI i)), (0, .ref b)] → W p l e rm_X8_clear s m args below meth c H locs 0 0 Q (F0 m 2 ls []) := by
    intro k
    induction k with
    | zero =>
      intro i gv hi hk hv
      exact absurd hk (by omega)
    | succ k ih =>
      intro i gv hi hk hv H locs ls hP hD hS hl
      refine lv_iload_n hx hb dX8_clear_2 rfl (lv_at hl 0 rfl) ?_
      refine lv_bipush (v := 42) hx hb dX8_clear_3 (by decide) ?_
      refine lv_icmp_ge (tgt := 18) hx hb dX8_clear_5 (by decide) (fun c_1 => ?_) (fun c_1 => ?_)
      · have c_1 : 42 ≤ i := (nI_leI (a := 42) (b := i) (by omega) (by omega)).mp c_1
        refine lv_aload_n hx hb dX8_clear_18 rfl (lv_at hl 1 rfl) ?_
        refine lv_bipush (v := 7) hx hb dX8_clear_19 (by decide) ?_
        refine lv_bipush (v := 6) hx hb dX8_clear_21 (by decide) ?_
        refine zz_iast hx hb hK hP hD hS 0 0 7 rfl rfl rfl ⟨by decide, Nat.le_of_ble_eq_true rfl⟩ dX8_clear_23 (fun H locs hP hD hS => ?_)
        have hP : va_P D vwCl ([(b, .inl (cy 0, 42, .inl ((upd gv 7 6))))]) H := hP
        have hD : va_D A ([(b, .inl (cy 0, 42, .inl ((upd gv 7 6))))]) := hD
        refine lv_aload_n hx hb dX8_clear_24 rfl (lv_at hl 1 rfl) ?_
        refine lv_bipush (v := 8) hx hb dX8_clear_25 (by decide) ?_
        refine lv_iconst (v := 3) hx hb dX8_clear_27 (by decide) ?_
        refine zz_iast hx hb hK hP hD hS 0 0 8 rfl rfl rfl ⟨by decide, Nat.le_of_ble_eq_true rfl⟩ dX8_clear_28 (fun H locs hP hD hS => ?_)
        have hP : va_P D vwCl ([(b, .inl (cy 0, 42, .inl ((upd ((upd gv 7 6)) 8 3))))]) H := hP
        have hD : va_D A ([(b, .inl (cy 0, 42, .inl ((upd ((upd gv 7 6)) 8 3))))]) := hD
        refine lv_aload_n hx hb dX8_clear_29 rfl (lv_at hl 1 rfl) ?_
        refine lv_bipush (v := 9) hx hb dX8_clear_30 (by decide) ?_
        refine lv_iconst (v := 2) hx hb dX8_clear_32 (by decide) ?_
        refine zz_iast hx hb hK hP hD hS 0 0 9 rfl rfl rfl ⟨by decide, Nat.le_of_ble_eq_true rfl⟩ dX8_clear_33 (fun H locs hP hD hS => ?_)
        have hP : va_P D vwCl ([(b, .inl (cy 0, 42, .inl ((upd ((upd ((upd gv 7 6)) 8 3)) 9 2))))]) H := hP
        have hD : va_D A ([(b, .inl (cy 0, 42, .inl ((upd ((upd ((upd gv 7 6)) 8 3)) 9 2))))]) := hD
        obtain rfl := lpN_end c_1 hv; exact hret _ _ H locs () dX8_clear_34 (zz_rowP (ws := [(b, .inl (cy 0, 42, .inl f))]) (q := 0) (Nat.zero_lt_succ 0) mOf_hot0 hP) (zz_rowD (ws := [(b, .inl (cy 0, 42, .inl f))]) (q := 0) hD) hS trivial
      · have c_1 : ¬ 42 ≤ i := fun q => c_1 ((nI_leI (a := 42) (b := i) (by omega) (by omega)).mpr q)
        refine lv_aload_n hx hb dX8_clear_8 rfl (lv_at hl 1 rfl) ?_
        refine lv_iload_n hx hb dX8_clear_9 rfl (lv_at hl 0 rfl) ?_
        refine lv_iconst (v := 0) hx hb dX8_clear_10 (by decide) ?_
        refine zz_iast hx hb hK hP hD hS 0 0 i rfl rfl rfl ⟨by omega, Nat.le_of_ble_eq_true rfl⟩ dX8_clear_11 (fun H locs hP hD hS => ?_)
        have hP : va_P D vwCl ([(b, .inl (cy 0, 42, .inl ((upd gv i 0))))]) H := hP
        have hD : va_D A ([(b, .inl (cy 0, 42, .inl ((upd gv i 0))))]) := hD
        refine lv_iinc (v := nI (i + 1)) (lv' := [(1, .int (nI (i + 1))), (0, .ref b)]) hx hb dX8_clear_12 hl (k := 0) rfl (nI_add (i) 1) (by decide) rfl (fun ls hl => ?_)
        refine lv_goto (tgt := 2) hx hb dX8_clear_15 (by decide) ?_
        exact ih (i + 1) _ (by omega) (by omega) (lpN_next (by omega) hv rfl) _ _ _ hP hD hS (lv_sub hl [0, 1] rfl)
  exact loop 43 0 _ (Nat.zero_le _) (by omega) rfl _ _ _ hP hD hS (lv_sub hl [0, 1] rfl)
abbrev rm_X8_leaveOn : Room := { frames := 1, cells := 0, slots := 0, locals := 22 }
set_option maxHeartbeats 4000000 in
set_option maxRecDepth 100000 in
theorem c_X8_leaveOn (l : Launch) (D : va_G) (cy : Nat → ClassId) (b n : Nat) (hn : n ≤ 4) (x : HS) (hg : x.1.1 = nI n) (j : Nat) (hj : j < n) (sz : Nat) : Met l yX8_leaveOn wsX8_leaveOn rm_X8_leaveOn (wrP D cy [.ref b, .int (nI j)] (mW cy b x) sz) (va_Qi (fun (r : Int32) (u : HS) => r = x.2.2.2.2.2.2.2.1 j ∧ u = hDis n j x) (wrB D (va_A (mW cy b x) sz) (fun u => mW cy b u)) (va_A (mW cy b x) sz)) 0 0 (va_A (mW cy b x) sz) := by
  refine Mwi (cc := cX8_leaveOn) (maxL := 4) (ty := .int) (by decide) rfl (Nat.le_of_ble_eq_true rfl) (fun _ _ _ => rfl) ?_
  intro p e s m args below meth c Q ls A hsz hF hK hP hD hA hl hret
  obtain ⟨hx, hb, hml, hown, hts⟩ := id hF
  have hown : s.vm.findClass RX8 = some m.cls := hown
  have hl : lv_has ls 4 [(0, .ref b), (1, .int (nI j))] := hl
  suffices key : ∀ (H : Heap) (locs : List Loc), va_P D vwCl (mW cy b x) H → va_D A (mW cy b x) → va_S A s.heap H locs → W p l e rm_X8_leaveOn s m args below meth c H locs 0 0 Q (F0 m 0 ls []) from key s.heap [] hP hD va_S.rf
  intro H locs hP hD hS
  refine lv_aload_n hx hb dX8_leaveOn_0 rfl (lv_at hl 0 rfl) ?_
  refine lv_iload_n hx hb dX8_leaveOn_1 rfl (lv_at hl 1 rfl) ?_
  refine lv_iconst (v := 5) hx hb dX8_leaveOn_2 (by decide) ?_
  refine rd_S (As := [.ref b, .int (nI j), .int 5]) (rest := []) hF (c_X8_of l D cy b n hn x hg j 5 (by omega) (by decide)) (va_cwS 3 hts gX8_leaveOn_X8_of rfl rfl rfl (by decide +kernel) ⟨Nat.le_of_ble_eq_true rfl, Nat.le_of_ble_eq_true rfl⟩) hK hP rfl hl.1 rfl (Nat.le_of_ble_eq_true rfl) dX8_leaveOn_3 ⟨Nat.le_of_ble_eq_true rfl, Nat.le_of_ble_eq_true rfl⟩ ?_
  refine zz_top (y := x.2.2.2.2.2.2.2.1 j) rfl ?_
  refine lv_istore_n (lv' := [(2, .int (x.2.2.2.2.2.2.2.1 j)), (0, .ref b), (1, .int (nI j))]) hx hb dX8_leaveOn_6 rfl hl (by decide) rfl (fun ls hl => ?_)
  refine lv_bipush (v := 10) hx hb dX8_leaveOn_7 (by decide) ?_
  refine lv_bipush (v := 8) hx hb dX8_leaveOn_9 (by decide) ?_
  refine lv_iload_n hx hb dX8_leaveOn_11 rfl (lv_at hl 2 rfl) ?_
  refine lv_imul hx hb dX8_leaveOn_12 ?_
  refine lv_iadd hx hb dX8_leaveOn_13 ?_
  refine zz_top (idx_g j) ?_
  refine lv_istore_n (lv' := [(3, .int (nI (10 + 8 * j))), (2, .int (x.2.2.2.2.2.2.2.1 j)), (0, .ref b), (1, .int (nI j))]) hx hb dX8_leaveOn_14 rfl hl (by decide) rfl (fun ls hl => ?_)
  have loop : ∀ (k i : Nat) (gv : Nat → Int32), i ≤ 10 + 8 * (n - 1) ∧ 10 + 8 * j ≤ i → 10 + 8 * (n - 1) + 1 ≤ i + k → gv 0 = nI n → lpN sSh (10 + 8 * (n - 1) - i) i gv = lpN sSh (10 + 8 * (n - 1) - (10 + 8 * j)) (10 + 8 * j) (mOf x) → ∀ (H : Heap) (locs : List Loc) (ls : Array Slot), va_P D vwCl ([(b, .inl (cy 0, 42, .inl gv))]) H → va_D A ([(b, .inl (cy 0, 42, .inl gv))]) → va_S A s.heap H locs → lv_has ls 4 [(3, .int (nI i)), (2, .int (x.2.2.2.2.2.2.2.1 j)), (0, .ref b), (1, .int (nI j))] → W p l e rm_X8_leaveOn s m args below meth c H locs 0 0 Q (F0 m 15 ls []) := by
    intro k
    induction k with
    | zero =>
      intro i gv hi hk hF0 hv
      exact absurd hk (by omega)
    | succ k ih =>
      intro i gv hi hk hF0 hv H locs ls hP hD hS hl
      refine lv_iload_n hx hb dX8_leaveOn_15 rfl (lv_at hl 0 rfl) ?_
      refine lv_bipush (v := 10) hx hb dX8_leaveOn_16 (by decide) ?_
      refine lv_bipush (v := 8) hx hb dX8_leaveOn_18 (by decide) ?_
      refine lv_aload_n hx hb dX8_leaveOn_20 rfl (lv_at hl 2 rfl) ?_
      refine lv_iconst (v := 0) hx hb dX8_leaveOn_21 (by decide) ?_
      refine zz_iald hx hb hK hP 0 0 0 rfl rfl rfl ⟨by decide, Nat.le_of_ble_eq_true rfl⟩ dX8_leaveOn_22 ?_
      refine zz_top hF0 ?_
      refine lv_iconst (v := 1) hx hb dX8_leaveOn_23 (by decide) ?_
      refine lv_isub hx hb dX8_leaveOn_24 ?_
      refine zz_top (y := nI (n - 1)) (pk_sub (a := n) (b := 1) (by omega)) ?_
      refine lv_imul hx hb dX8_leaveOn_25 ?_
      refine lv_iadd hx hb dX8_leaveOn_26 ?_
      refine zz_top (idx_g (n - 1)) ?_
      refine lv_icmp_ge (tgt := 45) hx hb dX8_leaveOn_27 (by decide) (fun c_1 => ?_) (fun c_1 => ?_)
      · have c_1 : 10 + 8 * (n - 1) ≤ i := (nI_leI (a := 10 + 8 * (n - 1)) (b := i) (by omega) (by omega)).mp c_1
        refine lv_aload_n hx hb dX8_leaveOn_45 rfl (lv_at hl 2 rfl) ?_
        refine lv_iconst (v := 0) hx hb dX8_leaveOn_46 (by decide) ?_
        refine lv_dup2_11 hx hb dX8_leaveOn_47 rfl rfl ?_
        refine zz_iald hx hb hK hP 0 0 0 rfl rfl rfl ⟨by decide, Nat.le_of_ble_eq_true rfl⟩ dX8_leaveOn_48 ?_
        refine lv_iconst (v := 1) hx hb dX8_leaveOn_49 (by decide) ?_
        refine lv_isub hx hb dX8_leaveOn_50 ?_
        refine zz_iast hx hb hK hP hD hS 0 0 0 rfl rfl rfl ⟨by decide, Nat.le_of_ble_eq_true rfl⟩ dX8_leaveOn_51 (fun H locs hP hD hS => ?_)
        have hP : va_P D vwCl ([(b, .inl (cy 0, 42, .inl ((upd gv 0 ((gv 0) - 1)))))]) H := hP
        have hD : va_D A ([(b, .inl (cy 0, 42, .inl ((upd gv 0 ((gv 0) - 1)))))]) := hD
        refine lv_iload_n hx hb dX8_leaveOn_52 rfl (lv_at hl 1 rfl) ?_
        have q := lpN_end c_1 hv
        have e8 : 10 + 8 * (n - 1) - (10 + 8 * j) = 8 * (n - 1 - j) := by omega
        rw [e8, sSh_mv] at q
        subst q
        rw [show upd (mOf (lpN sMv (n - 1 - j) j x)) 0 (mOf (lpN sMv (n - 1 - j) j x) 0 - 1) = mOf (mSetN 0 (mOf (lpN sMv (n - 1 - j) j x) 0 - 1) (lpN sMv (n - 1 - j) j x)) from mOf_setN (by decide)] at hP hD
        have e9 : mSetN 0 (mOf (lpN sMv (n - 1 - j) j x) 0 - 1) (lpN sMv (n - 1 - j) j x) = hDis n j x := rfl
        rw [e9] at hP hD
        exact hret _ _ H locs _ _ dX8_leaveOn_53 hP hD hS ⟨rfl, rfl⟩
      · have c_1 : ¬ 10 + 8 * (n - 1) ≤ i := fun q => c_1 ((nI_leI (a := 10 + 8 * (n - 1)) (b := i) (by omega) (by omega)).mpr q)
        refine lv_aload_n hx hb dX8_leaveOn_30 rfl (lv_at hl 2 rfl) ?_
        refine lv_iload_n hx hb dX8_leaveOn_31 rfl (lv_at hl 0 rfl) ?_
        refine lv_aload_n hx hb dX8_leaveOn_32 rfl (lv_at hl 2 rfl) ?_
        refine lv_iload_n hx hb dX8_leaveOn_33 rfl (lv_at hl 0 rfl) ?_
        refine lv_bipush (v := 8) hx hb dX8_leaveOn_34 (by decide) ?_
        refine lv_iadd hx hb dX8_leaveOn_36 ?_
        refine zz_top (y := nI (i + 8)) (nI_add i 8) ?_
        refine zz_iald hx hb hK hP 0 0 (i + 8) rfl rfl rfl ⟨by omega, Nat.le_of_ble_eq_true rfl⟩ dX8_leaveOn_37 ?_
        refine zz_iast hx hb hK hP hD hS 0 0 i rfl rfl rfl ⟨by omega, Nat.le_of_ble_eq_true rfl⟩ dX8_leaveOn_38 (fun H locs hP hD hS => ?_)
        have hP : va_P D vwCl ([(b, .inl (cy 0, 42, .inl ((upd gv i (gv (i + 8))))))]) H := hP
        have hD : va_D A ([(b, .inl (cy 0, 42, .inl ((upd gv i (gv (i + 8))))))]) := hD
        refine lv_iinc (v := nI (i + 1)) (lv' := [(3, .int (nI (i + 1))), (2, .int (x.2.2.2.2.2.2.2.1 j)), (0, .ref b), (1, .int (nI j))]) hx hb dX8_leaveOn_39 hl (k := 0) rfl (nI_add (i) 1) (by decide) rfl (fun ls hl => ?_)
        refine lv_goto (tgt := 15) hx hb dX8_leaveOn_42 (by decide) ?_
        exact ih (i + 1) _ (by omega) (by omega) (by show upd gv i (gv (i + 8)) 0 = nI n; unfold upd; rw [if_neg (by omega)]; exact hF0) (lpN_next (by omega) hv rfl) _ _ _ hP hD hS (lv_sub hl [0, 1, 2, 3] rfl)
  exact loop (43) (10 + 8 * j) _ (by omega) (by omega) hg rfl _ _ _ hP hD hS (lv_sub hl [0, 1, 2, 3] rfl)
