/-! turns on both sides -/
theorem turn_nat {n w8 q8 : Nat} {z : HS} (hW : w8 < 16) (hQ : q8 < 2 ^ 31) : hTurnQ n (nI w8) (nI q8) z = if 3 ≤ w8 then (if w8 = 3 then (if q8 / 4 % 3 = 0 then hLeave n z (nI (q8 % 4)) else z) else if w8 = 4 then hRest n z else if w8 = 5 then (if q8 / 16 % 2 = 0 then hSet 0 (nI (4 + q8 % 13)) z else hSet 1 (nI (1 + q8 % 9)) z) else hPress n z (nI (q8 % 4))) else hAdm n (nI (q8 % 7)) (nI (q8 / 8 % 7)) (nI (q8 / 64 % 7)) (nI (1 + q8 / 512 % 4)) z := by
  have e7 : nI q8 - nI q8 / 7 * 7 = nI (q8 % 7) := pk_rem hQ (by decide) (by decide)
  have e4 : nI q8 - nI q8 / 4 * 4 = nI (q8 % 4) := pk_rem hQ (by decide) (by decide)
  have e13 : nI q8 - nI q8 / 13 * 13 = nI (q8 % 13) := pk_rem hQ (by decide) (by decide)
  have e9 : nI q8 - nI q8 / 9 * 9 = nI (q8 % 9) := pk_rem hQ (by decide) (by decide)
  have d8 : nI q8 / 8 = nI (q8 / 8) := pk_div hQ (by decide) (by decide)
  have d64 : nI q8 / 64 = nI (q8 / 64) := pk_div hQ (by decide) (by decide)
  have d512 : nI q8 / 512 = nI (q8 / 512) := pk_div hQ (by decide) (by decide)
  have d4 : nI q8 / 4 = nI (q8 / 4) := pk_div hQ (by decide) (by decide)
  have d16 : nI q8 / 16 = nI (q8 / 16) := pk_div hQ (by decide) (by decide)
  have f8 : nI (q8 / 8) - nI (q8 / 8) / 7 * 7 = nI (q8 / 8 % 7) := pk_rem (by omega) (by decide) (by decide)
  have f64 : nI (q8 / 64) - nI (q8 / 64) / 7 * 7 = nI (q8 / 64 % 7) := pk_rem (by omega) (by decide) (by decide)
  have f512 : nI (q8 / 512) - nI (q8 / 512) / 4 * 4 = nI (q8 / 512 % 4) := pk_rem (by omega) (by decide) (by decide)
  have f4 : nI (q8 / 4) - nI (q8 / 4) / 3 * 3 = nI (q8 / 4 % 3) := pk_rem (by omega) (by decide) (by decide)
  have f16 : nI (q8 / 16) - nI (q8 / 16) / 2 * 2 = nI (q8 / 16 % 2) := pk_rem (by omega) (by decide) (by decide)
  have a1 : 1 + nI (q8 / 512 % 4) = nI (1 + q8 / 512 % 4) := nI_add 1 _
  have a4 : 4 + nI (q8 % 13) = nI (4 + q8 % 13) := nI_add 4 _
  have a9 : 1 + nI (q8 % 9) = nI (1 + q8 % 9) := nI_add 1 _
  have z4 : (nI (q8 / 4 % 3) = 0) = (q8 / 4 % 3 = 0) := propext (nI_eq (b := 0) (by omega) (by decide))
  have z16 : (nI (q8 / 16 % 2) = 0) = (q8 / 16 % 2 = 0) := propext (nI_eq (b := 0) (by omega) (by decide))
  have ne : ∀ k : Nat, k < 6 → ¬ w8 = k → ¬ nI w8 = nI k := fun k hk h => by rw [nI_eq (by omega) (by omega)]; exact h
  have n0 : ¬ w8 = 0 → ¬ nI w8 = 0 := ne 0 (by decide)
  have n1 : ¬ w8 = 1 → ¬ nI w8 = 1 := ne 1 (by decide)
  have n2 : ¬ w8 = 2 → ¬ nI w8 = 2 := ne 2 (by decide)
  have n3 : ¬ w8 = 3 → ¬ nI w8 = 3 := ne 3 (by decide)
  have n4 : ¬ w8 = 4 → ¬ nI w8 = 4 := ne 4 (by decide)
  have n5 : ¬ w8 = 5 → ¬ nI w8 = 5 := ne 5 (by decide)
  have y0 : w8 = 0 → nI w8 = 0 := fun h => by rw [h]; rfl
  have y1 : w8 = 1 → nI w8 = 1 := fun h => by rw [h]; rfl
  have y2 : w8 = 2 → nI w8 = 2 := fun h => by rw [h]; rfl
  have y3 : w8 = 3 → nI w8 = 3 := fun h => by rw [h]; rfl
  have y4 : w8 = 4 → nI w8 = 4 := fun h => by rw [h]; rfl
  have y5 : w8 = 5 → nI w8 = 5 := fun h => by rw [h]; rfl
  unfold hTurnQ
  simp only [e7, e4, e13, e9]
  simp only [d8, d64, d512, d4, d16]
  simp only [f8, f64, f512, f4, f16]
  simp only [a1, a4, a9, z4, z16]
  by_cases h3 : 3 ≤ w8
  · rw [if_pos h3, if_neg (n0 (by omega)), if_neg (n1 (by omega)), if_neg (n2 (by omega))]
    by_cases q3 : w8 = 3
    · rw [if_pos q3, if_pos (y3 q3)]
    · rw [if_neg q3, if_neg (n3 q3)]
      by_cases q4 : w8 = 4
      · rw [if_pos q4, if_pos (y4 q4)]
      · rw [if_neg q4, if_neg (n4 q4)]
        by_cases q5 : w8 = 5
        · rw [if_pos q5, if_pos (y5 q5)]
        · rw [if_neg q5, if_neg (n5 q5)]
  · rw [if_neg h3]
    by_cases q0 : w8 = 0
    · rw [if_pos (y0 q0)]
    · rw [if_neg (n0 q0)]
      by_cases q1 : w8 = 1
      · rw [if_pos (y1 q1)]
      · rw [if_neg (n1 q1), if_pos (y2 (by omega))]
theorem okW_nI {a : Nat} (h1 : 1 ≤ a) (h2 : a ≤ 4) : okW (nI a) := ⟨nI_nlt (b := 1) h1 (by omega), nI_nlt (a := 4) h2 (by decide)⟩
theorem relX_adm {n a b c w : Nat} {z y : HS} (h4 : n < 4) (h : RelN n z y) (ha : a < 7) (hb : b < 7) (hc : c < 7) (h1 : 1 ≤ w) (h2 : w ≤ 4) : RelX (hAdm n (nI a) (nI b) (nI c) (nI w) z) (hCome n (nI a) (nI b) (nI c) (nI w) y) := by
  unfold hAdm
  rw [if_pos ⟨okF_nI ha, okF_nI hb, okF_nI hc, okW_nI h1 h2, h4⟩]
  exact ⟨n + 1, h4, relN_come h (okF_nI ha) (okF_nI hb) (okF_nI hc)⟩
theorem relX_full {n : Nat} {a b c w : Int32} {z y : HS} (hn : n ≤ 4) (h4 : 4 ≤ n) (h : RelN n z y) : RelX (hAdm n a b c w z) y := by
  unfold hAdm
  rw [if_neg (fun q => by have := q.2.2.2.2; omega)]
  exact ⟨n, hn, h⟩
theorem relX_dis {n j : Nat} {z y : HS} (hn : n ≤ 4) (h : RelN n z y) (hj : j < n) : RelX (hLeave n z (nI j)) (hDis n j y) := by
  unfold hLeave
  rw [h.1, if_pos (isG_nI hn hj), nI_clamp (by omega)]
  exact ⟨n - 1, by omega, relN_dis h hj⟩
theorem relX_ndis {n : Nat} {g : Int32} {z y : HS} (hn : n ≤ 4) (h : RelN n z y) (hj : ¬ isG (nI n) g) : RelX (hLeave n z g) y := by
  unfold hLeave
  rw [h.1, if_neg hj]
  exact ⟨n, hn, h⟩
theorem relX_press {n j : Nat} {z y : HS} (hn : n ≤ 4) (h : RelN n z y) (hj : j < n) : RelX (hPress n z (nI j)) (mPress n j y) := ⟨n, hn, relN_press hn h hj⟩
theorem reas_no {n : Nat} {g : Int32} {z : HS} (h : z.1.1 = nI n) (hj : ¬ isG (nI n) g) : hReas z g = -1 := by
  obtain ⟨⟨gu, fl, se, pr, re, go, ch⟩, ⟨sg, bu, wa, ho, we, st, gr, po, ri⟩⟩ := z
  obtain rfl : gu = nI n := h
  simp only [hReas, if_neg hj]
theorem relX_npress {n : Nat} {g : Int32} {z y : HS} (hn : n ≤ 4) (h : RelN n z y) (hj : ¬ isG (nI n) g) : RelX (hPress n z g) y := by
  unfold hPress
  rw [reas_no h.1 hj, if_neg (by decide), if_pos rfl]
  exact ⟨n, hn, h⟩
theorem okSV_0 {k : Nat} (h1 : 4 ≤ k) (h2 : k ≤ 16) : okSV 0 (nI k) := okSV_iff.mpr (Or.inl ⟨rfl, (inI (x := nI k) (a := 4) (c := 16)).mpr ⟨nI_nlt (b := 4) h1 (by omega), nI_nlt (a := 16) h2 (by decide)⟩⟩)
theorem okSV_1 {k : Nat} (h1 : 1 ≤ k) (h2 : k ≤ 9) : okSV 1 (nI k) := okSV_iff.mpr (Or.inr ⟨Or.inl rfl, (inI (x := nI k) (a := 1) (c := 9)).mpr ⟨nI_nlt (b := 1) h1 (by omega), nI_nlt (a := 9) h2 (by decide)⟩⟩)
theorem relX_set {n : Nat} {w v : Int32} {z y : HS} (hn : n ≤ 4) (h : RelN n z y) (hv : okSV w v) : RelX (hSet w v z) (mSetS w.toNatClampNeg v y) := ⟨n, hn, relN_set h hv⟩
theorem turn_l {n w8 q8 : Nat} {z y : HS} (hn : n ≤ 4) (hW : w8 < 16) (hQ : q8 < 2 ^ 31) (hR : RelN n z y) (h : w8 = 3) (hg : ¬ isG (nI n) (nI (q8 % 4))) : RelX (hTurnQ n (nI w8) (nI q8) z) y := by
  subst h
  rw [turn_nat hW hQ, if_pos (by decide), if_pos rfl]
  split
  · exact relX_ndis hn hR hg
  · exact ⟨n, hn, hR⟩
abbrev rm_X8_turnOf : Room := { frames := 5, cells := 0, slots := 0, locals := 114 }
set_option maxHeartbeats 4000000 in
set_option maxRecDepth 100000 in
theorem c_X8_turnOf (l : Launch) (D : va_G) (cy : Nat → ClassId) (b n w8 q8 : Nat) (hn : n ≤ 4) (z y : HS) (hR : RelN n z y) (hW : w8 < 16) (hQ : q8 < 2 ^ 31) (sz : Nat) : Met l yX8_turnOf wsX8_turnOf rm_X8_turnOf (wrP D cy [.ref b, .int (nI w8), .int (nI q8)] (mW cy b y) sz) (va_Qv (fun u : HS => RelX (hTurnQ n (nI w8) (nI q8) z) u) (wrB D (va_A (mW cy b y) sz) (fun u => mW cy b u)) (va_A (mW cy b y) sz)) 0 0 (va_A (mW cy b y) sz) := by
  refine Mwv (cc := cX8_turnOf) (maxL := 3) (by decide) rfl (Nat.le_of_ble_eq_true rfl) ?_
  intro p e s m args below meth c Q ls A hsz hinit hF hK hP hD hA hl hret
  obtain ⟨hx, hb, hml, hown, hts⟩ := id hF
  have hown : s.vm.findClass RX8 = some m.cls := hown
  have hl : lv_has ls 3 [(0, .ref b), (1, .int (nI w8)), (2, .int (nI q8))] := hl
  suffices key : ∀ (H : Heap) (locs : List Loc), va_P D vwCl (mW cy b y) H → va_D A (mW cy b y) → va_S A s.heap H locs → W p l e rm_X8_turnOf s m args below meth c H locs 0 0 Q (F0 m 0 ls []) from key s.heap [] hP hD va_S.rf
  intro H locs hP hD hS
  refine lv_iload_n hx hb dX8_turnOf_0 rfl (lv_at hl 1 rfl) ?_
  refine lv_iconst (v := 3) hx hb dX8_turnOf_1 (by decide) ?_
  refine lv_icmp_ge (tgt := 47) hx hb dX8_turnOf_2 (by decide) (fun c_1 => ?_) (fun c_1 => ?_)
  · have c_1 : 3 ≤ w8 := (nI_leI (a := 3) (b := w8) (by omega) (by omega)).mp c_1
    refine lv_iload_n hx hb dX8_turnOf_47 rfl (lv_at hl 1 rfl) ?_
    refine lv_iconst (v := 3) hx hb dX8_turnOf_48 (by decide) ?_
    refine lv_icmp_ne (tgt := 81) hx hb dX8_turnOf_49 (by decide) (fun c_2 => ?_) (fun c_2 => ?_)
    · have c_2 : ¬ w8 = 3 := fun q => c_2 ((nI_eq (a := w8) (b := 3) (by omega) (by omega)).mpr q)
      refine lv_iload_n hx hb dX8_turnOf_81 rfl (lv_at hl 1 rfl) ?_
      refine lv_iconst (v := 4) hx hb dX8_turnOf_82 (by decide) ?_
      refine lv_icmp_ne (tgt := 94) hx hb dX8_turnOf_83 (by decide) (fun c_3 => ?_) (fun c_3 => ?_)
      · have c_3 : ¬ w8 = 4 := fun q => c_3 ((nI_eq (a := w8) (b := 4) (by omega) (by omega)).mpr q)
        refine lv_iload_n hx hb dX8_turnOf_94 rfl (lv_at hl 1 rfl) ?_
        refine lv_iconst (v := 5) hx hb dX8_turnOf_95 (by decide) ?_
        refine lv_icmp_ne (tgt := 138) hx hb dX8_turnOf_96 (by decide) (fun c_4 => ?_) (fun c_4 => ?_)
        · have c_4 : ¬ w8 = 5 := fun q => c_4 ((nI_eq (a := w8) (b := 5) (by omega) (by omega)).mpr q)
          refine lv_aload_n hx hb dX8_turnOf_138 rfl (lv_at hl 0 rfl) ?_
          refine lv_iload_n hx hb dX8_turnOf_139 rfl (lv_at hl 2 rfl) ?_
          refine lv_iconst (v := 4) hx hb dX8_turnOf_140 (by decide) ?_
          refine lv_irem hx hb dX8_turnOf_141 (by decide) ?_
          refine zz_top (y := nI (q8 % 4)) (pk_rem (by omega) (by decide) (by decide)) ?_
          refine rd_S (As := [.ref b, .int (nI (q8 % 4))]) (rest := []) hF (c_X8_isGuest l D cy b n hn y (hR.gy) (nI (q8 % 4))) (va_cwS 2 hts gX8_turnOf_X8_isGuest rfl rfl rfl (by decide +kernel) ⟨Nat.le_of_ble_eq_true rfl, Nat.le_of_ble_eq_true rfl⟩) hK hP rfl hl.1 rfl (Nat.le_of_ble_eq_true rfl) dX8_turnOf_142 ⟨Nat.le_of_ble_eq_true rfl, Nat.le_of_ble_eq_true rfl⟩ ?_
          refine zz_top (y := zb (isG (nI n) (nI (q8 % 4)))) (by rw [hR.gy]) ?_
          refine lv_if_eq (tgt := 156) hx hb dX8_turnOf_145 (by decide) (fun c_5 => ?_) (fun c_5 => ?_)
          · have c_5 := zb_eq.mp c_5
            exact hret _ _ H locs y dX8_turnOf_156 hP hD hS (by rw [turn_nat hW hQ]; simp only [hHome, if_pos c_1, if_neg c_2, if_neg c_3, if_neg c_4, if_neg c_5]; exact relX_npress hn hR c_5)
          · have c_5 := zb_ne.mp c_5
            have hgl := isG_lt hn (by omega) c_5
            refine lv_aload_n hx hb dX8_turnOf_148 rfl (lv_at hl 0 rfl) ?_
            refine lv_iload_n hx hb dX8_turnOf_149 rfl (lv_at hl 2 rfl) ?_
            refine lv_iconst (v := 4) hx hb dX8_turnOf_150 (by decide) ?_
            refine lv_irem hx hb dX8_turnOf_151 (by decide) ?_
            refine zz_top (y := nI (q8 % 4)) (pk_rem (by omega) (by decide) (by decide)) ?_
            refine wr_i (fun u => mW cy b u) (va_runS (As := [.ref b, .int (nI (q8 % 4))]) (rest := []) hF (c_X8_pressOn l D cy b n hn y (hR.gy) H.size (q8 % 4) (by omega) (hR.bu (by omega)) hR.fl) (va_cwS 2 hts gX8_turnOf_X8_pressOn rfl rfl rfl (by decide +kernel) ⟨Nat.le_of_ble_eq_true rfl, Nat.le_of_ble_eq_true rfl⟩) (wr_preS hK hP hD (zz_all _)) rfl rfl hl.1 rfl (lv_room (Nat.le_of_ble_eq_true rfl)) dX8_turnOf_152 ⟨Nat.le_of_ble_eq_true rfl, Nat.le_of_ble_eq_true rfl⟩) hP hD hS hA (zz_all _) (fun _ => zz_all _) (fun r_6 u_7 H locs e_8 hP hD hS => ?_)
            obtain ⟨rfl, rfl⟩ := e_8
            have hP : va_P D vwCl (mW cy b (mPress n ((q8 % 4)) y)) H := hP
            have hD : va_D A (mW cy b (mPress n ((q8 % 4)) y)) := hD
            refine lv_pop hx hb dX8_turnOf_155 rfl ?_
            exact hret _ _ H locs (mPress n ((q8 % 4)) y) dX8_turnOf_156 hP hD hS (by rw [turn_nat hW hQ]; simp only [hHome, if_pos c_1, if_neg c_2, if_neg c_3, if_neg c_4, if_pos c_5]; exact relX_press hn hR (by omega))
        · have c_4 : w8 = 5 := (nI_eq (a := w8) (b := 5) (by omega) (by omega)).mp c_4
          refine lv_iload_n hx hb dX8_turnOf_99 rfl (lv_at hl 2 rfl) ?_
          refine lv_bipush (v := 16) hx hb dX8_turnOf_100 (by decide) ?_
          refine lv_idiv hx hb dX8_turnOf_102 (by decide) ?_
          refine zz_top (y := nI (q8 / 16)) (pk_div (by omega) (by decide) (by decide)) ?_
          refine lv_iconst (v := 2) hx hb dX8_turnOf_103 (by decide) ?_
          refine lv_irem hx hb dX8_turnOf_104 (by decide) ?_
          refine zz_top (y := nI ((q8 / 16) % 2)) (pk_rem (by omega) (by decide) (by decide)) ?_
          refine lv_if_ne (tgt := 123) hx hb dX8_turnOf_105 (by decide) (fun c_9 => ?_) (fun c_9 => ?_)
          · have c_9 : ¬ (q8 / 16) % 2 = 0 := fun q => c_9 ((nI_eq (a := (q8 / 16) % 2) (b := 0) (by omega) (by omega)).mpr q)
            refine lv_aload_n hx hb dX8_turnOf_123 rfl (lv_at hl 0 rfl) ?_
            refine lv_iconst (v := 1) hx hb dX8_turnOf_124 (by decide) ?_
            refine lv_iconst (v := 1) hx hb dX8_turnOf_125 (by decide) ?_
            refine lv_iload_n hx hb dX8_turnOf_126 rfl (lv_at hl 2 rfl) ?_
            refine lv_bipush (v := 9) hx hb dX8_turnOf_127 (by decide) ?_
            refine lv_irem hx hb dX8_turnOf_129 (by decide) ?_
            refine zz_top (y := nI (q8 % 9)) (pk_rem (by omega) (by decide) (by decide)) ?_
            refine lv_iadd hx hb dX8_turnOf_130 ?_
            refine zz_top (y := nI (1 + (q8 % 9))) (nI_add _ _) ?_
            refine wr_i (fun u => mW cy b u) (va_runS (As := [.ref b, .int 1, .int (nI (1 + (q8 % 9)))]) (rest := []) hF (c_X8_change l D cy b n hn y (hR.gy) H.size 1 (by omega) (nI (1 + (q8 % 9)))) (va_cwS 3 hts gX8_turnOf_X8_change rfl rfl rfl (by decide +kernel) ⟨Nat.le_of_ble_eq_true rfl, Nat.le_of_ble_eq_true rfl⟩) (wr_preS hK hP hD (zz_all _)) rfl rfl hl.1 rfl (lv_room (Nat.le_of_ble_eq_true rfl)) dX8_turnOf_131 ⟨Nat.le_of_ble_eq_true rfl, Nat.le_of_ble_eq_true rfl⟩) hP hD hS hA (zz_all _) (fun _ => zz_all _) (fun r_10 u_11 H locs e_12 hP hD hS => ?_)
            obtain ⟨rfl, rfl⟩ := e_12
            have hP : va_P D vwCl (mW cy b (mSetS 1 (nI (1 + (q8 % 9))) y)) H := hP
            have hD : va_D A (mW cy b (mSetS 1 (nI (1 + (q8 % 9))) y)) := hD
            refine lv_pop hx hb dX8_turnOf_134 rfl ?_
            refine lv_goto (tgt := 156) hx hb dX8_turnOf_135 (by decide) ?_
            exact hret _ _ H locs (mSetS 1 (nI (1 + (q8 % 9))) y) dX8_turnOf_156 hP hD hS (by rw [turn_nat hW hQ]; simp only [hHome, if_pos c_1, if_neg c_2, if_neg c_3, if_pos c_4, if_neg c_9]; exact relX_set hn hR (okSV_1 (by omega) (by omega)))
          · have c_9 : (q8 / 16) % 2 = 0 := (nI_eq (a := (q8 / 16) % 2) (b := 0) (by omega) (by omega)).mp c_9
            refine lv_aload_n hx hb dX8_turnOf_108 rfl (lv_at hl 0 rfl) ?_
            refine lv_iconst (v := 0) hx hb dX8_turnOf_109 (by decide) ?_
            refine lv_iconst (v := 4) hx hb dX8_turnOf_110 (by decide) ?_
            refine lv_iload_n hx hb dX8_turnOf_111 rfl (lv_at hl 2 rfl) ?_
            refine lv_bipush (v := 13) hx hb dX8_turnOf_112 (by decide) ?_
            refine lv_irem hx hb dX8_turnOf_114 (by decide) ?_
            refine zz_top (y := nI (q8 % 13)) (pk_rem (by omega) (by decide) (by decide)) ?_
            refine lv_iadd hx hb dX8_turnOf_115 ?_
            refine zz_top (y := nI (4 + (q8 % 13))) (nI_add _ _) ?_
            refine wr_i (fun u => mW cy b u) (va_runS (As := [.ref b, .int 0, .int (nI (4 + (q8 % 13)))]) (rest := []) hF (c_X8_change l D cy b n hn y (hR.gy) H.size 0 (by omega) (nI (4 + (q8 % 13)))) (va_cwS 3 hts gX8_turnOf_X8_change rfl rfl rfl (by decide +kernel) ⟨Nat.le_of_ble_eq_true rfl, Nat.le_of_ble_eq_true rfl⟩) (wr_preS hK hP hD (zz_all _)) rfl rfl hl.1 rfl (lv_room (Nat.le_of_ble_eq_true rfl)) dX8_turnOf_116 ⟨Nat.le_of_ble_eq_true rfl, Nat.le_of_ble_eq_true rfl⟩) hP hD hS hA (zz_all _) (fun _ => zz_all _) (fun r_13 u_14 H locs e_15 hP hD hS => ?_)
            obtain ⟨rfl, rfl⟩ := e_15
            have hP : va_P D vwCl (mW cy b (mSetS 0 (nI (4 + (q8 % 13))) y)) H := hP
            have hD : va_D A (mW cy b (mSetS 0 (nI (4 + (q8 % 13))) y)) := hD
            refine lv_pop hx hb dX8_turnOf_119 rfl ?_
            refine lv_goto (tgt := 156) hx hb dX8_turnOf_120 (by decide) ?_
            exact hret _ _ H locs (mSetS 0 (nI (4 + (q8 % 13))) y) dX8_turnOf_156 hP hD hS (by rw [turn_nat hW hQ]; simp only [hHome, if_pos c_1, if_neg c_2, if_neg c_3, if_pos c_4, if_pos c_9]; exact relX_set hn hR (okSV_0 (by omega) (by omega)))
      · have c_3 : w8 = 4 := (nI_eq (a := w8) (b := 4) (by omega) (by omega)).mp c_3
        refine lv_aload_n hx hb dX8_turnOf_86 rfl (lv_at hl 0 rfl) ?_
        refine wr_i (fun u => mW cy b u) (va_runS (As := [.ref b]) (rest := []) hF (c_X8_restOn l D cy b n hn y (hR.gy) H.size) (va_cwS 1 hts gX8_turnOf_X8_restOn rfl rfl rfl (by decide +kernel) ⟨Nat.le_of_ble_eq_true rfl, Nat.le_of_ble_eq_true rfl⟩) (wr_preS hK hP hD (zz_all _)) rfl rfl hl.1 rfl (lv_room (Nat.le_of_ble_eq_true rfl)) dX8_turnOf_87 ⟨Nat.le_of_ble_eq_true rfl, Nat.le_of_ble_eq_true rfl⟩) hP hD hS hA (zz_all _) (fun _ => zz_all _) (fun r_16 u_17 H locs e_18 hP hD hS => ?_)
        obtain ⟨rfl, rfl⟩ := e_18
        have hP : va_P D vwCl (mW cy b (mRest n y)) H := hP
        have hD : va_D A (mW cy b (mRest n y)) := hD
        refine lv_pop hx hb dX8_turnOf_90 rfl ?_
        refine lv_goto (tgt := 156) hx hb dX8_turnOf_91 (by decide) ?_
        exact hret _ _ H locs (mRest n y) dX8_turnOf_156 hP hD hS (by rw [turn_nat hW hQ]; simp only [hHome, if_pos c_1, if_neg c_2, if_pos c_3]; exact ⟨n, hn, relN_rest hR⟩)
    · have c_2 : w8 = 3 := (nI_eq (a := w8) (b := 3) (by omega) (by omega)).mp c_2
      refine lv_aload_n hx hb dX8_turnOf_52 rfl (lv_at hl 0 rfl) ?_
      refine lv_iload_n hx hb dX8_turnOf_53 rfl (lv_at hl 2 rfl) ?_
      refine lv_iconst (v := 4) hx hb dX8_turnOf_54 (by decide) ?_
      refine lv_irem hx hb dX8_turnOf_55 (by decide) ?_
      refine zz_top (y := nI (q8 % 4)) (pk_rem (by omega) (by decide) (by decide)) ?_
      refine rd_S (As := [.ref b, .int (nI (q8 % 4))]) (rest := []) hF (c_X8_isGuest l D cy b n hn y (hR.gy) (nI (q8 % 4))) (va_cwS 2 hts gX8_turnOf_X8_isGuest rfl rfl rfl (by decide +kernel) ⟨Nat.le_of_ble_eq_true rfl, Nat.le_of_ble_eq_true rfl⟩) hK hP rfl hl.1 rfl (Nat.le_of_ble_eq_true rfl) dX8_turnOf_56 ⟨Nat.le_of_ble_eq_true rfl, Nat.le_of_ble_eq_true rfl⟩ ?_
      refine zz_top (y := zb (isG (nI n) (nI (q8 % 4)))) (by rw [hR.gy]) ?_
      refine lv_if_eq (tgt := 156) hx hb dX8_turnOf_59 (by decide) (fun c_19 => ?_) (fun c_19 => ?_)
      · have c_19 := zb_eq.mp c_19
        exact hret _ _ H locs y dX8_turnOf_156 hP hD hS (turn_l hn hW hQ hR c_2 c_19)
      · have c_19 := zb_ne.mp c_19
        have hgl := isG_lt hn (by omega) c_19
        refine lv_iload_n hx hb dX8_turnOf_62 rfl (lv_at hl 2 rfl) ?_
        refine lv_iconst (v := 4) hx hb dX8_turnOf_63 (by decide) ?_
        refine lv_idiv hx hb dX8_turnOf_64 (by decide) ?_
        refine zz_top (y := nI (q8 / 4)) (pk_div (by omega) (by decide) (by decide)) ?_
        refine lv_iconst (v := 3) hx hb dX8_turnOf_65 (by decide) ?_
        refine lv_irem hx hb dX8_turnOf_66 (by decide) ?_
        refine zz_top (y := nI ((q8 / 4) % 3)) (pk_rem (by omega) (by decide) (by decide)) ?_
        refine lv_if_ne (tgt := 156) hx hb dX8_turnOf_67 (by decide) (fun c_20 => ?_) (fun c_20 => ?_)
        · have c_20 : ¬ (q8 / 4) % 3 = 0 := fun q => c_20 ((nI_eq (a := (q8 / 4) % 3) (b := 0) (by omega) (by omega)).mpr q)
          exact hret _ _ H locs y dX8_turnOf_156 hP hD hS (by rw [turn_nat hW hQ]; simp only [hHome, if_pos c_1, if_pos c_2, if_pos c_19, if_neg c_20]; exact ⟨n, hn, hR⟩)
        · have c_20 : (q8 / 4) % 3 = 0 := (nI_eq (a := (q8 / 4) % 3) (b := 0) (by omega) (by omega)).mp c_20
          refine lv_aload_n hx hb dX8_turnOf_70 rfl (lv_at hl 0 rfl) ?_
          refine lv_iload_n hx hb dX8_turnOf_71 rfl (lv_at hl 2 rfl) ?_
          refine lv_iconst (v := 4) hx hb dX8_turnOf_72 (by decide) ?_
          refine lv_irem hx hb dX8_turnOf_73 (by decide) ?_
          refine zz_top (y := nI (q8 % 4)) (pk_rem (by omega) (by decide) (by decide)) ?_
          refine wr_i (fun u => mW cy b u) (va_runS (As := [.ref b, .int (nI (q8 % 4))]) (rest := []) hF (c_X8_leaveOn l D cy b n hn y (hR.gy) (q8 % 4) (by omega) H.size) (va_cwS 2 hts gX8_turnOf_X8_leaveOn rfl rfl rfl (by decide +kernel) ⟨Nat.le_of_ble_eq_true rfl, Nat.le_of_ble_eq_true rfl⟩) (wr_preS hK hP hD (zz_all _)) rfl rfl hl.1 rfl (lv_room (Nat.le_of_ble_eq_true rfl)) dX8_turnOf_74 ⟨Nat.le_of_ble_eq_true rfl, Nat.le_of_ble_eq_true rfl⟩) hP hD hS hA (zz_all _) (fun _ => zz_all _) (fun r_21 u_22 H locs e_23 hP hD hS => ?_)
          obtain ⟨rfl, rfl⟩ := e_23
          have hP : va_P D vwCl (mW cy b (hDis n ((q8 % 4)) y)) H := hP
          have hD : va_D A (mW cy b (hDis n ((q8 % 4)) y)) := hD
          refine lv_pop hx hb dX8_turnOf_77 rfl ?_
          refine lv_goto (tgt := 156) hx hb dX8_turnOf_78 (by decide) ?_
          exact hret _ _ H locs (hDis n ((q8 % 4)) y) dX8_turnOf_156 hP hD hS (by rw [turn_nat hW hQ]; simp only [hHome, if_pos c_1, if_pos c_2, if_pos c_19, if_pos c_20]; exact relX_dis hn hR (by omega))
  · have c_1 : ¬ 3 ≤ w8 := fun q => c_1 ((nI_leI (a := 3) (b := w8) (by omega) (by omega)).mpr q)
    refine lv_aload_n hx hb dX8_turnOf_5 rfl (lv_at hl 0 rfl) ?_
    refine lv_iconst (v := 0) hx hb dX8_turnOf_6 (by decide) ?_
    refine zz_iald hx hb hK hP 0 0 0 rfl rfl rfl ⟨by decide, Nat.le_of_ble_eq_true rfl⟩ dX8_turnOf_7 ?_
    refine zz_top (y := y.1.1) rfl ?_
    refine zz_top (y := nI n) hR.gy ?_
    refine lv_iconst (v := 4) hx hb dX8_turnOf_8 (by decide) ?_
    refine lv_icmp_ge (tgt := 156) hx hb dX8_turnOf_9 (by decide) (fun c_24 => ?_) (fun c_24 => ?_)
    · have c_24 : 4 ≤ n := (nI_leI (a := 4) (b := n) (by omega) (by omega)).mp c_24
      exact hret _ _ H locs y dX8_turnOf_156 hP hD hS (by rw [turn_nat hW hQ]; simp only [hHome, if_neg c_1, if_pos c_24]; exact relX_full hn c_24 hR)
    · have c_24 : ¬ 4 ≤ n := fun q => c_24 ((nI_leI (a := 4) (b := n) (by omega) (by omega)).mpr q)
      refine lv_aload_n hx hb dX8_turnOf_12 rfl (lv_at hl 0 rfl) ?_
      refine lv_iload_n hx hb dX8_turnOf_13 rfl (lv_at hl 2 rfl) ?_
      refine lv_bipush (v := 7) hx hb dX8_turnOf_14 (by decide) ?_
      refine lv_irem hx hb dX8_turnOf_16 (by decide) ?_
      refine zz_top (y := nI (q8 % 7)) (pk_rem (by omega) (by decide) (by decide)) ?_
      refine lv_iload_n hx hb dX8_turnOf_17 rfl (lv_at hl 2 rfl) ?_
      refine lv_bipush (v := 8) hx hb dX8_turnOf_18 (by decide) ?_
      refine lv_idiv hx hb dX8_turnOf_20 (by decide) ?_
      refine zz_top (y := nI (q8 / 8)) (pk_div (by omega) (by decide) (by decide)) ?_
      refine lv_bipush (v := 7) hx hb dX8_turnOf_21 (by decide) ?_
      refine lv_irem hx hb dX8_turnOf_23 (by decide) ?_
      refine zz_top (y := nI ((q8 / 8) % 7)) (pk_rem (by omega) (by decide) (by decide)) ?_
      refine lv_iload_n hx hb dX8_turnOf_24 rfl (lv_at hl 2 rfl) ?_
      refine lv_bipush (v := 64) hx hb dX8_turnOf_25 (by decide) ?_
      refine lv_idiv hx hb dX8_turnOf_27 (by decide) ?_
      refine zz_top (y := nI (q8 / 64)) (pk_div (by omega) (by decide) (by decide)) ?_
      refine lv_bipush (v := 7) hx hb dX8_turnOf_28 (by decide) ?_
      refine lv_irem hx hb dX8_turnOf_30 (by decide) ?_
      refine zz_top (y := nI ((q8 / 64) % 7)) (pk_rem (by omega) (by decide) (by decide)) ?_
      refine lv_iconst (v := 1) hx hb dX8_turnOf_31 (by decide) ?_
      refine lv_iload_n hx hb dX8_turnOf_32 rfl (lv_at hl 2 rfl) ?_
      refine lv_sipush (v := 512) hx hb dX8_turnOf_33 (by decide) ?_
      refine lv_idiv hx hb dX8_turnOf_36 (by decide) ?_
      refine zz_top (y := nI (q8 / 512)) (pk_div (by omega) (by decide) (by decide)) ?_
      refine lv_iconst (v := 4) hx hb dX8_turnOf_37 (by decide) ?_
      refine lv_irem hx hb dX8_turnOf_38 (by decide) ?_
      refine zz_top (y := nI ((q8 / 512) % 4)) (pk_rem (by omega) (by decide) (by decide)) ?_
      refine lv_iadd hx hb dX8_turnOf_39 ?_
      refine zz_top (y := nI (1 + ((q8 / 512) % 4))) (nI_add _ _) ?_
      refine wr_i (fun u => mW cy b u) (va_runS (As := [.ref b, .int (nI (q8 % 7)), .int (nI ((q8 / 8) % 7)), .int (nI ((q8 / 64) % 7)), .int (nI (1 + ((q8 / 512) % 4)))]) (rest := []) hF (c_X8_comeOn l D cy b n hn y (hR.gy) H.size (by omega) (nI (q8 % 7)) (nI ((q8 / 8) % 7)) (nI ((q8 / 64) % 7)) (nI (1 + ((q8 / 512) % 4)))) (va_cwS 5 hts gX8_turnOf_X8_comeOn rfl rfl rfl (by decide +kernel) ⟨Nat.le_of_ble_eq_true rfl, Nat.le_of_ble_eq_true rfl⟩) (wr_preS hK hP hD (zz_all _)) rfl rfl hl.1 rfl (lv_room (Nat.le_of_ble_eq_true rfl)) dX8_turnOf_40 ⟨Nat.le_of_ble_eq_true rfl, Nat.le_of_ble_eq_true rfl⟩) hP hD hS hA (zz_all _) (fun _ => zz_all _) (fun r_25 u_26 H locs e_27 hP hD hS => ?_)
      obtain ⟨rfl, rfl⟩ := e_27
      have hP : va_P D vwCl (mW cy b (hCome n (nI (q8 % 7)) (nI ((q8 / 8) % 7)) (nI ((q8 / 64) % 7)) (nI (1 + ((q8 / 512) % 4))) y)) H := hP
      have hD : va_D A (mW cy b (hCome n (nI (q8 % 7)) (nI ((q8 / 8) % 7)) (nI ((q8 / 64) % 7)) (nI (1 + ((q8 / 512) % 4))) y)) := hD
      refine lv_pop hx hb dX8_turnOf_43 rfl ?_
      refine lv_goto (tgt := 156) hx hb dX8_turnOf_44 (by decide) ?_
      exact hret _ _ H locs (hCome n (nI (q8 % 7)) (nI ((q8 / 8) % 7)) (nI ((q8 / 64) % 7)) (nI (1 + ((q8 / 512) % 4))) y) dX8_turnOf_156 hP hD hS (by rw [turn_nat hW hQ]; simp only [hHome, if_neg c_1, if_neg c_24]; exact relX_adm (by omega) hR (by omega) (by omega) (by omega) (by omega) (by omega))
