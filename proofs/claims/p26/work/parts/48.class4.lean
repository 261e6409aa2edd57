/-! digits of a number on the class's side -/
theorem ten_nat : ∀ (z i k : Nat), k < 2 ^ 63 → lpN sTen z i (lN k) = lN (k / 10 ^ z)
  | 0, i, k, h => by rw [Nat.pow_zero, Nat.div_one]; rfl
  | z + 1, i, k, h => by
    show lpN sTen z (i + 1) (lN k / 10) = _
    rw [show lN k / 10 = lN (k / 10) from pk_lDiv (b := 10) h (by decide) (by decide), ten_nat z (i + 1) (k / 10) (by omega), Nat.div_div_eq_div_mul, Nat.pow_succ, Nat.mul_comm]
theorem ten_i {z r : Nat} (h : r < 2 ^ 31) : lpN sTen z 0 (nI r).toInt64 = lN (r / 10 ^ z) := by
  rw [nI_l h]
  exact ten_nat z 0 r (by omega)
theorem ten_0 {k z : Nat} (h : k < 2 ^ 63) : lN (k / 10 ^ z) = 0 ↔ k < 10 ^ z := by
  have hp : 0 < 10 ^ z := Nat.pow_pos (by decide)
  rw [show (0 : Int64) = lN 0 from rfl, pk_lEQ (Nat.lt_of_le_of_lt (Nat.div_le_self _ _) h) (by decide)]
  constructor
  · intro q
    rcases Nat.lt_or_ge k (10 ^ z) with a | a
    · exact a
    · have := Nat.div_pos a hp
      omega
  · exact Nat.div_eq_of_lt
theorem p105 {m : Nat} : 10 ^ (5 * m) = 100000 ^ m := by rw [Nat.pow_mul]
theorem in15 {m : Nat} (h1 : 1 ≤ m) (h5 : m ≤ 5) : inL (nI m).toInt64 1 5 := in_ok (a := 1) (c := 5) (nI_nlt (b := 1) h1 (by omega)) (nI_le (b := 5) h5 (by decide))
theorem ifp_b {m : Nat} {row what : Int32} (h1 : 1 ≤ m) (h5 : m ≤ 5) (h : row < 0) : kIfp (nI m) row what = 1 := by
  unfold kIfp
  rw [if_pos (in15 h1 h5), if_neg (show ¬ inL row.toInt64 0 (nI (10 ^ min (nI m).toNatClampNeg 5 - 1)).toInt64 from in_lo (a := 0) h)]
theorem inrow {m r : Nat} (h1 : 1 ≤ m) (h5 : m ≤ 5) (hr : r < 2 ^ 31) : inL (nI r).toInt64 0 (nI (10 ^ min (nI m).toNatClampNeg 5 - 1)).toInt64 ↔ r < 10 ^ m := by
  rw [nI_clamp (show m < 2 ^ 31 by omega), Nat.min_eq_left h5]
  have hp : 0 < 10 ^ m := Nat.pow_pos (by decide)
  have h9 := p10_le h5
  have h99 : 10 ^ 5 = 100000 := rfl
  refine (inI (x := nI r) (a := 0) (c := nI (10 ^ m - 1))).trans ?_
  rw [nI_ltI (by omega) hr]
  constructor
  · intro q; have := q.2; omega
  · intro q; exact ⟨nI_pos hr, by omega⟩
theorem ifp_c {m r : Nat} {what : Int32} (h1 : 1 ≤ m) (h5 : m ≤ 5) (hr : r < 2 ^ 31) (h : ¬ lN (r / 10 ^ m) = 0) : kIfp (nI m) (nI r) what = 1 := by
  unfold kIfp
  rw [if_pos (in15 h1 h5), if_neg (fun q => h ((ten_0 (by omega)).mpr ((inrow h1 h5 hr).mp q)))]
theorem ifp_d {m r : Nat} {what : Int32} (h1 : 1 ≤ m) (h5 : m ≤ 5) (hr : r < 2 ^ 31) (h : lN (r / 10 ^ m) = 0) (hw : ¬ inL what.toInt64 0 4) : kIfp (nI m) (nI r) what = 1 := by
  unfold kIfp
  rw [if_pos (in15 h1 h5), if_pos ((inrow h1 h5 hr).mpr ((ten_0 (by omega)).mp h)), if_neg hw]
theorem ifp_0 {m r : Nat} {what : Int32} (h1 : 1 ≤ m) (h5 : m ≤ 5) (hr : r < 2 ^ 31) (h : lN (r / 10 ^ m) = 0) (hw : inL what.toInt64 0 4) : kIfp (nI m) (nI r) what = 0 := by
  unfold kIfp
  rw [if_pos (in15 h1 h5), if_pos ((inrow h1 h5 hr).mpr ((ten_0 (by omega)).mp h)), if_pos hw]
def sPrC (n m row : Nat) : Nat → HS → HS := fun i z => hPress n z (nI (row / 10 ^ (m - 1 - i) % 10))
theorem press_gu {n : Nat} {x : HS} {g : Int32} : (hPress n x g).1.1 = x.1.1 := by
  unfold hPress
  split
  · exact go_sg.2
  · split
    · rfl
    · rfl
theorem in13 {m : Nat} (h1 : 1 ≤ m) (h3 : m ≤ 3) : inL (nI m).toInt64 1 3 := in_ok (a := 1) (c := 3) (nI_nlt (b := 1) h1 (by omega)) (nI_le (b := 3) h3 (by decide))
theorem inscr {m k : Nat} (h1 : 1 ≤ m) (h3 : m ≤ 3) (hk : k < 2 ^ 63) : inL (lN k) 0 (lN (100000 ^ min (nI m).toNatClampNeg 3) - 1) ↔ k < 10 ^ (5 * m) := by
  rw [nI_clamp (show m < 2 ^ 31 by omega), Nat.min_eq_left h3, p105]
  have hp : 0 < 100000 ^ m := Nat.pow_pos (by decide)
  have h9 := p5_le h3
  have h99 : 100000 ^ 3 = 1000000000000000 := rfl
  rw [show lN (100000 ^ m) - 1 = lN (100000 ^ m - 1) from lN_sub hp]
  constructor
  · intro q
    have := q.2
    rw [pk_lLT (by omega) hk] at this
    omega
  · intro q
    refine ⟨?_, ?_⟩
    · rw [show (0 : Int64) = lN 0 from rfl, pk_lLT hk (by decide)]
      omega
    · rw [pk_lLT (by omega) hk]
      omega
theorem rn_b {m : Nat} {s : Int64} (h1 : 1 ≤ m) (h3 : m ≤ 3) (h : s < 0) : kRun (nI m) s = 1 := by
  unfold kRun
  rw [if_pos (in13 h1 h3), if_neg (fun q => q.1 h)]
theorem rn_c {m k : Nat} (h1 : 1 ≤ m) (h3 : m ≤ 3) (hk : k < 2 ^ 63) (h : ¬ lN (k / 10 ^ (5 * m)) = 0) : kRun (nI m) (lN k) = 1 := by
  unfold kRun
  rw [if_pos (in13 h1 h3), if_neg (fun q => h ((ten_0 hk).mpr ((inscr h1 h3 hk).mp q)))]
theorem rn_0 {m k : Nat} (h1 : 1 ≤ m) (h3 : m ≤ 3) (hk : k < 2 ^ 63) (h : lN (k / 10 ^ (5 * m)) = 0) : kRun (nI m) (lN k) = 0 := by
  unfold kRun
  rw [if_pos (in13 h1 h3), if_pos ((inscr h1 h3 hk).mpr ((ten_0 hk).mp h))]
/-! what each change brings is a hotel that is in order -/
def OkH (x : HS) : Prop := ∃ w, RelX x w
theorem OkH.g {x : HS} (h : OkH x) : hN x ≤ 4 ∧ x.1.1 = nI (hN x) ∧ okX (hN x) x := by
  obtain ⟨w, hw⟩ := h
  obtain ⟨h1, h2⟩ := relX_n hw
  exact ⟨h1, h2.1, h2.2.2.1⟩
theorem ok_adm {x : HS} {b a c w : Int32} (h : OkH x) : OkH (hAdm (hN x) b a c w x) := by
  obtain ⟨y, hy⟩ := h
  obtain ⟨h1, h2⟩ := relX_n hy
  unfold hAdm
  by_cases q : okC (hN x) b a c w
  · rw [if_pos q]
    exact ⟨_, _, q.2.2.2.2, relN_come h2 q.1 q.2.1 q.2.2.1⟩
  · rw [if_neg q]
    exact ⟨y, hy⟩
theorem ok_press {x : HS} {g : Int32} (h : OkH x) : OkH (hPress (hN x) x g) := by
  obtain ⟨y, hy⟩ := h
  obtain ⟨h1, h2⟩ := relX_n hy
  by_cases q : isG (nI (hN x)) g
  · obtain ⟨j, hj, rfl⟩ := isG_of h1 q
    exact ⟨_, relX_press h1 h2 hj⟩
  · exact ⟨_, relX_npress h1 h2 q⟩
theorem ok_will {x : HS} {g : Int32} (h : OkH x) : OkH (hWill (hN x) x g) := by
  have hp := ok_press (g := g) h
  unfold hPress at hp
  unfold hWill
  by_cases q : hReas x g = 0
  · rw [if_pos q] at hp ⊢
    exact hp
  · rw [if_neg q]
    exact h
theorem ok_rest {x : HS} (h : OkH x) : OkH (hRest (hN x) x) := by
  obtain ⟨y, hy⟩ := h
  obtain ⟨h1, h2⟩ := relX_n hy
  exact ⟨_, _, h1, relN_rest h2⟩
theorem ok_leave {x : HS} {g : Int32} (h : OkH x) : OkH (hLeave (hN x) x g) := by
  obtain ⟨y, hy⟩ := h
  obtain ⟨h1, h2⟩ := relX_n hy
  by_cases q : isG (nI (hN x)) g
  · obtain ⟨j, hj, rfl⟩ := isG_of h1 q
    exact ⟨_, relX_dis h1 h2 hj⟩
  · exact ⟨_, relX_ndis h1 h2 q⟩
theorem ok_set {x : HS} {w v : Int32} (h : OkH x) : OkH (hSet w v x) := by
  obtain ⟨y, hy⟩ := h
  obtain ⟨h1, h2⟩ := relX_n hy
  by_cases q : okSV w v
  · exact ⟨_, relX_set h1 h2 q⟩
  · unfold hSet
    rw [if_neg q]
    exact ⟨y, hy⟩
theorem rest_hN {n : Nat} {x : HS} : hN (hRest n x) = hN x := rfl
theorem ok_rests : ∀ (k i : Nat) (n : Nat) (x : HS), n = hN x → OkH x → OkH (lpN (sRst n) k i x)
  | 0, i, n, x, e, h => h
  | k + 1, i, n, x, e, h => ok_rests k (i + 1) n (hRest n x) (e.trans rest_hN.symm) (by subst e; exact ok_rest h)
theorem ok_scr {g : Nat} {x : HS} (h : OkH x) : OkH (hScrU (hN x) g x) := by
  unfold hScrU
  split
  · exact ok_adm h
  · split
    · split
      · exact ok_press h
      · exact h
    · split
      · split
        · exact h
        · exact ok_rests _ _ _ _ rfl h
      · split
        · split
          · exact ok_leave h
          · exact h
        · split
          · split
            · exact ok_set h
            · exact h
          · exact h
theorem ok_turn {r : Int32} {x : HS} (h : OkH x) : OkH (hTurn (hN x) r x) := by
  unfold hTurn hTurnQ
  split
  · exact ok_adm h
  · split
    · exact ok_adm h
    · split
      · exact ok_adm h
      · split
        · split
          · exact ok_leave h
          · exact h
        · split
          · exact ok_rest h
          · split
            · split
              · exact ok_set h
              · exact ok_set h
            · exact ok_press h
theorem sub2 {m i : Nat} (h : i < m) : nI m - 1 - nI i = nI (m - 1 - i) := by
  rw [show nI m - 1 = nI (m - 1) from pk_sub (a := m) (b := 1) (by omega), pk_sub (by omega)]
theorem run_n {m k i g9 : Nat} {z : HS} (hg : g9 = k / 100000 ^ (m - 1 - i) % 100000) (c : ¬ hScrR (hN z) g9 z = 0) : sRun m k i z = .inr (hScrU (hN z) g9 z) := by
  unfold sRun
  rw [← hg, if_neg c]
theorem run_r {m k i g9 : Nat} {z : HS} (hg : g9 = k / 100000 ^ (m - 1 - i) % 100000) (c : hScrR (hN z) g9 z = 0) : sRun m k i z = .inl (nI i) := by
  unfold sRun
  rw [← hg, if_pos c]
abbrev rm_X7_brought : Room := { frames := 2, cells := 0, slots := 0, locals := 44 }
set_option maxHeartbeats 4000000 in
set_option maxRecDepth 100000 in
theorem c_X7_brought (l : Launch) (D : va_G) (cy : Nat → ClassId) (b t pa se th tr nw : Nat → Nat) (z : Nat) (hz : z ≤ 120) (f : Nat → Int32) (ct : Nat) (L : List HQ) (hc1 : ct ≤ L.length) (hc2 : L.length ≤ 14) (sc : Int32) (pf bf : Nat → Int32) (y0 y1 x : HS) (o0 o1 : Option HQ) (n : Nat) (hn : n ≤ 4) (hg : x.1.1 = nI n) (hok : okX n x) (hg1 : y1.1.1 = nI n) (v : Int32) : Met l yX7_brought wsX7_brought rm_X7_brought (rdP D cy [.ref (b 0), .int v] (wj [[(b 0, .inr (4, [.ref (t 0), .ref (pa 0), .ref (se 0), .ref (b 1), .ref (tr 0), .ref (nw 0)]))], [(b 1, .inl (cy 2, 2, .inr (.inr (.inr (.inr ((slF o0 o1)))))))], textW cy t (nI z) f, pastW cy pa ct L, poolW cy L, searchW cy se (th 0) sc pf bf, hotelW cy th y0, hotelW cy tr y1, hotelW cy nw x, slotW cy o0, slotW cy o1])) (QcRead (vIfp n x y1 v)) 0 0 (fun _ => False) := by
  refine Mrd (cc := cX7_brought) (maxL := 2) (ty := .int) (by decide) rfl (Nat.le_of_ble_eq_true rfl) rfl ?_
  intro p e s m args below meth c Q ls hF hK hP hl hret
  obtain ⟨hx, hb, hml, hown, hts⟩ := id hF
  have hown : s.vm.findClass RX7 = some m.cls := hown
  have hin_X7 : ∀ w ∈ u_ws RX7 TX7 6, w ∈ wsX7_brought := by decide +kernel
  have hl : lv_has ls 2 [(0, .ref (b 0)), (1, .int v)] := hl
  refine lv_iload_n hx hb dX7_brought_0 rfl (lv_at hl 1 rfl) ?_
  by_cases c_1 : v = 0
  · refine lv_tableIn (off := 31) (tgt := 32) hx hb dX7_brought_1 (by rw [c_1]; decide) (by rw [c_1]; decide) (by rw [c_1]; rfl) (by decide) ?_
    refine lv_aload_n hx hb dX7_brought_32 rfl (lv_at hl 0 rfl) ?_
    refine va_get (ci := 4) (v := .ref (tr 0)) (C := RX7) (T := TX7) (N := 6) hx hb hts hin_X7 hown hK hP 0 rfl rfl 4 (by decide) (hts (.fieldLink RX7 37 "ButtonGuests" "trial" "LButtonGuests$Hotel;") (by decide +kernel)) (fun _ h9 => h9) rfl dX7_brought_33 ?_
    refine lv_bipush (v := 7) hx hb dX7_brought_36 (by decide) ?_
    refine rd_V (As := [.int 7]) (rest := []) hF (c_X1_number l D cy tr n hn y1 hg1 7) (cwV 1 hts gX7_brought_X1_number rfl rfl rfl (by decide +kernel) ⟨Nat.le_of_ble_eq_true rfl, Nat.le_of_ble_eq_true rfl⟩) hK (zz_Pl (zz_Pp hP (zz_pick1 [[(b 0, .inr (4, [.ref (t 0), .ref (pa 0), .ref (se 0), .ref (b 1), .ref (tr 0), .ref (nw 0)]))], [(b 1, .inl (cy 2, 2, .inr (.inr (.inr (.inr ((slF o0 o1)))))))], textW cy t (nI z) f, pastW cy pa ct L, poolW cy L, searchW cy se (th 0) sc pf bf, hotelW cy th y0, hotelW cy tr y1, hotelW cy nw x, slotW cy o0, slotW cy o1] 7 [0, 1, 2, 3, 4, 5, 6, 8, 9, 10] (show List.Perm ([7] ++ [0, 1, 2, 3, 4, 5, 6, 8, 9, 10]) (List.range 11) by decide) rfl rfl))) 0 0 rfl rfl rfl rfl hl.1 rfl (Nat.le_of_ble_eq_true rfl) dX7_brought_38 ⟨Nat.le_of_ble_eq_true rfl, Nat.le_of_ble_eq_true rfl⟩ ?_
    refine zz_top (y := y1.1.2.2.2.1) rfl ?_
    refine lv_aload_n hx hb dX7_brought_41 rfl (lv_at hl 0 rfl) ?_
    refine va_get (ci := 4) (v := .ref (nw 0)) (C := RX7) (T := TX7) (N := 6) hx hb hts hin_X7 hown hK hP 0 rfl rfl 5 (by decide) (hts (.fieldLink RX7 41 "ButtonGuests" "now" "LButtonGuests$Hotel;") (by decide +kernel)) (fun _ h9 => h9) rfl dX7_brought_42 ?_
    refine lv_bipush (v := 7) hx hb dX7_brought_45 (by decide) ?_
    refine rd_V (As := [.int 7]) (rest := [.int y1.1.2.2.2.1]) hF (c_X1_number l D cy nw n hn x hg 7) (cwV 1 hts gX7_brought_X1_number rfl rfl rfl (by decide +kernel) ⟨Nat.le_of_ble_eq_true rfl, Nat.le_of_ble_eq_true rfl⟩) hK (zz_Pl (zz_Pp hP (zz_pick1 [[(b 0, .inr (4, [.ref (t 0), .ref (pa 0), .ref (se 0), .ref (b 1), .ref (tr 0), .ref (nw 0)]))], [(b 1, .inl (cy 2, 2, .inr (.inr (.inr (.inr ((slF o0 o1)))))))], textW cy t (nI z) f, pastW cy pa ct L, poolW cy L, searchW cy se (th 0) sc pf bf, hotelW cy th y0, hotelW cy tr y1, hotelW cy nw x, slotW cy o0, slotW cy o1] 8 [0, 1, 2, 3, 4, 5, 6, 7, 9, 10] (show List.Perm ([8] ++ [0, 1, 2, 3, 4, 5, 6, 7, 9, 10]) (List.range 11) by decide) rfl rfl))) 0 0 rfl rfl rfl rfl hl.1 rfl (Nat.le_of_ble_eq_true rfl) dX7_brought_47 ⟨Nat.le_of_ble_eq_true rfl, Nat.le_of_ble_eq_true rfl⟩ ?_
    refine zz_top (y := x.1.2.2.2.1) rfl ?_
    refine lv_isub hx hb dX7_brought_50 ?_
    exact zz_top (by simp only [vIfp, if_pos c_1]) (hret _ _ dX7_brought_51)
  by_cases c_2 : v = 1
  · refine lv_tableIn (off := 51) (tgt := 52) hx hb dX7_brought_1 (by rw [c_2]; decide) (by rw [c_2]; decide) (by rw [c_2]; rfl) (by decide) ?_
    refine lv_aload_n hx hb dX7_brought_52 rfl (lv_at hl 0 rfl) ?_
    refine va_get (ci := 4) (v := .ref (tr 0)) (C := RX7) (T := TX7) (N := 6) hx hb hts hin_X7 hown hK hP 0 rfl rfl 4 (by decide) (hts (.fieldLink RX7 37 "ButtonGuests" "trial" "LButtonGuests$Hotel;") (by decide +kernel)) (fun _ h9 => h9) rfl dX7_brought_53 ?_
    refine lv_bipush (v := 6) hx hb dX7_brought_56 (by decide) ?_
    refine rd_V (As := [.int 6]) (rest := []) hF (c_X1_number l D cy tr n hn y1 hg1 6) (cwV 1 hts gX7_brought_X1_number rfl rfl rfl (by decide +kernel) ⟨Nat.le_of_ble_eq_true rfl, Nat.le_of_ble_eq_true rfl⟩) hK (zz_Pl (zz_Pp hP (zz_pick1 [[(b 0, .inr (4, [.ref (t 0), .ref (pa 0), .ref (se 0), .ref (b 1), .ref (tr 0), .ref (nw 0)]))], [(b 1, .inl (cy 2, 2, .inr (.inr (.inr (.inr ((slF o0 o1)))))))], textW cy t (nI z) f, pastW cy pa ct L, poolW cy L, searchW cy se (th 0) sc pf bf, hotelW cy th y0, hotelW cy tr y1, hotelW cy nw x, slotW cy o0, slotW cy o1] 7 [0, 1, 2, 3, 4, 5, 6, 8, 9, 10] (show List.Perm ([7] ++ [0, 1, 2, 3, 4, 5, 6, 8, 9, 10]) (List.range 11) by decide) rfl rfl))) 0 0 rfl rfl rfl rfl hl.1 rfl (Nat.le_of_ble_eq_true rfl) dX7_brought_58 ⟨Nat.le_of_ble_eq_true rfl, Nat.le_of_ble_eq_true rfl⟩ ?_
    refine zz_top (y := y1.1.2.2.1) rfl ?_
    refine lv_aload_n hx hb dX7_brought_61 rfl (lv_at hl 0 rfl) ?_
    refine va_get (ci := 4) (v := .ref (nw 0)) (C := RX7) (T := TX7) (N := 6) hx hb hts hin_X7 hown hK hP 0 rfl rfl 5 (by decide) (hts (.fieldLink RX7 41 "ButtonGuests" "now" "LButtonGuests$Hotel;") (by decide +kernel)) (fun _ h9 => h9) rfl dX7_brought_62 ?_
    refine lv_bipush (v := 6) hx hb dX7_brought_65 (by decide) ?_
    refine rd_V (As := [.int 6]) (rest := [.int y1.1.2.2.1]) hF (c_X1_number l D cy nw n hn x hg 6) (cwV 1 hts gX7_brought_X1_number rfl rfl rfl (by decide +kernel) ⟨Nat.le_of_ble_eq_true rfl, Nat.le_of_ble_eq_true rfl⟩) hK (zz_Pl (zz_Pp hP (zz_pick1 [[(b 0, .inr (4, [.ref (t 0), .ref (pa 0), .ref (se 0), .ref (b 1), .ref (tr 0), .ref (nw 0)]))], [(b 1, .inl (cy 2, 2, .inr (.inr (.inr (.inr ((slF o0 o1)))))))], textW cy t (nI z) f, pastW cy pa ct L, poolW cy L, searchW cy se (th 0) sc pf bf, hotelW cy th y0, hotelW cy tr y1, hotelW cy nw x, slotW cy o0, slotW cy o1] 8 [0, 1, 2, 3, 4, 5, 6, 7, 9, 10] (show List.Perm ([8] ++ [0, 1, 2, 3, 4, 5, 6, 7, 9, 10]) (List.range 11) by decide) rfl rfl))) 0 0 rfl rfl rfl rfl hl.1 rfl (Nat.le_of_ble_eq_true rfl) dX7_brought_67 ⟨Nat.le_of_ble_eq_true rfl, Nat.le_of_ble_eq_true rfl⟩ ?_
    refine zz_top (y := x.1.2.2.1) rfl ?_
    refine lv_isub hx hb dX7_brought_70 ?_
    exact zz_top (by simp only [vIfp, if_neg c_1, if_pos c_2]) (hret _ _ dX7_brought_71)
  by_cases c_3 : v = 2
  · refine lv_tableIn (off := 71) (tgt := 72) hx hb dX7_brought_1 (by rw [c_3]; decide) (by rw [c_3]; decide) (by rw [c_3]; rfl) (by decide) ?_
    refine lv_aload_n hx hb dX7_brought_72 rfl (lv_at hl 0 rfl) ?_
    refine va_get (ci := 4) (v := .ref (tr 0)) (C := RX7) (T := TX7) (N := 6) hx hb hts hin_X7 hown hK hP 0 rfl rfl 4 (by decide) (hts (.fieldLink RX7 37 "ButtonGuests" "trial" "LButtonGuests$Hotel;") (by decide +kernel)) (fun _ h9 => h9) rfl dX7_brought_73 ?_
    refine rd_V (As := []) (rest := []) hF (c_X1_allGrudges l D cy tr n hn y1 hg1 ) (cwV 0 hts gX7_brought_X1_allGrudges rfl rfl rfl (by decide +kernel) ⟨Nat.le_of_ble_eq_true rfl, Nat.le_of_ble_eq_true rfl⟩) hK (zz_Pl (zz_Pp hP (zz_pick1 [[(b 0, .inr (4, [.ref (t 0), .ref (pa 0), .ref (se 0), .ref (b 1), .ref (tr 0), .ref (nw 0)]))], [(b 1, .inl (cy 2, 2, .inr (.inr (.inr (.inr ((slF o0 o1)))))))], textW cy t (nI z) f, pastW cy pa ct L, poolW cy L, searchW cy se (th 0) sc pf bf, hotelW cy th y0, hotelW cy tr y1, hotelW cy nw x, slotW cy o0, slotW cy o1] 7 [0, 1, 2, 3, 4, 5, 6, 8, 9, 10] (show List.Perm ([7] ++ [0, 1, 2, 3, 4, 5, 6, 8, 9, 10]) (List.range 11) by decide) rfl rfl))) 0 0 rfl rfl rfl rfl hl.1 rfl (Nat.le_of_ble_eq_true rfl) dX7_brought_76 ⟨Nat.le_of_ble_eq_true rfl, Nat.le_of_ble_eq_true rfl⟩ ?_
    exact zz_top (by simp only [vIfp, if_neg c_1, if_neg c_2, if_pos c_3]) (hret _ _ dX7_brought_79)
  by_cases c_4 : v = 3
  · refine lv_tableIn (off := 79) (tgt := 80) hx hb dX7_brought_1 (by rw [c_4]; decide) (by rw [c_4]; decide) (by rw [c_4]; rfl) (by decide) ?_
    refine lv_aload_n hx hb dX7_brought_80 rfl (lv_at hl 0 rfl) ?_
    refine va_get (ci := 4) (v := .ref (tr 0)) (C := RX7) (T := TX7) (N := 6) hx hb hts hin_X7 hown hK hP 0 rfl rfl 4 (by decide) (hts (.fieldLink RX7 37 "ButtonGuests" "trial" "LButtonGuests$Hotel;") (by decide +kernel)) (fun _ h9 => h9) rfl dX7_brought_81 ?_
    refine lv_iconst (v := 5) hx hb dX7_brought_84 (by decide) ?_
    refine rd_V (As := [.int 5]) (rest := []) hF (c_X1_number l D cy tr n hn y1 hg1 5) (cwV 1 hts gX7_brought_X1_number rfl rfl rfl (by decide +kernel) ⟨Nat.le_of_ble_eq_true rfl, Nat.le_of_ble_eq_true rfl⟩) hK (zz_Pl (zz_Pp hP (zz_pick1 [[(b 0, .inr (4, [.ref (t 0), .ref (pa 0), .ref (se 0), .ref (b 1), .ref (tr 0), .ref (nw 0)]))], [(b 1, .inl (cy 2, 2, .inr (.inr (.inr (.inr ((slF o0 o1)))))))], textW cy t (nI z) f, pastW cy pa ct L, poolW cy L, searchW cy se (th 0) sc pf bf, hotelW cy th y0, hotelW cy tr y1, hotelW cy nw x, slotW cy o0, slotW cy o1] 7 [0, 1, 2, 3, 4, 5, 6, 8, 9, 10] (show List.Perm ([7] ++ [0, 1, 2, 3, 4, 5, 6, 8, 9, 10]) (List.range 11) by decide) rfl rfl))) 0 0 rfl rfl rfl rfl hl.1 rfl (Nat.le_of_ble_eq_true rfl) dX7_brought_85 ⟨Nat.le_of_ble_eq_true rfl, Nat.le_of_ble_eq_true rfl⟩ ?_
    refine zz_top (y := hGI n y1 2) rfl ?_
    exact zz_top (by simp only [vIfp, if_neg c_1, if_neg c_2, if_neg c_3, if_pos c_4]) (hret _ _ dX7_brought_88)
  have hsw : (v).toInt < 0 ∨ 3 < (v).toInt := by
    have q0 := fun (v9 : Int32) (h : ¬ v = v9) => fun (q : (v).toInt = v9.toInt) => h (Int32.toInt_inj.mp q)
    have q_c_1 : ¬ (v).toInt = 0 := q0 0 c_1
    have q_c_2 : ¬ (v).toInt = 1 := q0 1 c_2
    have q_c_3 : ¬ (v).toInt = 2 := q0 2 c_3
    have q_c_4 : ¬ (v).toInt = 3 := q0 3 c_4
    omega
  refine lv_tableOut (tgt := 89) hx hb dX7_brought_1 hsw (by decide) ?_
  refine lv_aload_n hx hb dX7_brought_89 rfl (lv_at hl 0 rfl) ?_
  refine va_get (ci := 4) (v := .ref (tr 0)) (C := RX7) (T := TX7) (N := 6) hx hb hts hin_X7 hown hK hP 0 rfl rfl 4 (by decide) (hts (.fieldLink RX7 37 "ButtonGuests" "trial" "LButtonGuests$Hotel;") (by decide +kernel)) (fun _ h9 => h9) rfl dX7_brought_90 ?_
  refine lv_iconst (v := 1) hx hb dX7_brought_93 (by decide) ?_
  refine rd_V (As := [.int 1]) (rest := []) hF (c_X1_number l D cy tr n hn y1 hg1 1) (cwV 1 hts gX7_brought_X1_number rfl rfl rfl (by decide +kernel) ⟨Nat.le_of_ble_eq_true rfl, Nat.le_of_ble_eq_true rfl⟩) hK (zz_Pl (zz_Pp hP (zz_pick1 [[(b 0, .inr (4, [.ref (t 0), .ref (pa 0), .ref (se 0), .ref (b 1), .ref (tr 0), .ref (nw 0)]))], [(b 1, .inl (cy 2, 2, .inr (.inr (.inr (.inr ((slF o0 o1)))))))], textW cy t (nI z) f, pastW cy pa ct L, poolW cy L, searchW cy se (th 0) sc pf bf, hotelW cy th y0, hotelW cy tr y1, hotelW cy nw x, slotW cy o0, slotW cy o1] 7 [0, 1, 2, 3, 4, 5, 6, 8, 9, 10] (show List.Perm ([7] ++ [0, 1, 2, 3, 4, 5, 6, 8, 9, 10]) (List.range 11) by decide) rfl rfl))) 0 0 rfl rfl rfl rfl hl.1 rfl (Nat.le_of_ble_eq_true rfl) dX7_brought_94 ⟨Nat.le_of_ble_eq_true rfl, Nat.le_of_ble_eq_true rfl⟩ ?_
  refine zz_top (y := y1.1.2.1) rfl ?_
  exact zz_top (by simp only [vIfp, if_neg c_1, if_neg c_2, if_neg c_3, if_neg c_4]) (hret _ _ dX7_brought_97)
abbrev rm_X7_ifPressed : Room := { frames := 6, cells := 1, slots := 6, locals := 90 }
set_option maxHeartbeats 4000000 in
set_option maxRecDepth 100000 in
theorem c_X7_ifPressed (l : Launch) (D : va_G) (cy : Nat → ClassId) (hl0 : l.stackTraces = false) (b t pa se th tr nw : Nat → Nat) (z : Nat) (hz : z ≤ 120) (f : Nat → Int32) (ct : Nat) (L : List HQ) (hc1 : ct ≤ L.length) (hc2 : L.length ≤ 14) (sc : Int32) (pf bf : Nat → Int32) (y0 y1 x : HS) (o0 o1 : Option HQ) (n : Nat) (hn : n ≤ 4) (hg : x.1.1 = nI n) (hok : okX n x) (v row9 what : Int32) (sz : Nat) : vx_Met l yX7_ifPressed wsX7_ifPressed rm_X7_ifPressed (wrX D cy [.ref (b 0), .int v, .int row9, .int what] (guestsW cy b t pa se th tr ((z, f), (ct, L), ((sc, pf, bf), y0), y1, (nw, x), (o0, o1))) sz (Gx (va_A (guestsW cy b t pa se th tr ((z, f), (ct, L), ((sc, pf, bf), y0), y1, (nw, x), (o0, o1))) sz))) (va_Qi (fun (r : Int32) (u : BS) => kIfp v row9 what = 0 ∧ r = vIfp n x (lpN (sPrC n v.toNatClampNeg row9.toNatClampNeg) v.toNatClampNeg 0 x) what ∧ ∃ y9, u = ((z, f), (ct, L), ((sc, pf, bf), y0), y9, (nw, x), (o0, o1))) (wrB D (va_A (guestsW cy b t pa se th tr ((z, f), (ct, L), ((sc, pf, bf), y0), y1, (nw, x), (o0, o1))) sz) (fun u => guestsW cy b t pa se th tr u)) (va_A (guestsW cy b t pa se th tr ((z, f), (ct, L), ((sc, pf, bf), y0), y1, (nw, x), (o0, o1))) sz)) (thX D (va_A (guestsW cy b t pa se th tr ((z, f), (ct, L), ((sc, pf, bf), y0), y1, (nw, x), (o0, o1))) sz) (guestsW cy b t pa se th tr ((z, f), (ct, L), ((sc, pf, bf), y0), y1, (nw, x), (o0, o1))) [exA] (kIfp v row9 what)) 1 6 (va_A (guestsW cy b t pa se th tr ((z, f), (ct, L), ((sc, pf, bf), y0), y1, (nw, x), (o0, o1))) sz) := by
  refine MthI (cc := cX7_ifPressed) (maxL := 5) (ty := .int) (by decide) rfl (Nat.le_of_ble_eq_true rfl) (fun _ _ _ => rfl) ?_
  intro p e s m args below meth c Q ls A hAe hsz hQ hlocks hno hX0 hF hK hP hD hA hl hret
  rw [← hsz, ← hAe] at hX0
  have hX : Gx A s := hX0
  have hX0 : Gs A s := hX.1.1
  have hGn : Gn s := hX.1.2
  obtain ⟨hx, hb, hml, hown, hts⟩ := id hF
  have hown : s.vm.findClass RX7 = some m.cls := hown
  have hin_X7 : ∀ w ∈ u_ws RX7 TX7 6, w ∈ wsX7_ifPressed := by decide +kernel
  have hsub_A : ∀ w ∈ (vx_atS RX7 48 exA exN).filter goodWord, w ∈ wsX7_ifPressed := by decide +kernel
  have hl : lv_has ls 5 [(0, .ref (b 0)), (1, .int v), (2, .int row9), (3, .int what)] := hl
  suffices key : ∀ (H : Heap) (locs : List Loc), va_P D vwCl (wj [[(b 0, .inr (4, [.ref (t 0), .ref (pa 0), .ref (se 0), .ref (b 1), .ref (tr 0), .ref (nw 0)]))], [(b 1, .inl (cy 2, 2, .inr (.inr (.inr (.inr ((slF o0 o1)))))))], textW cy t (nI z) f, pastW cy pa ct L, poolW cy L, searchW cy se (th 0) sc pf bf, hotelW cy th y0, hotelW cy tr y1, hotelW cy nw x, slotW cy o0, slotW cy o1]) H → va_D A (wj [[(b 0, .inr (4, [.ref (t 0), .ref (pa 0), .ref (se 0), .ref (b 1), .ref (tr 0), .ref (nw 0)]))], [(b 1, .inl (cy 2, 2, .inr (.inr (.inr (.inr ((slF o0 o1)))))))], textW cy t (nI z) f, pastW cy pa ct L, poolW cy L, searchW cy se (th 0) sc pf bf, hotelW cy th y0, hotelW cy tr y1, hotelW cy nw x, slotW cy o0, slotW cy o1]) → va_S A s.heap H locs → W p l e rm_X7_ifPressed s m args below meth c H locs 0 0 Q (F0 m 0 ls []) from key s.heap [] hP hD va_S.rf
  intro H locs hP hD hS
  refine lv_iload_n hx hb dX7_ifPressed_0 rfl (lv_at hl 1 rfl) ?_
  refine lv_iconst (v := 1) hx hb dX7_ifPressed_1 (by decide) ?_
  refine lv_icmp_lt (tgt := 10) hx hb dX7_ifPressed_2 (by decide) (fun c_1 => ?_) (fun c_1 => ?_)
  · have c_1 : v < 1 := c_1
    rw [hQ]
    exact thr_A hx hb hl0 hown hX hS (hl.1.trans hml.symm) (hts (.classLink RX7 44 exA) (by decide +kernel)) (hts (.initialized exA) (by decide +kernel)) (fun w hw => hts w (hsub_A w hw)) 13 rfl dX7_ifPressed_10 dX7_ifPressed_13 dX7_ifPressed_14 dX7_ifPressed_16 dX7_ifPressed_19 hno (Nat.le_of_ble_eq_true rfl) (Nat.le_of_ble_eq_true rfl) (Nat.le_of_ble_eq_true rfl) (Nat.le_of_ble_eq_true rfl) hlocks (fun t _ h1 h2 => thX_of hP hD hS (k := 1) (if_neg (show ¬ inL v.toInt64 1 5 from in_lo (a := 1) (c := 5) c_1)) (by decide) rfl h1 h2) hS.2.2 (Nat.le_of_ble_eq_true rfl) (Nat.le_of_ble_eq_true rfl)
  · have c_1 : ¬ v < 1 := c_1
    refine lv_iload_n hx hb dX7_ifPressed_5 rfl (lv_at hl 1 rfl) ?_
    refine lv_iconst (v := 5) hx hb dX7_ifPressed_6 (by decide) ?_
    refine lv_icmp_le (tgt := 20) hx hb dX7_ifPressed_7 (by decide) (fun c_2 => ?_) (fun c_2 => ?_)
    · have c_2 : v ≤ 5 := c_2
      obtain ⟨m5, hm1, hm5, rfl⟩ := inL_1 (k := 5) (by decide) rfl (in_ok (a := 1) (c := 5) c_1 c_2)
      refine lv_iload_n hx hb dX7_ifPressed_20 rfl (lv_at hl 2 rfl) ?_
      refine lv_if_lt (tgt := 35) hx hb dX7_ifPressed_21 (by decide) (fun c_3 => ?_) (fun c_3 => ?_)
      · have c_3 : row9 < 0 := c_3
        rw [hQ]
        exact thr_A hx hb hl0 hown hX hS (hl.1.trans hml.symm) (hts (.classLink RX7 44 exA) (by decide +kernel)) (hts (.initialized exA) (by decide +kernel)) (fun w hw => hts w (hsub_A w hw)) 14 rfl dX7_ifPressed_35 dX7_ifPressed_38 dX7_ifPressed_39 dX7_ifPressed_41 dX7_ifPressed_44 hno (Nat.le_of_ble_eq_true rfl) (Nat.le_of_ble_eq_true rfl) (Nat.le_of_ble_eq_true rfl) (Nat.le_of_ble_eq_true rfl) hlocks (fun t _ h1 h2 => thX_of hP hD hS (k := 1) (ifp_b hm1 hm5 c_3) (by decide) rfl h1 h2) hS.2.2 (Nat.le_of_ble_eq_true rfl) (Nat.le_of_ble_eq_true rfl)
      · have c_3 : ¬ row9 < 0 := c_3
        obtain ⟨r9, hr9, rfl⟩ := nI_of c_3
        refine lv_iload_n hx hb dX7_ifPressed_24 rfl (lv_at hl 2 rfl) ?_
        refine lv_i2l (v := Int32.toInt64 (nI r9)) hx hb dX7_ifPressed_25 rfl ?_
        refine lv_iload_n hx hb dX7_ifPressed_26 rfl (lv_at hl 1 rfl) ?_
        refine rd_SL (As := [.long (Int32.toInt64 (nI r9)), .int (nI m5)]) (rest := []) hF (c_X0_without l D cy (Int32.toInt64 (nI r9)) m5 (by omega)) (va_cwS 2 hts gX7_ifPressed_X0_without rfl rfl rfl (by decide +kernel) ⟨Nat.le_of_ble_eq_true rfl, Nat.le_of_ble_eq_true rfl⟩) hK (fun k q h => by simp at h) rfl hl.1 rfl (Nat.le_of_ble_eq_true rfl) dX7_ifPressed_27 ⟨Nat.le_of_ble_eq_true rfl, Nat.le_of_ble_eq_true rfl⟩ ?_
        refine zz_topL (y := lN (r9 / 10 ^ m5)) (ten_i hr9) ?_
        refine lv_lconst (v := 0) hx hb dX7_ifPressed_30 (by decide) ?_
        refine W.lcmp hx hb dX7_ifPressed_31 ?_
        refine lv_if_eq (tgt := 45) hx hb dX7_ifPressed_32 (by decide) (fun c_4 => ?_) (fun c_4 => ?_)
        · have c_4 := (lg_cmp_eq _ _).mp c_4
          refine lv_iload_n hx hb dX7_ifPressed_45 rfl (lv_at hl 3 rfl) ?_
          refine lv_if_lt (tgt := 54) hx hb dX7_ifPressed_46 (by decide) (fun c_5 => ?_) (fun c_5 => ?_)
          · have c_5 : what < 0 := c_5
            rw [hQ]
            exact thr_A hx hb hl0 hown hX hS (hl.1.trans hml.symm) (hts (.classLink RX7 44 exA) (by decide +kernel)) (hts (.initialized exA) (by decide +kernel)) (fun w hw => hts w (hsub_A w hw)) 15 rfl dX7_ifPressed_54 dX7_ifPressed_57 dX7_ifPressed_58 dX7_ifPressed_60 dX7_ifPressed_63 hno (Nat.le_of_ble_eq_true rfl) (Nat.le_of_ble_eq_true rfl) (Nat.le_of_ble_eq_true rfl) (Nat.le_of_ble_eq_true rfl) hlocks (fun t _ h1 h2 => thX_of hP hD hS (k := 1) (ifp_d hm1 hm5 hr9 c_4 (show ¬ inL what.toInt64 0 4 from in_lo (a := 0) (c := 4) c_5)) (by decide) rfl h1 h2) hS.2.2 (Nat.le_of_ble_eq_true rfl) (Nat.le_of_ble_eq_true rfl)
          · have c_5 : ¬ what < 0 := c_5
            refine lv_iload_n hx hb dX7_ifPressed_49 rfl (lv_at hl 3 rfl) ?_
            refine lv_iconst (v := 4) hx hb dX7_ifPressed_50 (by decide) ?_
            refine lv_icmp_le (tgt := 64) hx hb dX7_ifPressed_51 (by decide) (fun c_6 => ?_) (fun c_6 => ?_)
            · have c_6 : what ≤ 4 := c_6
              have hK0 : kIfp (nI m5) (nI r9) what = 0 := ifp_0 hm1 hm5 hr9 c_4 (in_ok (a := 0) (c := 4) c_5 c_6)
              refine lv_aload_n hx hb dX7_ifPressed_64 rfl (lv_at hl 0 rfl) ?_
              refine va_get (ci := 4) (v := .ref (tr 0)) (C := RX7) (T := TX7) (N := 6) hx hb hts hin_X7 hown hK hP 0 rfl rfl 4 (by decide) (hts (.fieldLink RX7 37 "ButtonGuests" "trial" "LButtonGuests$Hotel;") (by decide +kernel)) (fun _ h9 => h9) rfl dX7_ifPressed_65 ?_
              refine lv_aload_n hx hb dX7_ifPressed_68 rfl (lv_at hl 0 rfl) ?_
              refine va_get (ci := 4) (v := .ref (nw 0)) (C := RX7) (T := TX7) (N := 6) hx hb hts hin_X7 hown hK hP 0 rfl rfl 5 (by decide) (hts (.fieldLink RX7 41 "ButtonGuests" "now" "LButtonGuests$Hotel;") (by decide +kernel)) (fun _ h9 => h9) rfl dX7_ifPressed_69 ?_
              refine wr_v (fun u => wj [[(b 0, .inr (4, [.ref (t 0), .ref (pa 0), .ref (se 0), .ref (b 1), .ref (tr 0), .ref (nw 0)]))], [(b 1, .inl (cy 2, 2, .inr (.inr (.inr (.inr ((slF o0 o1)))))))], textW cy t (nI z) f, pastW cy pa ct L, poolW cy L, searchW cy se (th 0) sc pf bf, hotelW cy th y0, hotelW cy tr u, hotelW cy nw x, slotW cy o0, slotW cy o1]) (va_runV (As := [.ref (nw 0)]) (rest := []) hF (c_X1_copyFrom l D cy tr nw y1 x H.size) (cwV 1 hts gX7_ifPressed_X1_copyFrom rfl rfl rfl (by decide +kernel) ⟨Nat.le_of_ble_eq_true rfl, Nat.le_of_ble_eq_true rfl⟩) (wr_preV hK hP hD (zz_pick2 [[(b 0, .inr (4, [.ref (t 0), .ref (pa 0), .ref (se 0), .ref (b 1), .ref (tr 0), .ref (nw 0)]))], [(b 1, .inl (cy 2, 2, .inr (.inr (.inr (.inr ((slF o0 o1)))))))], textW cy t (nI z) f, pastW cy pa ct L, poolW cy L, searchW cy se (th 0) sc pf bf, hotelW cy th y0, hotelW cy tr y1, hotelW cy nw x, slotW cy o0, slotW cy o1] 7 8 [0, 1, 2, 3, 4, 5, 6, 9, 10] (show List.Perm ([7, 8] ++ [0, 1, 2, 3, 4, 5, 6, 9, 10]) (List.range 11) by decide) rfl rfl rfl) 0 0 rfl rfl rfl) rfl rfl hl.1 rfl (lv_room (Nat.le_of_ble_eq_true rfl)) dX7_ifPressed_72 ⟨Nat.le_of_ble_eq_true rfl, Nat.le_of_ble_eq_true rfl⟩) hP hD hS hA (zz_pick2 [[(b 0, .inr (4, [.ref (t 0), .ref (pa 0), .ref (se 0), .ref (b 1), .ref (tr 0), .ref (nw 0)]))], [(b 1, .inl (cy 2, 2, .inr (.inr (.inr (.inr ((slF o0 o1)))))))], textW cy t (nI z) f, pastW cy pa ct L, poolW cy L, searchW cy se (th 0) sc pf bf, hotelW cy th y0, hotelW cy tr y1, hotelW cy nw x, slotW cy o0, slotW cy o1] 7 8 [0, 1, 2, 3, 4, 5, 6, 9, 10] (show List.Perm ([7, 8] ++ [0, 1, 2, 3, 4, 5, 6, 9, 10]) (List.range 11) by decide) rfl rfl rfl) (fun u => (zz_pick2 [[(b 0, .inr (4, [.ref (t 0), .ref (pa 0), .ref (se 0), .ref (b 1), .ref (tr 0), .ref (nw 0)]))], [(b 1, .inl (cy 2, 2, .inr (.inr (.inr (.inr ((slF o0 o1)))))))], textW cy t (nI z) f, pastW cy pa ct L, poolW cy L, searchW cy se (th 0) sc pf bf, hotelW cy th y0, hotelW cy tr u, hotelW cy nw x, slotW cy o0, slotW cy o1] 7 8 [0, 1, 2, 3, 4, 5, 6, 9, 10] (show List.Perm ([7, 8] ++ [0, 1, 2, 3, 4, 5, 6, 9, 10]) (List.range 11) by decide) rfl rfl rfl)) (fun u_7 H locs e_8 hP hD hS => ?_)
              obtain rfl : x = u_7 := e_8.symm
              have hP : va_P D vwCl (wj [[(b 0, .inr (4, [.ref (t 0), .ref (pa 0), .ref (se 0), .ref (b 1), .ref (tr 0), .ref (nw 0)]))], [(b 1, .inl (cy 2, 2, .inr (.inr (.inr (.inr ((slF o0 o1)))))))], textW cy t (nI z) f, pastW cy pa ct L, poolW cy L, searchW cy se (th 0) sc pf bf, hotelW cy th y0, hotelW cy tr x, hotelW cy nw x, slotW cy o0, slotW cy o1]) H := hP
              have hD : va_D A (wj [[(b 0, .inr (4, [.ref (t 0), .ref (pa 0), .ref (se 0), .ref (b 1), .ref (tr 0), .ref (nw 0)]))], [(b 1, .inl (cy 2, 2, .inr (.inr (.inr (.inr ((slF o0 o1)))))))], textW cy t (nI z) f, pastW cy pa ct L, poolW cy L, searchW cy se (th 0) sc pf bf, hotelW cy th y0, hotelW cy tr x, hotelW cy nw x, slotW cy o0, slotW cy o1]) := hD
              refine lv_iconst (v := 0) hx hb dX7_ifPressed_75 (by decide) ?_
              refine lv_istore (lv' := [(4, .int 0), (0, .ref (b 0)), (1, .int (nI m5)), (2, .int (nI r9)), (3, .int what)]) hx hb dX7_ifPressed_76 hl (by decide) rfl (fun ls hl => ?_)
              have loop : ∀ (k i : Nat) (z1 : HS), i ≤ m5 → m5 + 1 ≤ i + k → z1.1.1 = nI n → lpN (sPrC n m5 r9) (m5 - i) i z1 = lpN (sPrC n m5 r9) m5 0 x → ∀ (H : Heap) (locs : List Loc) (ls : Array Slot), va_P D vwCl (wj [[(b 0, .inr (4, [.ref (t 0), .ref (pa 0), .ref (se 0), .ref (b 1), .ref (tr 0), .ref (nw 0)]))], [(b 1, .inl (cy 2, 2, .inr (.inr (.inr (.inr ((slF o0 o1)))))))], textW cy t (nI z) f, pastW cy pa ct L, poolW cy L, searchW cy se (th 0) sc pf bf, hotelW cy th y0, hotelW cy tr z1, hotelW cy nw x, slotW cy o0, slotW cy o1]) H → va_D A (wj [[(b 0, .inr (4, [.ref (t 0), .ref (pa 0), .ref (se 0), .ref (b 1), .ref (tr 0), .ref (nw 0)]))], [(b 1, .inl (cy 2, 2, .inr (.inr (.inr (.inr ((slF o0 o1)))))))], textW cy t (nI z) f, pastW cy pa ct L, poolW cy L, searchW cy se (th 0) sc pf bf, hotelW cy th y0, hotelW cy tr z1, hotelW cy nw x, slotW cy o0, slotW cy o1]) → va_S A s.heap H locs → lv_has ls 5 [(4, .int (nI i)), (0, .ref (b 0)), (1, .int (nI m5)), (2, .int (nI r9)), (3, .int what)] → W p l e rm_X7_ifPressed s m args below meth c H locs 0 0 Q (F0 m 78 ls []) := by
                intro k
                induction k with
                | zero =>
                  intro i z1 hi hk hgz hv
                  exact absurd hk (by omega)
                | succ k ih =>
                  intro i z1 hi hk hgz hv H locs ls hP hD hS hl
                  refine lv_iload hx hb dX7_ifPressed_78 (lv_at hl 0 rfl) ?_
                  refine lv_iload_n hx hb dX7_ifPressed_80 rfl (lv_at hl 2 rfl) ?_
                  refine lv_icmp_ge (tgt := 114) hx hb dX7_ifPressed_81 (by decide) (fun c_9 => ?_) (fun c_9 => ?_)
                  · have c_9 : m5 ≤ i := (nI_leI (a := m5) (b := i) (by omega) (by omega)).mp c_9
                    refine lv_aload_n hx hb dX7_ifPressed_114 rfl (lv_at hl 1 rfl) ?_
                    refine lv_iload_n hx hb dX7_ifPressed_115 rfl (lv_at hl 4 rfl) ?_
                    refine rd_V (As := [.int what]) (rest := []) hF (c_X7_brought l D cy b t pa se th tr nw z hz f ct L hc1 hc2 sc pf bf y0 z1 x o0 o1 n hn hg hok hgz what) (cwV 1 hts gX7_ifPressed_X7_brought rfl rfl rfl (by decide +kernel) ⟨Nat.le_of_ble_eq_true rfl, Nat.le_of_ble_eq_true rfl⟩) hK hP 0 4 rfl rfl rfl rfl hl.1 rfl (Nat.le_of_ble_eq_true rfl) dX7_ifPressed_116 ⟨Nat.le_of_ble_eq_true rfl, Nat.le_of_ble_eq_true rfl⟩ ?_
                    exact W.widen (k := 1) (n := 6) (Nat.le_of_ble_eq_true rfl) (Nat.le_of_ble_eq_true rfl) (hret _ _ H locs _ ((z, f), (ct, L), ((sc, pf, bf), y0), z1, (nw, x), (o0, o1)) dX7_ifPressed_119 hP hD hS (⟨hK0, by rw [nI_clamp (show m5 < 2 ^ 31 by omega), nI_clamp hr9, ← lpN_end c_9 hv], _, rfl⟩))
                  · have c_9 : ¬ m5 ≤ i := fun q => c_9 ((nI_leI (a := m5) (b := i) (by omega) (by omega)).mpr q)
                    refine lv_aload_n hx hb dX7_ifPressed_84 rfl (lv_at hl 1 rfl) ?_
                    refine va_get (ci := 4) (v := .ref (tr 0)) (C := RX7) (T := TX7) (N := 6) hx hb hts hin_X7 hown hK hP 0 rfl rfl 4 (by decide) (hts (.fieldLink RX7 37 "ButtonGuests" "trial" "LButtonGuests$Hotel;") (by decide +kernel)) (fun _ h9 => h9) rfl dX7_ifPressed_85 ?_
                    refine lv_iload_n hx hb dX7_ifPressed_88 rfl (lv_at hl 3 rfl) ?_
                    refine lv_i2l (v := Int32.toInt64 (nI r9)) hx hb dX7_ifPressed_89 rfl ?_
                    refine lv_iload_n hx hb dX7_ifPressed_90 rfl (lv_at hl 2 rfl) ?_
                    refine lv_iconst (v := 1) hx hb dX7_ifPressed_91 (by decide) ?_
                    refine lv_isub hx hb dX7_ifPressed_92 ?_
                    refine lv_iload hx hb dX7_ifPressed_93 (lv_at hl 0 rfl) ?_
                    refine lv_isub hx hb dX7_ifPressed_95 ?_
                    refine zz_top (y := nI (m5 - 1 - i)) (sub2 (by omega)) ?_
                    refine rd_SL (As := [.long (Int32.toInt64 (nI r9)), .int (nI (m5 - 1 - i))]) (rest := [.ref (tr 0)]) hF (c_X0_without l D cy (Int32.toInt64 (nI r9)) (m5 - 1 - i) (by omega)) (va_cwS 2 hts gX7_ifPressed_X0_without rfl rfl rfl (by decide +kernel) ⟨Nat.le_of_ble_eq_true rfl, Nat.le_of_ble_eq_true rfl⟩) hK (fun k q h => by simp at h) rfl hl.1 rfl (Nat.le_of_ble_eq_true rfl) dX7_ifPressed_96 ⟨Nat.le_of_ble_eq_true rfl, Nat.le_of_ble_eq_true rfl⟩ ?_
                    refine zz_topL (y := lN (r9 / 10 ^ (m5 - 1 - i))) (ten_i hr9) ?_
                    refine lv_ldc2 (v := 10) hx hb hown (hts (.constantLong RX7 208 (10)) (by decide +kernel)) dX7_ifPressed_99 ?_
                    refine lv_lrem hx hb dX7_ifPressed_102 (by decide) ?_
                    refine zz_topL (y := lN (r9 / 10 ^ (m5 - 1 - i) % 10)) (pk_lRem (b := 10) (Nat.lt_of_le_of_lt (Nat.div_le_self _ _) (by omega)) (by decide) (by decide)) ?_
                    refine lv_l2i (v := Int64.toInt32 (lN (r9 / 10 ^ (m5 - 1 - i) % 10))) hx hb dX7_ifPressed_103 rfl ?_
                    refine zz_top (y := nI (r9 / 10 ^ (m5 - 1 - i) % 10)) (lN_i _) ?_
                    refine wr_i (fun u => wj [[(b 0, .inr (4, [.ref (t 0), .ref (pa 0), .ref (se 0), .ref (b 1), .ref (tr 0), .ref (nw 0)]))], [(b 1, .inl (cy 2, 2, .inr (.inr (.inr (.inr ((slF o0 o1)))))))], textW cy t (nI z) f, pastW cy pa ct L, poolW cy L, searchW cy se (th 0) sc pf bf, hotelW cy th y0, hotelW cy tr u, hotelW cy nw x, slotW cy o0, slotW cy o1]) (va_runV (As := [.int (nI (r9 / 10 ^ (m5 - 1 - i) % 10))]) (rest := []) hF (c_X1_pressBy l D cy tr n hn z1 hgz H.size (nI (r9 / 10 ^ (m5 - 1 - i) % 10))) (cwV 1 hts gX7_ifPressed_X1_pressBy rfl rfl rfl (by decide +kernel) ⟨Nat.le_of_ble_eq_true rfl, Nat.le_of_ble_eq_true rfl⟩) (wr_preV hK hP hD (zz_pick1 [[(b 0, .inr (4, [.ref (t 0), .ref (pa 0), .ref (se 0), .ref (b 1), .ref (tr 0), .ref (nw 0)]))], [(b 1, .inl (cy 2, 2, .inr (.inr (.inr (.inr ((slF o0 o1)))))))], textW cy t (nI z) f, pastW cy pa ct L, poolW cy L, searchW cy se (th 0) sc pf bf, hotelW cy th y0, hotelW cy tr z1, hotelW cy nw x, slotW cy o0, slotW cy o1] 7 [0, 1, 2, 3, 4, 5, 6, 8, 9, 10] (show List.Perm ([7] ++ [0, 1, 2, 3, 4, 5, 6, 8, 9, 10]) (List.range 11) by decide) rfl rfl) 0 0 rfl rfl rfl) rfl rfl hl.1 rfl (lv_room (Nat.le_of_ble_eq_true rfl)) dX7_ifPressed_104 ⟨Nat.le_of_ble_eq_true rfl, Nat.le_of_ble_eq_true rfl⟩) hP hD hS hA (zz_pick1 [[(b 0, .inr (4, [.ref (t 0), .ref (pa 0), .ref (se 0), .ref (b 1), .ref (tr 0), .ref (nw 0)]))], [(b 1, .inl (cy 2, 2, .inr (.inr (.inr (.inr ((slF o0 o1)))))))], textW cy t (nI z) f, pastW cy pa ct L, poolW cy L, searchW cy se (th 0) sc pf bf, hotelW cy th y0, hotelW cy tr z1, hotelW cy nw x, slotW cy o0, slotW cy o1] 7 [0, 1, 2, 3, 4, 5, 6, 8, 9, 10] (show List.Perm ([7] ++ [0, 1, 2, 3, 4, 5, 6, 8, 9, 10]) (List.range 11) by decide) rfl rfl) (fun u => (zz_pick1 [[(b 0, .inr (4, [.ref (t 0), .ref (pa 0), .ref (se 0), .ref (b 1), .ref (tr 0), .ref (nw 0)]))], [(b 1, .inl (cy 2, 2, .inr (.inr (.inr (.inr ((slF o0 o1)))))))], textW cy t (nI z) f, pastW cy pa ct L, poolW cy L, searchW cy se (th 0) sc pf bf, hotelW cy th y0, hotelW cy tr u, hotelW cy nw x, slotW cy o0, slotW cy o1] 7 [0, 1, 2, 3, 4, 5, 6, 8, 9, 10] (show List.Perm ([7] ++ [0, 1, 2, 3, 4, 5, 6, 8, 9, 10]) (List.range 11) by decide) rfl rfl)) (fun r_10 u_11 H locs e_12 hP hD hS => ?_)
                    obtain ⟨rfl, rfl⟩ := e_12
                    have hP : va_P D vwCl (wj [[(b 0, .inr (4, [.ref (t 0), .ref (pa 0), .ref (se 0), .ref (b 1), .ref (tr 0), .ref (nw 0)]))], [(b 1, .inl (cy 2, 2, .inr (.inr (.inr (.inr ((slF o0 o1)))))))], textW cy t (nI z) f, pastW cy pa ct L, poolW cy L, searchW cy se (th 0) sc pf bf, hotelW cy th y0, hotelW cy tr (hPress n z1 (nI (r9 / 10 ^ (m5 - 1 - i) % 10))), hotelW cy nw x, slotW cy o0, slotW cy o1]) H := hP
                    have hD : va_D A (wj [[(b 0, .inr (4, [.ref (t 0), .ref (pa 0), .ref (se 0), .ref (b 1), .ref (tr 0), .ref (nw 0)]))], [(b 1, .inl (cy 2, 2, .inr (.inr (.inr (.inr ((slF o0 o1)))))))], textW cy t (nI z) f, pastW cy pa ct L, poolW cy L, searchW cy se (th 0) sc pf bf, hotelW cy th y0, hotelW cy tr (hPress n z1 (nI (r9 / 10 ^ (m5 - 1 - i) % 10))), hotelW cy nw x, slotW cy o0, slotW cy o1]) := hD
                    refine lv_pop hx hb dX7_ifPressed_107 rfl ?_
                    refine lv_iinc (v := nI (i + 1)) (lv' := [(4, .int (nI (i + 1))), (0, .ref (b 0)), (1, .int (nI m5)), (2, .int (nI r9)), (3, .int what)]) hx hb dX7_ifPressed_108 hl (k := 0) rfl (nI_add (i) 1) (by decide) rfl (fun ls hl => ?_)
                    refine lv_goto (tgt := 78) hx hb dX7_ifPressed_111 (by decide) ?_
                    exact ih (i + 1) (hPress n z1 (nI (r9 / 10 ^ (m5 - 1 - i) % 10))) (by omega) (by omega) (press_gu.trans hgz) (lpN_next (by omega) hv rfl) _ _ _ hP hD hS (lv_sub hl [0, 1, 2, 3, 4] rfl)
              exact loop (m5 + 1) 0 x (Nat.zero_le _) (by omega) hg rfl _ _ _ hP hD hS (lv_sub hl [0, 1, 2, 3, 4] rfl)
            · have c_6 : ¬ what ≤ 4 := c_6
              rw [hQ]
              exact thr_A hx hb hl0 hown hX hS (hl.1.trans hml.symm) (hts (.classLink RX7 44 exA) (by decide +kernel)) (hts (.initialized exA) (by decide +kernel)) (fun w hw => hts w (hsub_A w hw)) 15 rfl dX7_ifPressed_54 dX7_ifPressed_57 dX7_ifPressed_58 dX7_ifPressed_60 dX7_ifPressed_63 hno (Nat.le_of_ble_eq_true rfl) (Nat.le_of_ble_eq_true rfl) (Nat.le_of_ble_eq_true rfl) (Nat.le_of_ble_eq_true rfl) hlocks (fun t _ h1 h2 => thX_of hP hD hS (k := 1) (ifp_d hm1 hm5 hr9 c_4 (show ¬ inL what.toInt64 0 4 from in_hi (a := 0) (c := 4) c_6)) (by decide) rfl h1 h2) hS.2.2 (Nat.le_of_ble_eq_true rfl) (Nat.le_of_ble_eq_true rfl)
        · have c_4 := fun q => c_4 ((lg_cmp_eq _ _).mpr q)
          rw [hQ]
          exact thr_A hx hb hl0 hown hX hS (hl.1.trans hml.symm) (hts (.classLink RX7 44 exA) (by decide +kernel)) (hts (.initialized exA) (by decide +kernel)) (fun w hw => hts w (hsub_A w hw)) 14 rfl dX7_ifPressed_35 dX7_ifPressed_38 dX7_ifPressed_39 dX7_ifPressed_41 dX7_ifPressed_44 hno (Nat.le_of_ble_eq_true rfl) (Nat.le_of_ble_eq_true rfl) (Nat.le_of_ble_eq_true rfl) (Nat.le_of_ble_eq_true rfl) hlocks (fun t _ h1 h2 => thX_of hP hD hS (k := 1) (ifp_c hm1 hm5 hr9 c_4) (by decide) rfl h1 h2) hS.2.2 (Nat.le_of_ble_eq_true rfl) (Nat.le_of_ble_eq_true rfl)
    · have c_2 : ¬ v ≤ 5 := c_2
      rw [hQ]
      exact thr_A hx hb hl0 hown hX hS (hl.1.trans hml.symm) (hts (.classLink RX7 44 exA) (by decide +kernel)) (hts (.initialized exA) (by decide +kernel)) (fun w hw => hts w (hsub_A w hw)) 13 rfl dX7_ifPressed_10 dX7_ifPressed_13 dX7_ifPressed_14 dX7_ifPressed_16 dX7_ifPressed_19 hno (Nat.le_of_ble_eq_true rfl) (Nat.le_of_ble_eq_true rfl) (Nat.le_of_ble_eq_true rfl) (Nat.le_of_ble_eq_true rfl) hlocks (fun t _ h1 h2 => thX_of hP hD hS (k := 1) (if_neg (show ¬ inL v.toInt64 1 5 from in_hi (a := 1) (c := 5) c_2)) (by decide) rfl h1 h2) hS.2.2 (Nat.le_of_ble_eq_true rfl) (Nat.le_of_ble_eq_true rfl)
abbrev rm_X7_runScript : Room := { frames := 6, cells := 1, slots := 6, locals := 115 }
set_option maxHeartbeats 4000000 in
set_option maxRecDepth 100000 in
theorem c_X7_runScript (l : Launch) (D : va_G) (cy : Nat → ClassId) (hl0 : l.stackTraces = false) (b t pa se th tr nw : Nat → Nat) (z : Nat) (hz : z ≤ 120) (f : Nat → Int32) (ct : Nat) (L : List HQ) (hc1 : ct ≤ L.length) (hc2 : L.length ≤ 14) (sc : Int32) (pf bf : Nat → Int32) (y0 y1 x : HS) (o0 o1 : Option HQ) (n : Nat) (hn : n ≤ 4) (hg : x.1.1 = nI n) (hok : okX n x) (hOkx : OkH x) (v : Int32) (s9 : Int64) (sz : Nat) : vx_Met l yX7_runScript wsX7_runScript rm_X7_runScript (wrX D cy [.ref (b 0), .int v, .long s9] (guestsW cy b t pa se th tr ((z, f), (ct, L), ((sc, pf, bf), y0), y1, (nw, x), (o0, o1))) sz (Gx (va_A (guestsW cy b t pa se th tr ((z, f), (ct, L), ((sc, pf, bf), y0), y1, (nw, x), (o0, o1))) sz))) (va_Qi (fun (r : Int32) (u : BS) => kRun v s9 = 0 ∧ r = vRun v s9 x ∧ ∃ y9, u = ((z, f), (ct, L), ((sc, pf, bf), y0), y9, (nw, x), (o0, o1))) (wrB D (va_A (guestsW cy b t pa se th tr ((z, f), (ct, L), ((sc, pf, bf), y0), y1, (nw, x), (o0, o1))) sz) (fun u => guestsW cy b t pa se th tr u)) (va_A (guestsW cy b t pa se th tr ((z, f), (ct, L), ((sc, pf, bf), y0), y1, (nw, x), (o0, o1))) sz)) (thX D (va_A (guestsW cy b t pa se th tr ((z, f), (ct, L), ((sc, pf, bf), y0), y1, (nw, x), (o0, o1))) sz) (guestsW cy b t pa se th tr ((z, f), (ct, L), ((sc, pf, bf), y0), y1, (nw, x), (o0, o1))) [exA] (kRun v s9)) 1 6 (va_A (guestsW cy b t pa se th tr ((z, f), (ct, L), ((sc, pf, bf), y0), y1, (nw, x), (o0, o1))) sz) := by
  refine MthI (cc := cX7_runScript) (maxL := 6) (ty := .int) (by decide) rfl (Nat.le_of_ble_eq_true rfl) (fun _ _ _ => rfl) ?_
  intro p e s m args below meth c Q ls A hAe hsz hQ hlocks hno hX0 hF hK hP hD hA hl hret
  rw [← hsz, ← hAe] at hX0
  have hX : Gx A s := hX0
  have hX0 : Gs A s := hX.1.1
  have hGn : Gn s := hX.1.2
  obtain ⟨hx, hb, hml, hown, hts⟩ := id hF
  have hown : s.vm.findClass RX7 = some m.cls := hown
  have hin_X7 : ∀ w ∈ u_ws RX7 TX7 6, w ∈ wsX7_runScript := by decide +kernel
  have hsub_A : ∀ w ∈ (vx_atS RX7 48 exA exN).filter goodWord, w ∈ wsX7_runScript := by decide +kernel
  have hl : lv_has ls 6 [(0, .ref (b 0)), (1, .int v), (2, .long s9)] := hl
  suffices key : ∀ (H : Heap) (locs : List Loc), va_P D vwCl (wj [[(b 0, .inr (4, [.ref (t 0), .ref (pa 0), .ref (se 0), .ref (b 1), .ref (tr 0), .ref (nw 0)]))], [(b 1, .inl (cy 2, 2, .inr (.inr (.inr (.inr ((slF o0 o1)))))))], textW cy t (nI z) f, pastW cy pa ct L, poolW cy L, searchW cy se (th 0) sc pf bf, hotelW cy th y0, hotelW cy tr y1, hotelW cy nw x, slotW cy o0, slotW cy o1]) H → va_D A (wj [[(b 0, .inr (4, [.ref (t 0), .ref (pa 0), .ref (se 0), .ref (b 1), .ref (tr 0), .ref (nw 0)]))], [(b 1, .inl (cy 2, 2, .inr (.inr (.inr (.inr ((slF o0 o1)))))))], textW cy t (nI z) f, pastW cy pa ct L, poolW cy L, searchW cy se (th 0) sc pf bf, hotelW cy th y0, hotelW cy tr y1, hotelW cy nw x, slotW cy o0, slotW cy o1]) → va_S A s.heap H locs → W p l e rm_X7_runScript s m args below meth c H locs 0 0 Q (F0 m 0 ls []) from key s.heap [] hP hD va_S.rf
  intro H locs hP hD hS
  refine lv_iload_n hx hb dX7_runScript_0 rfl (lv_at hl 1 rfl) ?_
  refine lv_iconst (v := 1) hx hb dX7_runScript_1 (by decide) ?_
  refine lv_icmp_lt (tgt := 10) hx hb dX7_runScript_2 (by decide) (fun c_1 => ?_) (fun c_1 => ?_)
  · have c_1 : v < 1 := c_1
    rw [hQ]
    exact thr_A hx hb hl0 hown hX hS (hl.1.trans hml.symm) (hts (.classLink RX7 44 exA) (by decide +kernel)) (hts (.initialized exA) (by decide +kernel)) (fun w hw => hts w (hsub_A w hw)) 16 rfl dX7_runScript_10 dX7_runScript_13 dX7_runScript_14 dX7_runScript_16 dX7_runScript_19 hno (Nat.le_of_ble_eq_true rfl) (Nat.le_of_ble_eq_true rfl) (Nat.le_of_ble_eq_true rfl) (Nat.le_of_ble_eq_true rfl) hlocks (fun t _ h1 h2 => thX_of hP hD hS (k := 1) (if_neg (show ¬ inL v.toInt64 1 3 from in_lo (a := 1) (c := 3) c_1)) (by decide) rfl h1 h2) hS.2.2 (Nat.le_of_ble_eq_true rfl) (Nat.le_of_ble_eq_true rfl)
  · have c_1 : ¬ v < 1 := c_1
    refine lv_iload_n hx hb dX7_runScript_5 rfl (lv_at hl 1 rfl) ?_
    refine lv_iconst (v := 3) hx hb dX7_runScript_6 (by decide) ?_
    refine lv_icmp_le (tgt := 20) hx hb dX7_runScript_7 (by decide) (fun c_2 => ?_) (fun c_2 => ?_)
    · have c_2 : v ≤ 3 := c_2
      obtain ⟨m3, hm1, hm3, rfl⟩ := inL_1 (k := 3) (by decide) rfl (in_ok (a := 1) (c := 3) c_1 c_2)
      refine lv_lload_n hx hb dX7_runScript_20 rfl (lv_at hl 2 rfl) ?_
      refine lv_lconst (v := 0) hx hb dX7_runScript_21 (by decide) ?_
      refine W.lcmp hx hb dX7_runScript_22 ?_
      refine lv_if_lt (tgt := 38) hx hb dX7_runScript_23 (by decide) (fun c_3 => ?_) (fun c_3 => ?_)
      · have c_3 := (lg_cmp_lt _ _).mp c_3
        rw [hQ]
        exact thr_A hx hb hl0 hown hX hS (hl.1.trans hml.symm) (hts (.classLink RX7 44 exA) (by decide +kernel)) (hts (.initialized exA) (by decide +kernel)) (fun w hw => hts w (hsub_A w hw)) 17 rfl dX7_runScript_38 dX7_runScript_41 dX7_runScript_42 dX7_runScript_44 dX7_runScript_47 hno (Nat.le_of_ble_eq_true rfl) (Nat.le_of_ble_eq_true rfl) (Nat.le_of_ble_eq_true rfl) (Nat.le_of_ble_eq_true rfl) hlocks (fun t _ h1 h2 => thX_of hP hD hS (k := 1) (rn_b hm1 hm3 c_3) (by decide) rfl h1 h2) hS.2.2 (Nat.le_of_ble_eq_true rfl) (Nat.le_of_ble_eq_true rfl)
      · have c_3 := fun q => c_3 ((lg_cmp_lt _ _).mpr q)
        obtain ⟨k9, hk9, rfl⟩ := pk_lOf c_3
        refine lv_lload_n hx hb dX7_runScript_26 rfl (lv_at hl 2 rfl) ?_
        refine lv_iconst (v := 5) hx hb dX7_runScript_27 (by decide) ?_
        refine lv_iload_n hx hb dX7_runScript_28 rfl (lv_at hl 1 rfl) ?_
        refine lv_imul hx hb dX7_runScript_29 ?_
        refine zz_top (y := nI (5 * m3)) (pk_mul 5 m3) ?_
        refine rd_SL (As := [.long (lN k9), .int (nI (5 * m3))]) (rest := []) hF (c_X0_without l D cy (lN k9) (5 * m3) (by omega)) (va_cwS 2 hts gX7_runScript_X0_without rfl rfl rfl (by decide +kernel) ⟨Nat.le_of_ble_eq_true rfl, Nat.le_of_ble_eq_true rfl⟩) hK (fun k q h => by simp at h) rfl hl.1 rfl (Nat.le_of_ble_eq_true rfl) dX7_runScript_30 ⟨Nat.le_of_ble_eq_true rfl, Nat.le_of_ble_eq_true rfl⟩ ?_
        refine zz_topL (y := lN (k9 / 10 ^ (5 * m3))) (ten_nat _ _ _ hk9) ?_
        refine lv_lconst (v := 0) hx hb dX7_runScript_33 (by decide) ?_
        refine W.lcmp hx hb dX7_runScript_34 ?_
        refine lv_if_eq (tgt := 48) hx hb dX7_runScript_35 (by decide) (fun c_4 => ?_) (fun c_4 => ?_)
        · have c_4 := (lg_cmp_eq _ _).mp c_4
          have hK0 := rn_0 hm1 hm3 hk9 c_4
          refine lv_aload_n hx hb dX7_runScript_48 rfl (lv_at hl 0 rfl) ?_
          refine va_get (ci := 4) (v := .ref (tr 0)) (C := RX7) (T := TX7) (N := 6) hx hb hts hin_X7 hown hK hP 0 rfl rfl 4 (by decide) (hts (.fieldLink RX7 37 "ButtonGuests" "trial" "LButtonGuests$Hotel;") (by decide +kernel)) (fun _ h9 => h9) rfl dX7_runScript_49 ?_
          refine lv_aload_n hx hb dX7_runScript_52 rfl (lv_at hl 0 rfl) ?_
          refine va_get (ci := 4) (v := .ref (nw 0)) (C := RX7) (T := TX7) (N := 6) hx hb hts hin_X7 hown hK hP 0 rfl rfl 5 (by decide) (hts (.fieldLink RX7 41 "ButtonGuests" "now" "LButtonGuests$Hotel;") (by decide +kernel)) (fun _ h9 => h9) rfl dX7_runScript_53 ?_
          refine wr_v (fun u => wj [[(b 0, .inr (4, [.ref (t 0), .ref (pa 0), .ref (se 0), .ref (b 1), .ref (tr 0), .ref (nw 0)]))], [(b 1, .inl (cy 2, 2, .inr (.inr (.inr (.inr ((slF o0 o1)))))))], textW cy t (nI z) f, pastW cy pa ct L, poolW cy L, searchW cy se (th 0) sc pf bf, hotelW cy th y0, hotelW cy tr u, hotelW cy nw x, slotW cy o0, slotW cy o1]) (va_runV (As := [.ref (nw 0)]) (rest := []) hF (c_X1_copyFrom l D cy tr nw y1 x H.size) (cwV 1 hts gX7_runScript_X1_copyFrom rfl rfl rfl (by decide +kernel) ⟨Nat.le_of_ble_eq_true rfl, Nat.le_of_ble_eq_true rfl⟩) (wr_preV hK hP hD (zz_pick2 [[(b 0, .inr (4, [.ref (t 0), .ref (pa 0), .ref (se 0), .ref (b 1), .ref (tr 0), .ref (nw 0)]))], [(b 1, .inl (cy 2, 2, .inr (.inr (.inr (.inr ((slF o0 o1)))))))], textW cy t (nI z) f, pastW cy pa ct L, poolW cy L, searchW cy se (th 0) sc pf bf, hotelW cy th y0, hotelW cy tr y1, hotelW cy nw x, slotW cy o0, slotW cy o1] 7 8 [0, 1, 2, 3, 4, 5, 6, 9, 10] (show List.Perm ([7, 8] ++ [0, 1, 2, 3, 4, 5, 6, 9, 10]) (List.range 11) by decide) rfl rfl rfl) 0 0 rfl rfl rfl) rfl rfl hl.1 rfl (lv_room (Nat.le_of_ble_eq_true rfl)) dX7_runScript_56 ⟨Nat.le_of_ble_eq_true rfl, Nat.le_of_ble_eq_true rfl⟩) hP hD hS hA (zz_pick2 [[(b 0, .inr (4, [.ref (t 0), .ref (pa 0), .ref (se 0), .ref (b 1), .ref (tr 0), .ref (nw 0)]))], [(b 1, .inl (cy 2, 2, .inr (.inr (.inr (.inr ((slF o0 o1)))))))], textW cy t (nI z) f, pastW cy pa ct L, poolW cy L, searchW cy se (th 0) sc pf bf, hotelW cy th y0, hotelW cy tr y1, hotelW cy nw x, slotW cy o0, slotW cy o1] 7 8 [0, 1, 2, 3, 4, 5, 6, 9, 10] (show List.Perm ([7, 8] ++ [0, 1, 2, 3, 4, 5, 6, 9, 10]) (List.range 11) by decide) rfl rfl rfl) (fun u => (zz_pick2 [[(b 0, .inr (4, [.ref (t 0), .ref (pa 0), .ref (se 0), .ref (b 1), .ref (tr 0), .ref (nw 0)]))], [(b 1, .inl (cy 2, 2, .inr (.inr (.inr (.inr ((slF o0 o1)))))))], textW cy t (nI z) f, pastW cy pa ct L, poolW cy L, searchW cy se (th 0) sc pf bf, hotelW cy th y0, hotelW cy tr u, hotelW cy nw x, slotW cy o0, slotW cy o1] 7 8 [0, 1, 2, 3, 4, 5, 6, 9, 10] (show List.Perm ([7, 8] ++ [0, 1, 2, 3, 4, 5, 6, 9, 10]) (List.range 11) by decide) rfl rfl rfl)) (fun u_5 H locs e_6 hP hD hS => ?_)
          obtain rfl : x = u_5 := e_6.symm
          have hP : va_P D vwCl (wj [[(b 0, .inr (4, [.ref (t 0), .ref (pa 0), .ref (se 0), .ref (b 1), .ref (tr 0), .ref (nw 0)]))], [(b 1, .inl (cy 2, 2, .inr (.inr (.inr (.inr ((slF o0 o1)))))))], textW cy t (nI z) f, pastW cy pa ct L, poolW cy L, searchW cy se (th 0) sc pf bf, hotelW cy th y0, hotelW cy tr x, hotelW cy nw x, slotW cy o0, slotW cy o1]) H := hP
          have hD : va_D A (wj [[(b 0, .inr (4, [.ref (t 0), .ref (pa 0), .ref (se 0), .ref (b 1), .ref (tr 0), .ref (nw 0)]))], [(b 1, .inl (cy 2, 2, .inr (.inr (.inr (.inr ((slF o0 o1)))))))], textW cy t (nI z) f, pastW cy pa ct L, poolW cy L, searchW cy se (th 0) sc pf bf, hotelW cy th y0, hotelW cy tr x, hotelW cy nw x, slotW cy o0, slotW cy o1]) := hD
          refine lv_iconst (v := 0) hx hb dX7_runScript_59 (by decide) ?_
          refine lv_istore (lv' := [(4, .int 0), (0, .ref (b 0)), (1, .int (nI m3)), (2, .long (lN k9))]) hx hb dX7_runScript_60 hl (by decide) rfl (fun ls hl => ?_)
          have loop : ∀ (k i : Nat) (z1 : HS), i ≤ m3 → m3 + 1 ≤ i + k → OkH z1 → lpE (sRun m3 k9) (fun _ => -1) (m3 - i) i z1 = lpE (sRun m3 k9) (fun _ => -1) m3 0 x → ∀ (H : Heap) (locs : List Loc) (ls : Array Slot), va_P D vwCl (wj [[(b 0, .inr (4, [.ref (t 0), .ref (pa 0), .ref (se 0), .ref (b 1), .ref (tr 0), .ref (nw 0)]))], [(b 1, .inl (cy 2, 2, .inr (.inr (.inr (.inr ((slF o0 o1)))))))], textW cy t (nI z) f, pastW cy pa ct L, poolW cy L, searchW cy se (th 0) sc pf bf, hotelW cy th y0, hotelW cy tr z1, hotelW cy nw x, slotW cy o0, slotW cy o1]) H → va_D A (wj [[(b 0, .inr (4, [.ref (t 0), .ref (pa 0), .ref (se 0), .ref (b 1), .ref (tr 0), .ref (nw 0)]))], [(b 1, .inl (cy 2, 2, .inr (.inr (.inr (.inr ((slF o0 o1)))))))], textW cy t (nI z) f, pastW cy pa ct L, poolW cy L, searchW cy se (th 0) sc pf bf, hotelW cy th y0, hotelW cy tr z1, hotelW cy nw x, slotW cy o0, slotW cy o1]) → va_S A s.heap H locs → lv_has ls 6 [(4, .int (nI i)), (0, .ref (b 0)), (1, .int (nI m3)), (2, .long (lN k9))] → W p l e rm_X7_runScript s m args below meth c H locs 0 0 Q (F0 m 62 ls []) := by
            intro k
            induction k with
            | zero =>
              intro i z1 hi hk hOk hv
              exact absurd hk (by omega)
            | succ k ih =>
              intro i z1 hi hk hOk hv H locs ls hP hD hS hl
              refine lv_iload hx hb dX7_runScript_62 (lv_at hl 0 rfl) ?_
              refine lv_iload_n hx hb dX7_runScript_64 rfl (lv_at hl 2 rfl) ?_
              refine lv_icmp_ge (tgt := 108) hx hb dX7_runScript_65 (by decide) (fun c_7 => ?_) (fun c_7 => ?_)
              · have c_7 : m3 ≤ i := (nI_leI (a := m3) (b := i) (by omega) (by omega)).mp c_7
                refine lv_iconst (v := (-1)) hx hb dX7_runScript_108 (by decide) ?_
                exact W.widen (k := 1) (n := 6) (Nat.le_of_ble_eq_true rfl) (Nat.le_of_ble_eq_true rfl) (hret _ _ H locs _ ((z, f), (ct, L), ((sc, pf, bf), y0), z1, (nw, x), (o0, o1)) dX7_runScript_109 hP hD hS (⟨hK0, by rw [vRun, nI_clamp (show m3 < 2 ^ 31 by omega), lN_nat hk9]; exact lpE_end (fin := fun _ => (-1 : Int32)) (x := z1) c_7 hv, _, rfl⟩))
              · have c_7 : ¬ m3 ≤ i := fun q => c_7 ((nI_leI (a := m3) (b := i) (by omega) (by omega)).mpr q)
                refine lv_lload_n hx hb dX7_runScript_68 rfl (lv_at hl 3 rfl) ?_
                refine lv_iconst (v := 5) hx hb dX7_runScript_69 (by decide) ?_
                refine lv_iload_n hx hb dX7_runScript_70 rfl (lv_at hl 2 rfl) ?_
                refine lv_iconst (v := 1) hx hb dX7_runScript_71 (by decide) ?_
                refine lv_isub hx hb dX7_runScript_72 ?_
                refine lv_iload hx hb dX7_runScript_73 (lv_at hl 0 rfl) ?_
                refine lv_isub hx hb dX7_runScript_75 ?_
                refine lv_imul hx hb dX7_runScript_76 ?_
                refine zz_top (y := nI (5 * (m3 - 1 - i))) (by rw [sub2 (by omega)]; exact pk_mul 5 _) ?_
                refine rd_SL (As := [.long (lN k9), .int (nI (5 * (m3 - 1 - i)))]) (rest := []) hF (c_X0_without l D cy (lN k9) (5 * (m3 - 1 - i)) (by omega)) (va_cwS 2 hts gX7_runScript_X0_without rfl rfl rfl (by decide +kernel) ⟨Nat.le_of_ble_eq_true rfl, Nat.le_of_ble_eq_true rfl⟩) hK (fun k q h => by simp at h) rfl hl.1 rfl (Nat.le_of_ble_eq_true rfl) dX7_runScript_77 ⟨Nat.le_of_ble_eq_true rfl, Nat.le_of_ble_eq_true rfl⟩ ?_
                refine zz_topL (y := lN (k9 / 100000 ^ (m3 - 1 - i))) (by rw [ten_nat _ _ _ hk9, p105]) ?_
                refine lv_ldc2 (v := 100000) hx hb hown (hts (.constantLong RX7 220 (100000)) (by decide +kernel)) dX7_runScript_80 ?_
                refine lv_lrem hx hb dX7_runScript_83 (by decide) ?_
                refine zz_topL (y := lN (k9 / 100000 ^ (m3 - 1 - i) % 100000)) (pk_lRem (b := 100000) (Nat.lt_of_le_of_lt (Nat.div_le_self _ _) hk9) (by decide) (by decide)) ?_
                refine lv_l2i (v := Int64.toInt32 (lN (k9 / 100000 ^ (m3 - 1 - i) % 100000))) hx hb dX7_runScript_84 rfl ?_
                obtain ⟨g9, hg9⟩ : ∃ g, g = k9 / 100000 ^ (m3 - 1 - i) % 100000 := ⟨_, rfl⟩
                have hgb : g9 < 100000 := by rw [hg9]; exact Nat.mod_lt _ (by decide)
                refine zz_top (y := nI g9) (by rw [hg9]; exact lN_i _) ?_
                refine lv_istore (lv' := [(5, .int (nI g9)), (4, .int (nI i)), (0, .ref (b 0)), (1, .int (nI m3)), (2, .long (lN k9))]) hx hb dX7_runScript_85 hl (by decide) rfl (fun ls hl => ?_)
                refine lv_aload_n hx hb dX7_runScript_87 rfl (lv_at hl 2 rfl) ?_
                refine va_get (ci := 4) (v := .ref (tr 0)) (C := RX7) (T := TX7) (N := 6) hx hb hts hin_X7 hown hK hP 0 rfl rfl 4 (by decide) (hts (.fieldLink RX7 37 "ButtonGuests" "trial" "LButtonGuests$Hotel;") (by decide +kernel)) (fun _ h9 => h9) rfl dX7_runScript_88 ?_
                refine lv_iload hx hb dX7_runScript_91 (lv_at hl 0 rfl) ?_
                refine wr_i (fun u => wj [[(b 0, .inr (4, [.ref (t 0), .ref (pa 0), .ref (se 0), .ref (b 1), .ref (tr 0), .ref (nw 0)]))], [(b 1, .inl (cy 2, 2, .inr (.inr (.inr (.inr ((slF o0 o1)))))))], textW cy t (nI z) f, pastW cy pa ct L, poolW cy L, searchW cy se (th 0) sc pf bf, hotelW cy th y0, hotelW cy tr u, hotelW cy nw x, slotW cy o0, slotW cy o1]) (va_runS (As := [.ref (tr 0), .int (nI g9)]) (rest := []) hF (c_X4_succeeds l D cy tr (hN z1) hOk.g.1 z1 hOk.g.2.1 g9 hgb H.size) (va_cwS 2 hts gX7_runScript_X4_succeeds rfl rfl rfl (by decide +kernel) ⟨Nat.le_of_ble_eq_true rfl, Nat.le_of_ble_eq_true rfl⟩) (wrX_preS hK hP hD (zz_pick1 [[(b 0, .inr (4, [.ref (t 0), .ref (pa 0), .ref (se 0), .ref (b 1), .ref (tr 0), .ref (nw 0)]))], [(b 1, .inl (cy 2, 2, .inr (.inr (.inr (.inr ((slF o0 o1)))))))], textW cy t (nI z) f, pastW cy pa ct L, poolW cy L, searchW cy se (th 0) sc pf bf, hotelW cy th y0, hotelW cy tr z1, hotelW cy nw x, slotW cy o0, slotW cy o1] 7 [0, 1, 2, 3, 4, 5, 6, 8, 9, 10] (show List.Perm ([7] ++ [0, 1, 2, 3, 4, 5, 6, 8, 9, 10]) (List.range 11) by decide) rfl rfl) Xok_s (fun U hU hW => Gs.at hX0 hS (zz_free hD (zz_pick1 [[(b 0, .inr (4, [.ref (t 0), .ref (pa 0), .ref (se 0), .ref (b 1), .ref (tr 0), .ref (nw 0)]))], [(b 1, .inl (cy 2, 2, .inr (.inr (.inr (.inr ((slF o0 o1)))))))], textW cy t (nI z) f, pastW cy pa ct L, poolW cy L, searchW cy se (th 0) sc pf bf, hotelW cy th y0, hotelW cy tr z1, hotelW cy nw x, slotW cy o0, slotW cy o1] 7 [0, 1, 2, 3, 4, 5, 6, 8, 9, 10] (show List.Perm ([7] ++ [0, 1, 2, 3, 4, 5, 6, 8, 9, 10]) (List.range 11) by decide) rfl rfl) hS hA) hU hW)) rfl rfl hl.1 rfl (lv_room (Nat.le_of_ble_eq_true rfl)) dX7_runScript_93 ⟨Nat.le_of_ble_eq_true rfl, Nat.le_of_ble_eq_true rfl⟩) hP hD hS hA (zz_pick1 [[(b 0, .inr (4, [.ref (t 0), .ref (pa 0), .ref (se 0), .ref (b 1), .ref (tr 0), .ref (nw 0)]))], [(b 1, .inl (cy 2, 2, .inr (.inr (.inr (.inr ((slF o0 o1)))))))], textW cy t (nI z) f, pastW cy pa ct L, poolW cy L, searchW cy se (th 0) sc pf bf, hotelW cy th y0, hotelW cy tr z1, hotelW cy nw x, slotW cy o0, slotW cy o1] 7 [0, 1, 2, 3, 4, 5, 6, 8, 9, 10] (show List.Perm ([7] ++ [0, 1, 2, 3, 4, 5, 6, 8, 9, 10]) (List.range 11) by decide) rfl rfl) (fun u => (zz_pick1 [[(b 0, .inr (4, [.ref (t 0), .ref (pa 0), .ref (se 0), .ref (b 1), .ref (tr 0), .ref (nw 0)]))], [(b 1, .inl (cy 2, 2, .inr (.inr (.inr (.inr ((slF o0 o1)))))))], textW cy t (nI z) f, pastW cy pa ct L, poolW cy L, searchW cy se (th 0) sc pf bf, hotelW cy th y0, hotelW cy tr u, hotelW cy nw x, slotW cy o0, slotW cy o1] 7 [0, 1, 2, 3, 4, 5, 6, 8, 9, 10] (show List.Perm ([7] ++ [0, 1, 2, 3, 4, 5, 6, 8, 9, 10]) (List.range 11) by decide) rfl rfl)) (fun r_8 u_9 H locs e_10 hP hD hS => ?_)
                obtain ⟨rfl, rfl⟩ := e_10
                have hP : va_P D vwCl (wj [[(b 0, .inr (4, [.ref (t 0), .ref (pa 0), .ref (se 0), .ref (b 1), .ref (tr 0), .ref (nw 0)]))], [(b 1, .inl (cy 2, 2, .inr (.inr (.inr (.inr ((slF o0 o1)))))))], textW cy t (nI z) f, pastW cy pa ct L, poolW cy L, searchW cy se (th 0) sc pf bf, hotelW cy th y0, hotelW cy tr (hScrU (hN z1) g9 z1), hotelW cy nw x, slotW cy o0, slotW cy o1]) H := hP
                have hD : va_D A (wj [[(b 0, .inr (4, [.ref (t 0), .ref (pa 0), .ref (se 0), .ref (b 1), .ref (tr 0), .ref (nw 0)]))], [(b 1, .inl (cy 2, 2, .inr (.inr (.inr (.inr ((slF o0 o1)))))))], textW cy t (nI z) f, pastW cy pa ct L, poolW cy L, searchW cy se (th 0) sc pf bf, hotelW cy th y0, hotelW cy tr (hScrU (hN z1) g9 z1), hotelW cy nw x, slotW cy o0, slotW cy o1]) := hD
                refine lv_if_ne (tgt := 102) hx hb dX7_runScript_96 (by decide) (fun c_11 => ?_) (fun c_11 => ?_)
                · have c_11 : ¬ (hScrR (hN z1) g9 z1) = 0 := c_11
                  refine lv_iinc (v := nI (i + 1)) (lv' := [(4, .int (nI (i + 1))), (5, .int (nI g9)), (0, .ref (b 0)), (1, .int (nI m3)), (2, .long (lN k9))]) hx hb dX7_runScript_102 hl (k := 1) rfl (nI_add (i) 1) (by decide) rfl (fun ls hl => ?_)
                  refine lv_goto (tgt := 62) hx hb dX7_runScript_105 (by decide) ?_
                  exact ih (i + 1) (hScrU (hN z1) g9 z1) (by omega) (by omega) (ok_scr hOk) (lpE_next (by omega) hv (run_n hg9 c_11)) _ _ _ hP hD hS (lv_sub hl [0, 2, 3, 4] rfl)
                · have c_11 : (hScrR (hN z1) g9 z1) = 0 := c_11
                  refine lv_iload hx hb dX7_runScript_99 (lv_at hl 1 rfl) ?_
                  exact W.widen (k := 1) (n := 6) (Nat.le_of_ble_eq_true rfl) (Nat.le_of_ble_eq_true rfl) (hret _ _ H locs _ ((z, f), (ct, L), ((sc, pf, bf), y0), (hScrU (hN z1) g9 z1), (nw, x), (o0, o1)) dX7_runScript_101 hP hD hS (⟨hK0, by rw [vRun, nI_clamp (show m3 < 2 ^ 31 by omega), lN_nat hk9]; exact lpE_ret (by omega) hv (run_r hg9 c_11), _, rfl⟩))
          exact loop (m3 + 1) 0 x (Nat.zero_le _) (by omega) hOkx rfl _ _ _ hP hD hS (lv_sub hl [0, 1, 2, 3] rfl)
        · have c_4 := fun q => c_4 ((lg_cmp_eq _ _).mpr q)
          rw [hQ]
          exact thr_A hx hb hl0 hown hX hS (hl.1.trans hml.symm) (hts (.classLink RX7 44 exA) (by decide +kernel)) (hts (.initialized exA) (by decide +kernel)) (fun w hw => hts w (hsub_A w hw)) 17 rfl dX7_runScript_38 dX7_runScript_41 dX7_runScript_42 dX7_runScript_44 dX7_runScript_47 hno (Nat.le_of_ble_eq_true rfl) (Nat.le_of_ble_eq_true rfl) (Nat.le_of_ble_eq_true rfl) (Nat.le_of_ble_eq_true rfl) hlocks (fun t _ h1 h2 => thX_of hP hD hS (k := 1) (rn_c hm1 hm3 hk9 c_4) (by decide) rfl h1 h2) hS.2.2 (Nat.le_of_ble_eq_true rfl) (Nat.le_of_ble_eq_true rfl)
    · have c_2 : ¬ v ≤ 3 := c_2
      rw [hQ]
      exact thr_A hx hb hl0 hown hX hS (hl.1.trans hml.symm) (hts (.classLink RX7 44 exA) (by decide +kernel)) (hts (.initialized exA) (by decide +kernel)) (fun w hw => hts w (hsub_A w hw)) 16 rfl dX7_runScript_10 dX7_runScript_13 dX7_runScript_14 dX7_runScript_16 dX7_runScript_19 hno (Nat.le_of_ble_eq_true rfl) (Nat.le_of_ble_eq_true rfl) (Nat.le_of_ble_eq_true rfl) (Nat.le_of_ble_eq_true rfl) hlocks (fun t _ h1 h2 => thX_of hP hD hS (k := 1) (if_neg (show ¬ inL v.toInt64 1 3 from in_hi (a := 1) (c := 3) c_2)) (by decide) rfl h1 h2) hS.2.2 (Nat.le_of_ble_eq_true rfl) (Nat.le_of_ble_eq_true rfl)
abbrev rm_X7_simulate : Room := { frames := 6, cells := 1, slots := 6, locals := 112 }
set_option maxHeartbeats 4000000 in
set_option maxRecDepth 100000 in
theorem c_X7_simulate (l : Launch) (D : va_G) (cy : Nat → ClassId) (hl0 : l.stackTraces = false) (b t pa se th tr nw : Nat → Nat) (z : Nat) (hz : z ≤ 120) (f : Nat → Int32) (ct : Nat) (L : List HQ) (hc1 : ct ≤ L.length) (hc2 : L.length ≤ 14) (sc : Int32) (pf bf : Nat → Int32) (y0 y1 x : HS) (o0 o1 : Option HQ) (n : Nat) (hn : n ≤ 4) (hg : x.1.1 = nI n) (hok : okX n x) (hOkx : OkH x) (seed : Int64) (v : Int32) (sz : Nat) : vx_Met l yX7_simulate wsX7_simulate rm_X7_simulate (wrX D cy [.ref (b 0), .long seed, .int v] (guestsW cy b t pa se th tr ((z, f), (ct, L), ((sc, pf, bf), y0), y1, (nw, x), (o0, o1))) sz (Gx (va_A (guestsW cy b t pa se th tr ((z, f), (ct, L), ((sc, pf, bf), y0), y1, (nw, x), (o0, o1))) sz))) (va_Qi (fun (r : Int32) (u : BS) => kSim v = 0 ∧ r = vSim x (lpN sSim v.toNatClampNeg 0 (seed, x)).2 ∧ ∃ y9, u = ((z, f), (ct, L), ((sc, pf, bf), y0), y9, (nw, x), (o0, o1))) (wrB D (va_A (guestsW cy b t pa se th tr ((z, f), (ct, L), ((sc, pf, bf), y0), y1, (nw, x), (o0, o1))) sz) (fun u => guestsW cy b t pa se th tr u)) (va_A (guestsW cy b t pa se th tr ((z, f), (ct, L), ((sc, pf, bf), y0), y1, (nw, x), (o0, o1))) sz)) (thX D (va_A (guestsW cy b t pa se th tr ((z, f), (ct, L), ((sc, pf, bf), y0), y1, (nw, x), (o0, o1))) sz) (guestsW cy b t pa se th tr ((z, f), (ct, L), ((sc, pf, bf), y0), y1, (nw, x), (o0, o1))) [exA] (kSim v)) 1 6 (va_A (guestsW cy b t pa se th tr ((z, f), (ct, L), ((sc, pf, bf), y0), y1, (nw, x), (o0, o1))) sz) := by
  refine MthI (cc := cX7_simulate) (maxL := 8) (ty := .int) (by decide) rfl (Nat.le_of_ble_eq_true rfl) (fun _ _ _ => rfl) ?_
  intro p e s m args below meth c Q ls A hAe hsz hQ hlocks hno hX0 hF hK hP hD hA hl hret
  rw [← hsz, ← hAe] at hX0
  have hX : Gx A s := hX0
  have hX0 : Gs A s := hX.1.1
  have hGn : Gn s := hX.1.2
  obtain ⟨hx, hb, hml, hown, hts⟩ := id hF
  have hown : s.vm.findClass RX7 = some m.cls := hown
  have hin_X7 : ∀ w ∈ u_ws RX7 TX7 6, w ∈ wsX7_simulate := by decide +kernel
  have hsub_A : ∀ w ∈ (vx_atS RX7 48 exA exN).filter goodWord, w ∈ wsX7_simulate := by decide +kernel
  have hl : lv_has ls 8 [(0, .ref (b 0)), (1, .long seed), (3, .int v)] := hl
  suffices key : ∀ (H : Heap) (locs : List Loc), va_P D vwCl (wj [[(b 0, .inr (4, [.ref (t 0), .ref (pa 0), .ref (se 0), .ref (b 1), .ref (tr 0), .ref (nw 0)]))], [(b 1, .inl (cy 2, 2, .inr (.inr (.inr (.inr ((slF o0 o1)))))))], textW cy t (nI z) f, pastW cy pa ct L, poolW cy L, searchW cy se (th 0) sc pf bf, hotelW cy th y0, hotelW cy tr y1, hotelW cy nw x, slotW cy o0, slotW cy o1]) H → va_D A (wj [[(b 0, .inr (4, [.ref (t 0), .ref (pa 0), .ref (se 0), .ref (b 1), .ref (tr 0), .ref (nw 0)]))], [(b 1, .inl (cy 2, 2, .inr (.inr (.inr (.inr ((slF o0 o1)))))))], textW cy t (nI z) f, pastW cy pa ct L, poolW cy L, searchW cy se (th 0) sc pf bf, hotelW cy th y0, hotelW cy tr y1, hotelW cy nw x, slotW cy o0, slotW cy o1]) → va_S A s.heap H locs → W p l e rm_X7_simulate s m args below meth c H locs 0 0 Q (F0 m 0 ls []) from key s.heap [] hP hD va_S.rf
  intro H locs hP hD hS
  refine lv_iload_n hx hb dX7_simulate_0 rfl (lv_at hl 2 rfl) ?_
  refine lv_iconst (v := 1) hx hb dX7_simulate_1 (by decide) ?_
  refine lv_icmp_lt (tgt := 11) hx hb dX7_simulate_2 (by decide) (fun c_1 => ?_) (fun c_1 => ?_)
  · have c_1 : v < 1 := c_1
    rw [hQ]
    exact thr_A hx hb hl0 hown hX hS (hl.1.trans hml.symm) (hts (.classLink RX7 44 exA) (by decide +kernel)) (hts (.initialized exA) (by decide +kernel)) (fun w hw => hts w (hsub_A w hw)) 18 rfl dX7_simulate_11 dX7_simulate_14 dX7_simulate_15 dX7_simulate_17 dX7_simulate_20 hno (Nat.le_of_ble_eq_true rfl) (Nat.le_of_ble_eq_true rfl) (Nat.le_of_ble_eq_true rfl) (Nat.le_of_ble_eq_true rfl) hlocks (fun t _ h1 h2 => thX_of hP hD hS (k := 1) (by simp only [kSim, if_neg (show ¬ inL v.toInt64 1 100 from in_lo (a := 1) (c := 100) c_1)]) (by decide) rfl h1 h2) hS.2.2 (Nat.le_of_ble_eq_true rfl) (Nat.le_of_ble_eq_true rfl)
  · have c_1 : ¬ v < 1 := c_1
    refine lv_iload_n hx hb dX7_simulate_5 rfl (lv_at hl 2 rfl) ?_
    refine lv_bipush (v := 100) hx hb dX7_simulate_6 (by decide) ?_
    refine lv_icmp_le (tgt := 21) hx hb dX7_simulate_8 (by decide) (fun c_2 => ?_) (fun c_2 => ?_)
    · have c_2 : v ≤ 100 := c_2
      have hin := in_ok (a := 1) (c := 100) c_1 c_2
      have hK0 : kSim v = 0 := if_pos hin
      obtain ⟨m9, hm1, hm9, rfl⟩ := inL_1 (k := 100) (by decide) rfl hin
      refine lv_aload_n hx hb dX7_simulate_21 rfl (lv_at hl 0 rfl) ?_
      refine va_get (ci := 4) (v := .ref (tr 0)) (C := RX7) (T := TX7) (N := 6) hx hb hts hin_X7 hown hK hP 0 rfl rfl 4 (by decide) (hts (.fieldLink RX7 37 "ButtonGuests" "trial" "LButtonGuests$Hotel;") (by decide +kernel)) (fun _ h9 => h9) rfl dX7_simulate_22 ?_
      refine lv_aload_n hx hb dX7_simulate_25 rfl (lv_at hl 0 rfl) ?_
      refine va_get (ci := 4) (v := .ref (nw 0)) (C := RX7) (T := TX7) (N := 6) hx hb hts hin_X7 hown hK hP 0 rfl rfl 5 (by decide) (hts (.fieldLink RX7 41 "ButtonGuests" "now" "LButtonGuests$Hotel;") (by decide +kernel)) (fun _ h9 => h9) rfl dX7_simulate_26 ?_
      refine wr_v (fun u => wj [[(b 0, .inr (4, [.ref (t 0), .ref (pa 0), .ref (se 0), .ref (b 1), .ref (tr 0), .ref (nw 0)]))], [(b 1, .inl (cy 2, 2, .inr (.inr (.inr (.inr ((slF o0 o1)))))))], textW cy t (nI z) f, pastW cy pa ct L, poolW cy L, searchW cy se (th 0) sc pf bf, hotelW cy th y0, hotelW cy tr u, hotelW cy nw x, slotW cy o0, slotW cy o1]) (va_runV (As := [.ref (nw 0)]) (rest := []) hF (c_X1_copyFrom l D cy tr nw y1 x H.size) (cwV 1 hts gX7_simulate_X1_copyFrom rfl rfl rfl (by decide +kernel) ⟨Nat.le_of_ble_eq_true rfl, Nat.le_of_ble_eq_true rfl⟩) (wr_preV hK hP hD (zz_pick2 [[(b 0, .inr (4, [.ref (t 0), .ref (pa 0), .ref (se 0), .ref (b 1), .ref (tr 0), .ref (nw 0)]))], [(b 1, .inl (cy 2, 2, .inr (.inr (.inr (.inr ((slF o0 o1)))))))], textW cy t (nI z) f, pastW cy pa ct L, poolW cy L, searchW cy se (th 0) sc pf bf, hotelW cy th y0, hotelW cy tr y1, hotelW cy nw x, slotW cy o0, slotW cy o1] 7 8 [0, 1, 2, 3, 4, 5, 6, 9, 10] (show List.Perm ([7, 8] ++ [0, 1, 2, 3, 4, 5, 6, 9, 10]) (List.range 11) by decide) rfl rfl rfl) 0 0 rfl rfl rfl) rfl rfl hl.1 rfl (lv_room (Nat.le_of_ble_eq_true rfl)) dX7_simulate_29 ⟨Nat.le_of_ble_eq_true rfl, Nat.le_of_ble_eq_true rfl⟩) hP hD hS hA (zz_pick2 [[(b 0, .inr (4, [.ref (t 0), .ref (pa 0), .ref (se 0), .ref (b 1), .ref (tr 0), .ref (nw 0)]))], [(b 1, .inl (cy 2, 2, .inr (.inr (.inr (.inr ((slF o0 o1)))))))], textW cy t (nI z) f, pastW cy pa ct L, poolW cy L, searchW cy se (th 0) sc pf bf, hotelW cy th y0, hotelW cy tr y1, hotelW cy nw x, slotW cy o0, slotW cy o1] 7 8 [0, 1, 2, 3, 4, 5, 6, 9, 10] (show List.Perm ([7, 8] ++ [0, 1, 2, 3, 4, 5, 6, 9, 10]) (List.range 11) by decide) rfl rfl rfl) (fun u => (zz_pick2 [[(b 0, .inr (4, [.ref (t 0), .ref (pa 0), .ref (se 0), .ref (b 1), .ref (tr 0), .ref (nw 0)]))], [(b 1, .inl (cy 2, 2, .inr (.inr (.inr (.inr ((slF o0 o1)))))))], textW cy t (nI z) f, pastW cy pa ct L, poolW cy L, searchW cy se (th 0) sc pf bf, hotelW cy th y0, hotelW cy tr u, hotelW cy nw x, slotW cy o0, slotW cy o1] 7 8 [0, 1, 2, 3, 4, 5, 6, 9, 10] (show List.Perm ([7, 8] ++ [0, 1, 2, 3, 4, 5, 6, 9, 10]) (List.range 11) by decide) rfl rfl rfl)) (fun u_3 H locs e_4 hP hD hS => ?_)
      obtain rfl : x = u_3 := e_4.symm
      have hP : va_P D vwCl (wj [[(b 0, .inr (4, [.ref (t 0), .ref (pa 0), .ref (se 0), .ref (b 1), .ref (tr 0), .ref (nw 0)]))], [(b 1, .inl (cy 2, 2, .inr (.inr (.inr (.inr ((slF o0 o1)))))))], textW cy t (nI z) f, pastW cy pa ct L, poolW cy L, searchW cy se (th 0) sc pf bf, hotelW cy th y0, hotelW cy tr x, hotelW cy nw x, slotW cy o0, slotW cy o1]) H := hP
      have hD : va_D A (wj [[(b 0, .inr (4, [.ref (t 0), .ref (pa 0), .ref (se 0), .ref (b 1), .ref (tr 0), .ref (nw 0)]))], [(b 1, .inl (cy 2, 2, .inr (.inr (.inr (.inr ((slF o0 o1)))))))], textW cy t (nI z) f, pastW cy pa ct L, poolW cy L, searchW cy se (th 0) sc pf bf, hotelW cy th y0, hotelW cy tr x, hotelW cy nw x, slotW cy o0, slotW cy o1]) := hD
      refine lv_lload_n hx hb dX7_simulate_32 rfl (lv_at hl 1 rfl) ?_
      refine lv_lstore (lv' := [(4, .long seed), (0, .ref (b 0)), (1, .long seed), (3, .int (nI m9))]) hx hb dX7_simulate_33 hl (by decide) rfl (fun ls hl => ?_)
      refine lv_iconst (v := 0) hx hb dX7_simulate_35 (by decide) ?_
      refine lv_istore (lv' := [(6, .int 0), (4, .long seed), (0, .ref (b 0)), (1, .long seed), (3, .int (nI m9))]) hx hb dX7_simulate_36 hl (by decide) rfl (fun ls hl => ?_)
      have loop : ∀ (k i : Nat) (sd : Int64) (z1 : HS), i ≤ m9 → m9 + 1 ≤ i + k → OkH z1 → lpN sSim (m9 - i) i (sd, z1) = lpN sSim m9 0 (seed, x) → ∀ (H : Heap) (locs : List Loc) (ls : Array Slot), va_P D vwCl (wj [[(b 0, .inr (4, [.ref (t 0), .ref (pa 0), .ref (se 0), .ref (b 1), .ref (tr 0), .ref (nw 0)]))], [(b 1, .inl (cy 2, 2, .inr (.inr (.inr (.inr ((slF o0 o1)))))))], textW cy t (nI z) f, pastW cy pa ct L, poolW cy L, searchW cy se (th 0) sc pf bf, hotelW cy th y0, hotelW cy tr z1, hotelW cy nw x, slotW cy o0, slotW cy o1]) H → va_D A (wj [[(b 0, .inr (4, [.ref (t 0), .ref (pa 0), .ref (se 0), .ref (b 1), .ref (tr 0), .ref (nw 0)]))], [(b 1, .inl (cy 2, 2, .inr (.inr (.inr (.inr ((slF o0 o1)))))))], textW cy t (nI z) f, pastW cy pa ct L, poolW cy L, searchW cy se (th 0) sc pf bf, hotelW cy th y0, hotelW cy tr z1, hotelW cy nw x, slotW cy o0, slotW cy o1]) → va_S A s.heap H locs → lv_has ls 8 [(6, .int (nI i)), (4, .long sd), (0, .ref (b 0)), (1, .long seed), (3, .int (nI m9))] → W p l e rm_X7_simulate s m args below meth c H locs 0 0 Q (F0 m 38 ls []) := by
        intro k
        induction k with
        | zero =>
          intro i sd z1 hi hk hOk hv
          exact absurd hk (by omega)
        | succ k ih =>
          intro i sd z1 hi hk hOk hv H locs ls hP hD hS hl
          refine lv_iload hx hb dX7_simulate_38 (lv_at hl 0 rfl) ?_
          refine lv_iload_n hx hb dX7_simulate_40 rfl (lv_at hl 4 rfl) ?_
          refine lv_icmp_ge (tgt := 75) hx hb dX7_simulate_41 (by decide) (fun c_5 => ?_) (fun c_5 => ?_)
          · have c_5 : m9 ≤ i := (nI_leI (a := m9) (b := i) (by omega) (by omega)).mp c_5
            refine lv_aload_n hx hb dX7_simulate_75 rfl (lv_at hl 2 rfl) ?_
            refine va_get (ci := 4) (v := .ref (tr 0)) (C := RX7) (T := TX7) (N := 6) hx hb hts hin_X7 hown hK hP 0 rfl rfl 4 (by decide) (hts (.fieldLink RX7 37 "ButtonGuests" "trial" "LButtonGuests$Hotel;") (by decide +kernel)) (fun _ h9 => h9) rfl dX7_simulate_76 ?_
            refine lv_bipush (v := 7) hx hb dX7_simulate_79 (by decide) ?_
            refine rd_V (As := [.int 7]) (rest := []) hF (c_X1_number l D cy tr (hN z1) hOk.g.1 z1 hOk.g.2.1 7) (cwV 1 hts gX7_simulate_X1_number rfl rfl rfl (by decide +kernel) ⟨Nat.le_of_ble_eq_true rfl, Nat.le_of_ble_eq_true rfl⟩) hK (zz_Pl (zz_Pp hP (zz_pick1 [[(b 0, .inr (4, [.ref (t 0), .ref (pa 0), .ref (se 0), .ref (b 1), .ref (tr 0), .ref (nw 0)]))], [(b 1, .inl (cy 2, 2, .inr (.inr (.inr (.inr ((slF o0 o1)))))))], textW cy t (nI z) f, pastW cy pa ct L, poolW cy L, searchW cy se (th 0) sc pf bf, hotelW cy th y0, hotelW cy tr z1, hotelW cy nw x, slotW cy o0, slotW cy o1] 7 [0, 1, 2, 3, 4, 5, 6, 8, 9, 10] (show List.Perm ([7] ++ [0, 1, 2, 3, 4, 5, 6, 8, 9, 10]) (List.range 11) by decide) rfl rfl))) 0 0 rfl rfl rfl rfl hl.1 rfl (Nat.le_of_ble_eq_true rfl) dX7_simulate_81 ⟨Nat.le_of_ble_eq_true rfl, Nat.le_of_ble_eq_true rfl⟩ ?_
            refine zz_top (y := z1.1.2.2.2.1) rfl ?_
            refine lv_aload_n hx hb dX7_simulate_84 rfl (lv_at hl 2 rfl) ?_
            refine va_get (ci := 4) (v := .ref (nw 0)) (C := RX7) (T := TX7) (N := 6) hx hb hts hin_X7 hown hK hP 0 rfl rfl 5 (by decide) (hts (.fieldLink RX7 41 "ButtonGuests" "now" "LButtonGuests$Hotel;") (by decide +kernel)) (fun _ h9 => h9) rfl dX7_simulate_85 ?_
            refine lv_bipush (v := 7) hx hb dX7_simulate_88 (by decide) ?_
            refine rd_V (As := [.int 7]) (rest := [.int z1.1.2.2.2.1]) hF (c_X1_number l D cy nw n hn x hg 7) (cwV 1 hts gX7_simulate_X1_number rfl rfl rfl (by decide +kernel) ⟨Nat.le_of_ble_eq_true rfl, Nat.le_of_ble_eq_true rfl⟩) hK (zz_Pl (zz_Pp hP (zz_pick1 [[(b 0, .inr (4, [.ref (t 0), .ref (pa 0), .ref (se 0), .ref (b 1), .ref (tr 0), .ref (nw 0)]))], [(b 1, .inl (cy 2, 2, .inr (.inr (.inr (.inr ((slF o0 o1)))))))], textW cy t (nI z) f, pastW cy pa ct L, poolW cy L, searchW cy se (th 0) sc pf bf, hotelW cy th y0, hotelW cy tr z1, hotelW cy nw x, slotW cy o0, slotW cy o1] 8 [0, 1, 2, 3, 4, 5, 6, 7, 9, 10] (show List.Perm ([8] ++ [0, 1, 2, 3, 4, 5, 6, 7, 9, 10]) (List.range 11) by decide) rfl rfl))) 0 0 rfl rfl rfl rfl hl.1 rfl (Nat.le_of_ble_eq_true rfl) dX7_simulate_90 ⟨Nat.le_of_ble_eq_true rfl, Nat.le_of_ble_eq_true rfl⟩ ?_
            refine zz_top (y := x.1.2.2.2.1) rfl ?_
            refine lv_isub hx hb dX7_simulate_93 ?_
            refine lv_istore (lv' := [(6, .int (z1.1.2.2.2.1 - x.1.2.2.2.1)), (4, .long sd), (0, .ref (b 0)), (1, .long seed), (3, .int (nI m9))]) hx hb dX7_simulate_94 hl (by decide) rfl (fun ls hl => ?_)
            refine lv_aload_n hx hb dX7_simulate_96 rfl (lv_at hl 2 rfl) ?_
            refine va_get (ci := 4) (v := .ref (tr 0)) (C := RX7) (T := TX7) (N := 6) hx hb hts hin_X7 hown hK hP 0 rfl rfl 4 (by decide) (hts (.fieldLink RX7 37 "ButtonGuests" "trial" "LButtonGuests$Hotel;") (by decide +kernel)) (fun _ h9 => h9) rfl dX7_simulate_97 ?_
            refine lv_bipush (v := 11) hx hb dX7_simulate_100 (by decide) ?_
            refine rd_V (As := [.int 11]) (rest := []) hF (c_X1_number l D cy tr (hN z1) hOk.g.1 z1 hOk.g.2.1 11) (cwV 1 hts gX7_simulate_X1_number rfl rfl rfl (by decide +kernel) ⟨Nat.le_of_ble_eq_true rfl, Nat.le_of_ble_eq_true rfl⟩) hK (zz_Pl (zz_Pp hP (zz_pick1 [[(b 0, .inr (4, [.ref (t 0), .ref (pa 0), .ref (se 0), .ref (b 1), .ref (tr 0), .ref (nw 0)]))], [(b 1, .inl (cy 2, 2, .inr (.inr (.inr (.inr ((slF o0 o1)))))))], textW cy t (nI z) f, pastW cy pa ct L, poolW cy L, searchW cy se (th 0) sc pf bf, hotelW cy th y0, hotelW cy tr z1, hotelW cy nw x, slotW cy o0, slotW cy o1] 7 [0, 1, 2, 3, 4, 5, 6, 8, 9, 10] (show List.Perm ([7] ++ [0, 1, 2, 3, 4, 5, 6, 8, 9, 10]) (List.range 11) by decide) rfl rfl))) 0 0 rfl rfl rfl rfl hl.1 rfl (Nat.le_of_ble_eq_true rfl) dX7_simulate_102 ⟨Nat.le_of_ble_eq_true rfl, Nat.le_of_ble_eq_true rfl⟩ ?_
            refine zz_top (y := z1.1.2.2.2.2.2.2) rfl ?_
            refine lv_aload_n hx hb dX7_simulate_105 rfl (lv_at hl 2 rfl) ?_
            refine va_get (ci := 4) (v := .ref (nw 0)) (C := RX7) (T := TX7) (N := 6) hx hb hts hin_X7 hown hK hP 0 rfl rfl 5 (by decide) (hts (.fieldLink RX7 41 "ButtonGuests" "now" "LButtonGuests$Hotel;") (by decide +kernel)) (fun _ h9 => h9) rfl dX7_simulate_106 ?_
            refine lv_bipush (v := 11) hx hb dX7_simulate_109 (by decide) ?_
            refine rd_V (As := [.int 11]) (rest := [.int z1.1.2.2.2.2.2.2]) hF (c_X1_number l D cy nw n hn x hg 11) (cwV 1 hts gX7_simulate_X1_number rfl rfl rfl (by decide +kernel) ⟨Nat.le_of_ble_eq_true rfl, Nat.le_of_ble_eq_true rfl⟩) hK (zz_Pl (zz_Pp hP (zz_pick1 [[(b 0, .inr (4, [.ref (t 0), .ref (pa 0), .ref (se 0), .ref (b 1), .ref (tr 0), .ref (nw 0)]))], [(b 1, .inl (cy 2, 2, .inr (.inr (.inr (.inr ((slF o0 o1)))))))], textW cy t (nI z) f, pastW cy pa ct L, poolW cy L, searchW cy se (th 0) sc pf bf, hotelW cy th y0, hotelW cy tr z1, hotelW cy nw x, slotW cy o0, slotW cy o1] 8 [0, 1, 2, 3, 4, 5, 6, 7, 9, 10] (show List.Perm ([8] ++ [0, 1, 2, 3, 4, 5, 6, 7, 9, 10]) (List.range 11) by decide) rfl rfl))) 0 0 rfl rfl rfl rfl hl.1 rfl (Nat.le_of_ble_eq_true rfl) dX7_simulate_111 ⟨Nat.le_of_ble_eq_true rfl, Nat.le_of_ble_eq_true rfl⟩ ?_
            refine zz_top (y := x.1.2.2.2.2.2.2) rfl ?_
            refine lv_isub hx hb dX7_simulate_114 ?_
            refine lv_istore (lv' := [(7, .int (z1.1.2.2.2.2.2.2 - x.1.2.2.2.2.2.2)), (6, .int (z1.1.2.2.2.1 - x.1.2.2.2.1)), (4, .long sd), (0, .ref (b 0)), (1, .long seed), (3, .int (nI m9))]) hx hb dX7_simulate_115 hl (by decide) rfl (fun ls hl => ?_)
            refine lv_sipush (v := 10000) hx hb dX7_simulate_117 (by decide) ?_
            refine lv_iload hx hb dX7_simulate_120 (lv_at hl 1 rfl) ?_
            refine lv_imul hx hb dX7_simulate_122 ?_
            refine lv_bipush (v := 100) hx hb dX7_simulate_123 (by decide) ?_
            refine lv_iload hx hb dX7_simulate_125 (lv_at hl 0 rfl) ?_
            refine lv_imul hx hb dX7_simulate_127 ?_
            refine lv_iadd hx hb dX7_simulate_128 ?_
            refine lv_aload_n hx hb dX7_simulate_129 rfl (lv_at hl 3 rfl) ?_
            refine va_get (ci := 4) (v := .ref (tr 0)) (C := RX7) (T := TX7) (N := 6) hx hb hts hin_X7 hown hK hP 0 rfl rfl 4 (by decide) (hts (.fieldLink RX7 37 "ButtonGuests" "trial" "LButtonGuests$Hotel;") (by decide +kernel)) (fun _ h9 => h9) rfl dX7_simulate_130 ?_
            refine rd_V (As := []) (rest := [.int ((10000 * (z1.1.2.2.2.1 - x.1.2.2.2.1)) + (100 * (z1.1.2.2.2.2.2.2 - x.1.2.2.2.2.2.2)))]) hF (c_X1_allGrudges l D cy tr (hN z1) hOk.g.1 z1 hOk.g.2.1) (cwV 0 hts gX7_simulate_X1_allGrudges rfl rfl rfl (by decide +kernel) ⟨Nat.le_of_ble_eq_true rfl, Nat.le_of_ble_eq_true rfl⟩) hK (zz_Pl (zz_Pp hP (zz_pick1 [[(b 0, .inr (4, [.ref (t 0), .ref (pa 0), .ref (se 0), .ref (b 1), .ref (tr 0), .ref (nw 0)]))], [(b 1, .inl (cy 2, 2, .inr (.inr (.inr (.inr ((slF o0 o1)))))))], textW cy t (nI z) f, pastW cy pa ct L, poolW cy L, searchW cy se (th 0) sc pf bf, hotelW cy th y0, hotelW cy tr z1, hotelW cy nw x, slotW cy o0, slotW cy o1] 7 [0, 1, 2, 3, 4, 5, 6, 8, 9, 10] (show List.Perm ([7] ++ [0, 1, 2, 3, 4, 5, 6, 8, 9, 10]) (List.range 11) by decide) rfl rfl))) 0 0 rfl rfl rfl rfl hl.1 rfl (Nat.le_of_ble_eq_true rfl) dX7_simulate_133 ⟨Nat.le_of_ble_eq_true rfl, Nat.le_of_ble_eq_true rfl⟩ ?_
            refine lv_iadd hx hb dX7_simulate_136 ?_
            exact W.widen (k := 1) (n := 6) (Nat.le_of_ble_eq_true rfl) (Nat.le_of_ble_eq_true rfl) (hret _ _ H locs _ ((z, f), (ct, L), ((sc, pf, bf), y0), z1, (nw, x), (o0, o1)) dX7_simulate_137 hP hD hS (⟨hK0, by rw [nI_clamp (show m9 < 2 ^ 31 by omega), ← lpN_end c_5 hv]; rfl, _, rfl⟩))
          · have c_5 : ¬ m9 ≤ i := fun q => c_5 ((nI_leI (a := m9) (b := i) (by omega) (by omega)).mpr q)
            refine lv_lload hx hb dX7_simulate_44 (lv_at hl 1 rfl) ?_
            refine lv_ldc2 (v := 6364136223846793005) hx hb hown (hts (.constantLong RX7 230 (6364136223846793005)) (by decide +kernel)) dX7_simulate_46 ?_
            refine lv_lmul hx hb dX7_simulate_49 ?_
            refine lv_ldc2 (v := 1442695040888963407) hx hb hown (hts (.constantLong RX7 232 (1442695040888963407)) (by decide +kernel)) dX7_simulate_50 ?_
            refine lv_ladd hx hb dX7_simulate_53 ?_
            refine zz_topL (y := sNx sd) rfl ?_
            refine lv_lstore (lv' := [(4, .long (sNx sd)), (6, .int (nI i)), (0, .ref (b 0)), (1, .long seed), (3, .int (nI m9))]) hx hb dX7_simulate_54 hl (by decide) rfl (fun ls hl => ?_)
            refine lv_aload_n hx hb dX7_simulate_56 rfl (lv_at hl 2 rfl) ?_
            refine va_get (ci := 4) (v := .ref (tr 0)) (C := RX7) (T := TX7) (N := 6) hx hb hts hin_X7 hown hK hP 0 rfl rfl 4 (by decide) (hts (.fieldLink RX7 37 "ButtonGuests" "trial" "LButtonGuests$Hotel;") (by decide +kernel)) (fun _ h9 => h9) rfl dX7_simulate_57 ?_
            refine lv_lload hx hb dX7_simulate_60 (lv_at hl 0 rfl) ?_
            refine lv_bipush (v := 33) hx hb dX7_simulate_62 (by decide) ?_
            refine lv_lushr (v := ((sNx sd).toUInt64 >>> ((33 : Int32).toInt64.toUInt64 &&& Int64.toUInt64 63)).toInt64) hx hb dX7_simulate_64 rfl ?_
            refine lv_l2i (v := Int64.toInt32 (((sNx sd).toUInt64 >>> ((33 : Int32).toInt64.toUInt64 &&& Int64.toUInt64 63)).toInt64)) hx hb dX7_simulate_65 rfl ?_
            refine zz_top (y := sBits (sNx sd)) rfl ?_
            refine wr_v (fun u => wj [[(b 0, .inr (4, [.ref (t 0), .ref (pa 0), .ref (se 0), .ref (b 1), .ref (tr 0), .ref (nw 0)]))], [(b 1, .inl (cy 2, 2, .inr (.inr (.inr (.inr ((slF o0 o1)))))))], textW cy t (nI z) f, pastW cy pa ct L, poolW cy L, searchW cy se (th 0) sc pf bf, hotelW cy th y0, hotelW cy tr u, hotelW cy nw x, slotW cy o0, slotW cy o1]) (va_runS (As := [.ref (tr 0), .int (sBits (sNx sd))]) (rest := []) hF (c_X6_take l D cy tr (hN z1) hOk.g.1 z1 hOk.g.2.1 (sBits (sNx sd)) H.size) (va_cwS 2 hts gX7_simulate_X6_take rfl rfl rfl (by decide +kernel) ⟨Nat.le_of_ble_eq_true rfl, Nat.le_of_ble_eq_true rfl⟩) (wrX_preS hK hP hD (zz_pick1 [[(b 0, .inr (4, [.ref (t 0), .ref (pa 0), .ref (se 0), .ref (b 1), .ref (tr 0), .ref (nw 0)]))], [(b 1, .inl (cy 2, 2, .inr (.inr (.inr (.inr ((slF o0 o1)))))))], textW cy t (nI z) f, pastW cy pa ct L, poolW cy L, searchW cy se (th 0) sc pf bf, hotelW cy th y0, hotelW cy tr z1, hotelW cy nw x, slotW cy o0, slotW cy o1] 7 [0, 1, 2, 3, 4, 5, 6, 8, 9, 10] (show List.Perm ([7] ++ [0, 1, 2, 3, 4, 5, 6, 8, 9, 10]) (List.range 11) by decide) rfl rfl) Xok_s (fun U hU hW => Gs.at hX0 hS (zz_free hD (zz_pick1 [[(b 0, .inr (4, [.ref (t 0), .ref (pa 0), .ref (se 0), .ref (b 1), .ref (tr 0), .ref (nw 0)]))], [(b 1, .inl (cy 2, 2, .inr (.inr (.inr (.inr ((slF o0 o1)))))))], textW cy t (nI z) f, pastW cy pa ct L, poolW cy L, searchW cy se (th 0) sc pf bf, hotelW cy th y0, hotelW cy tr z1, hotelW cy nw x, slotW cy o0, slotW cy o1] 7 [0, 1, 2, 3, 4, 5, 6, 8, 9, 10] (show List.Perm ([7] ++ [0, 1, 2, 3, 4, 5, 6, 8, 9, 10]) (List.range 11) by decide) rfl rfl) hS hA) hU hW)) rfl rfl hl.1 rfl (lv_room (Nat.le_of_ble_eq_true rfl)) dX7_simulate_66 ⟨Nat.le_of_ble_eq_true rfl, Nat.le_of_ble_eq_true rfl⟩) hP hD hS hA (zz_pick1 [[(b 0, .inr (4, [.ref (t 0), .ref (pa 0), .ref (se 0), .ref (b 1), .ref (tr 0), .ref (nw 0)]))], [(b 1, .inl (cy 2, 2, .inr (.inr (.inr (.inr ((slF o0 o1)))))))], textW cy t (nI z) f, pastW cy pa ct L, poolW cy L, searchW cy se (th 0) sc pf bf, hotelW cy th y0, hotelW cy tr z1, hotelW cy nw x, slotW cy o0, slotW cy o1] 7 [0, 1, 2, 3, 4, 5, 6, 8, 9, 10] (show List.Perm ([7] ++ [0, 1, 2, 3, 4, 5, 6, 8, 9, 10]) (List.range 11) by decide) rfl rfl) (fun u => (zz_pick1 [[(b 0, .inr (4, [.ref (t 0), .ref (pa 0), .ref (se 0), .ref (b 1), .ref (tr 0), .ref (nw 0)]))], [(b 1, .inl (cy 2, 2, .inr (.inr (.inr (.inr ((slF o0 o1)))))))], textW cy t (nI z) f, pastW cy pa ct L, poolW cy L, searchW cy se (th 0) sc pf bf, hotelW cy th y0, hotelW cy tr u, hotelW cy nw x, slotW cy o0, slotW cy o1] 7 [0, 1, 2, 3, 4, 5, 6, 8, 9, 10] (show List.Perm ([7] ++ [0, 1, 2, 3, 4, 5, 6, 8, 9, 10]) (List.range 11) by decide) rfl rfl)) (fun u_6 H locs e_7 hP hD hS => ?_)
            subst e_7
            have hP : va_P D vwCl (wj [[(b 0, .inr (4, [.ref (t 0), .ref (pa 0), .ref (se 0), .ref (b 1), .ref (tr 0), .ref (nw 0)]))], [(b 1, .inl (cy 2, 2, .inr (.inr (.inr (.inr ((slF o0 o1)))))))], textW cy t (nI z) f, pastW cy pa ct L, poolW cy L, searchW cy se (th 0) sc pf bf, hotelW cy th y0, hotelW cy tr (hTurn (hN z1) (sBits (sNx sd)) z1), hotelW cy nw x, slotW cy o0, slotW cy o1]) H := hP
            have hD : va_D A (wj [[(b 0, .inr (4, [.ref (t 0), .ref (pa 0), .ref (se 0), .ref (b 1), .ref (tr 0), .ref (nw 0)]))], [(b 1, .inl (cy 2, 2, .inr (.inr (.inr (.inr ((slF o0 o1)))))))], textW cy t (nI z) f, pastW cy pa ct L, poolW cy L, searchW cy se (th 0) sc pf bf, hotelW cy th y0, hotelW cy tr (hTurn (hN z1) (sBits (sNx sd)) z1), hotelW cy nw x, slotW cy o0, slotW cy o1]) := hD
            refine lv_iinc (v := nI (i + 1)) (lv' := [(6, .int (nI (i + 1))), (4, .long (sNx sd)), (0, .ref (b 0)), (1, .long seed), (3, .int (nI m9))]) hx hb dX7_simulate_69 hl (k := 1) rfl (nI_add (i) 1) (by decide) rfl (fun ls hl => ?_)
            refine lv_goto (tgt := 38) hx hb dX7_simulate_72 (by decide) ?_
            exact ih (i + 1) (sNx sd) (hTurn (hN z1) (sBits (sNx sd)) z1) (by omega) (by omega) (ok_turn hOk) (lpN_next (by omega) hv rfl) _ _ _ hP hD hS (lv_sub hl [0, 1, 2, 3, 4] rfl)
      exact loop (m9 + 1) 0 seed x (Nat.zero_le _) (by omega) hOkx rfl _ _ _ hP hD hS (lv_sub hl [0, 1, 2, 3, 4] rfl)
    · have c_2 : ¬ v ≤ 100 := c_2
      rw [hQ]
      exact thr_A hx hb hl0 hown hX hS (hl.1.trans hml.symm) (hts (.classLink RX7 44 exA) (by decide +kernel)) (hts (.initialized exA) (by decide +kernel)) (fun w hw => hts w (hsub_A w hw)) 18 rfl dX7_simulate_11 dX7_simulate_14 dX7_simulate_15 dX7_simulate_17 dX7_simulate_20 hno (Nat.le_of_ble_eq_true rfl) (Nat.le_of_ble_eq_true rfl) (Nat.le_of_ble_eq_true rfl) (Nat.le_of_ble_eq_true rfl) hlocks (fun t _ h1 h2 => thX_of hP hD hS (k := 1) (by simp only [kSim, if_neg (show ¬ inL v.toInt64 1 100 from in_hi (a := 1) (c := 100) c_2)]) (by decide) rfl h1 h2) hS.2.2 (Nat.le_of_ble_eq_true rfl) (Nat.le_of_ble_eq_true rfl)
