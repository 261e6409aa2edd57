/-! the search's cells; what it tells -/
abbrev searchW (cy : Nat → ClassId) (se : Nat → Nat) (t0 : Nat) (ct : Int32) (pf bf : Nat → Int32) : va_W := [(se 0, .inr (3, [.ref t0, .ref (se 1), .ref (se 2), .int ct])), (se 1, .inl (cy 0, 341, .inl pf)), (se 2, .inl (cy 0, 341, .inl bf))]
theorem bfs_nx {n : Nat} {x : HS} {ct : Nat} {pf bf : Nat → Int32} {dep : Nat → Nat} {ys : Nat → HS} {i g : Nat} (hn : n ≤ 4) (B : Bfs n x ct pf bf dep ys i g) (h1 : n ≤ g) (h2 : g ≤ n) (hi : i < ct) : Bfs n x ct pf bf dep ys (i + 1) 0 := by
  obtain rfl : g = n := by omega
  exact bfs_next hn B hi
theorem bfs_last {n : Nat} {x : HS} {ct : Nat} {pf bf : Nat → Int32} {dep : Nat → Nat} {ys : Nat → HS} {i g : Nat} (hn : n ≤ 4) (hx : okX n x) (B : Bfs n x ct pf bf dep ys i g) (h : ct ≤ i) : -1 = hFew n x := by
  obtain rfl : i = ct := by have := B.1.1; omega
  exact bfs_end hn hx B
theorem kNew_0 {pf bf : Nat → Int32} {v d : Int32} {u : Nat × (Nat → Int32) × (Nat → Int32)} (h : kNew 0 pf bf v d u) : u = (1, upd pf 0 v, upd bf 0 d) := by
  rcases h with ⟨⟨j, hj, -⟩, -⟩ | ⟨-, h⟩
  · exact absurd hj (Nat.not_lt_zero j)
  · exact h
theorem bfs_keep {n : Nat} {x : HS} {ct : Nat} {pf bf : Nat → Int32} {dep : Nat → Nat} {ys : Nat → HS} {i g d9 : Nat} {y : HS} {w : Nat × (Nat → Int32) × (Nat → Int32)} (hn : n ≤ 4) (B : Bfs n x ct pf bf dep ys i g) (hi : i < ct) (hg : g < n) (hde : dep i = d9) (hc : Co y (hGo n g (ys i))) (hr : hReas (ys i) (nI g) = 0) (hh : ¬ hHome n y) (hd : d9 < 4) (hk : kNew ct pf bf (hPos n y) (nI (d9 + 1)) w) :
    ∃ (dep2 : Nat → Nat) (ys2 : Nat → HS), Bfs n x w.1 w.2.1 w.2.2 dep2 ys2 i (g + 1) ∧ dep2 i = d9 ∧ i < w.1 := by
  subst hde
  have hh2 : ¬ hHome n (hGo n g (ys i)) := fun q => hh ((hHome_co hc).mpr q)
  rcases hk with ⟨⟨j, hj, ej⟩, rfl⟩ | ⟨-, h⟩
  · refine ⟨dep, ys, bfs_no B (fun _ _ => ⟨hh2, fun _ => ⟨j, hj, ?_⟩⟩), rfl, hi⟩
    show pf j = _
    rw [ej, Co_pos hc]
  · obtain ⟨h3, B2⟩ := bfs_new hn B hi hg hr hh2 hd
    rw [if_pos h3] at h
    subst h
    rw [Co_pos hc]
    exact ⟨_, _, B2, by unfold updN; rw [if_neg (by omega)], by omega⟩
/-- the first guest whose press begins a row of k presses more that brings all home -/
def sBest (n k : Nat) (x : HS) : Nat → Unit → Int32 ⊕ Unit := fun g _ => if hReas x (nI g) = 0 ∧ dfsB n k (hGo n g x) = true then .inl (nI g) else .inr ()
theorem sBest_no {n k g : Nat} {x : HS} (h : ¬ (hReas x (nI g) = 0 ∧ dfsB n k (hGo n g x) = true)) : sBest n k x g () = .inr () := if_neg h
theorem sBest_yes {n k g : Nat} {x : HS} (h1 : hReas x (nI g) = 0) (h2 : dfsB n k (hGo n g x) = true) : sBest n k x g () = .inl (nI g) := if_pos ⟨h1, h2⟩
def hBestK (n k : Nat) (x : HS) : Int32 := lpE (sBest n k x) (fun _ => -1) n 0 ()
def hBst (n : Nat) (x : HS) : Int32 := if 0 < hFew n x then hBestK n (hFew n x - 1).toNatClampNeg x else -1
theorem few_pos {n : Nat} {x : HS} (h : 0 < hFew n x) : ∃ m9 : Nat, m9 ≤ 4 ∧ hFew n x = nI (m9 + 1) ∧ hBst n x = hBestK n m9 x := by
  rcases few_cases n x with ⟨k, hk, e, -⟩ | ⟨e, -⟩
  · have h9 := h
    rw [e] at h9
    rcases Nat.eq_zero_or_pos k with q | q
    · subst q; exact absurd h9 (by decide)
    · obtain ⟨m, rfl⟩ : ∃ m, k = m + 1 := ⟨k - 1, by omega⟩
      refine ⟨m, by omega, e, ?_⟩
      unfold hBst
      rw [if_pos h, e, nI_pred, nI_clamp (by omega)]
  · rw [e] at h; exact absurd h (by decide)
abbrev rm_X5_keepIfNew : Room := { frames := 0, cells := 0, slots := 0, locals := 0 }
set_option maxHeartbeats 4000000 in
set_option maxRecDepth 100000 in
theorem c_X5_keepIfNew (l : Launch) (D : va_G) (cy : Nat → ClassId) (se th : Nat → Nat) (ct : Nat) (hct : ct ≤ 341) (pf bf : Nat → Int32) (v d : Int32) (sz : Nat) : Met l yX5_keepIfNew wsX5_keepIfNew rm_X5_keepIfNew (wrP D cy [.ref (se 0), .int v, .int d] (searchW cy se (th 0) (nI ct) pf bf) sz) (va_Qv (fun u : Nat × (Nat → Int32) × (Nat → Int32) => kNew ct pf bf v d u) (wrB D (va_A (searchW cy se (th 0) (nI ct) pf bf) sz) (fun u => searchW cy se (th 0) (nI u.1) u.2.1 u.2.2)) (va_A (searchW cy se (th 0) (nI ct) pf bf) sz)) 0 0 (va_A (searchW cy se (th 0) (nI ct) pf bf) sz) := by
  refine Mwv (cc := cX5_keepIfNew) (maxL := 4) (by decide) rfl (Nat.le_of_ble_eq_true rfl) ?_
  intro p e s m args below meth c Q ls A hsz hinit hF hK hP hD hA hl hret
  obtain ⟨hx, hb, hml, hown, hts⟩ := id hF
  have hown : s.vm.findClass RX5 = some m.cls := hown
  have hin_X5 : ∀ w ∈ u_ws RX5 TX5 4, w ∈ wsX5_keepIfNew := by decide +kernel
  have hl : lv_has ls 4 [(0, .ref (se 0)), (1, .int v), (2, .int d)] := hl
  suffices key : ∀ (H : Heap) (locs : List Loc), va_P D vwCl (searchW cy se (th 0) (nI ct) pf bf) H → va_D A (searchW cy se (th 0) (nI ct) pf bf) → va_S A s.heap H locs → W p l e rm_X5_keepIfNew s m args below meth c H locs 0 0 Q (F0 m 0 ls []) from key s.heap [] hP hD va_S.rf
  intro H locs hP hD hS
  refine lv_iconst (v := 0) hx hb dX5_keepIfNew_0 (by decide) ?_
  refine lv_istore_n (lv' := [(3, .int 0), (0, .ref (se 0)), (1, .int v), (2, .int d)]) hx hb dX5_keepIfNew_1 rfl hl (by decide) rfl (fun ls hl => ?_)
  have loop : ∀ (k i : Nat), i ≤ ct → ct + 1 ≤ i + k → (∀ j, j < i → ¬ pf j = v) → ∀ (H : Heap) (locs : List Loc) (ls : Array Slot), va_P D vwCl (searchW cy se (th 0) (nI ct) pf bf) H → va_D A (searchW cy se (th 0) (nI ct) pf bf) → va_S A s.heap H locs → lv_has ls 4 [(3, .int (nI i)), (0, .ref (se 0)), (1, .int v), (2, .int d)] → W p l e rm_X5_keepIfNew s m args below meth c H locs 0 0 Q (F0 m 2 ls []) := by
    intro k
    induction k with
    | zero =>
      intro i hi hk hno
      exact absurd hk (by omega)
    | succ k ih =>
      intro i hi hk hno H locs ls hP hD hS hl
      refine lv_iload_n hx hb dX5_keepIfNew_2 rfl (lv_at hl 0 rfl) ?_
      refine lv_aload_n hx hb dX5_keepIfNew_3 rfl (lv_at hl 1 rfl) ?_
      refine va_get (ci := 3) (v := .int (nI ct)) (C := RX5) (T := TX5) (N := 4) hx hb hts hin_X5 hown hK hP 0 rfl rfl 3 (by decide) (hts (.fieldLink RX5 52 "ButtonGuests$Search" "count" "I") (by decide +kernel)) (fun _ h9 => h9) rfl dX5_keepIfNew_4 ?_
      refine lv_icmp_ge (tgt := 34) hx hb dX5_keepIfNew_7 (by decide) (fun c_1 => ?_) (fun c_1 => ?_)
      · have c_1 : ct ≤ i := (nI_leI (a := ct) (b := i) (by omega) (by omega)).mp c_1
        refine lv_aload_n hx hb dX5_keepIfNew_34 rfl (lv_at hl 1 rfl) ?_
        refine va_get (ci := 3) (v := .int (nI ct)) (C := RX5) (T := TX5) (N := 4) hx hb hts hin_X5 hown hK hP 0 rfl rfl 3 (by decide) (hts (.fieldLink RX5 52 "ButtonGuests$Search" "count" "I") (by decide +kernel)) (fun _ h9 => h9) rfl dX5_keepIfNew_35 ?_
        refine lv_sipush (v := 341) hx hb dX5_keepIfNew_38 (by decide) ?_
        refine lv_icmp_ge (tgt := 74) hx hb dX5_keepIfNew_41 (by decide) (fun c_2 => ?_) (fun c_2 => ?_)
        · have c_2 : 341 ≤ ct := (nI_leI (a := 341) (b := ct) (by omega) (by omega)).mp c_2
          exact hret _ _ H locs (ct, pf, bf) dX5_keepIfNew_74 hP hD hS (Or.inr ⟨fun j hj => hno j (by omega), by rw [if_neg (by omega)]⟩)
        · have c_2 : ¬ 341 ≤ ct := fun q => c_2 ((nI_leI (a := 341) (b := ct) (by omega) (by omega)).mpr q)
          refine lv_aload_n hx hb dX5_keepIfNew_44 rfl (lv_at hl 1 rfl) ?_
          refine va_get (ci := 3) (v := .ref (se 1)) (C := RX5) (T := TX5) (N := 4) hx hb hts hin_X5 hown hK hP 0 rfl rfl 1 (by decide) (hts (.fieldLink RX5 18 "ButtonGuests$Search" "positions" "[I") (by decide +kernel)) (fun _ h9 => h9) rfl dX5_keepIfNew_45 ?_
          refine lv_aload_n hx hb dX5_keepIfNew_48 rfl (lv_at hl 1 rfl) ?_
          refine va_get (ci := 3) (v := .int (nI ct)) (C := RX5) (T := TX5) (N := 4) hx hb hts hin_X5 hown hK hP 0 rfl rfl 3 (by decide) (hts (.fieldLink RX5 52 "ButtonGuests$Search" "count" "I") (by decide +kernel)) (fun _ h9 => h9) rfl dX5_keepIfNew_49 ?_
          refine lv_iload_n hx hb dX5_keepIfNew_52 rfl (lv_at hl 2 rfl) ?_
          refine zz_iast hx hb hK hP hD hS 1 0 ct rfl rfl rfl ⟨by omega, Nat.le_of_ble_eq_true rfl⟩ dX5_keepIfNew_53 (fun H locs hP hD hS => ?_)
          have hP : va_P D vwCl (searchW cy se (th 0) (nI ct) ((upd pf ct v)) bf) H := hP
          have hD : va_D A (searchW cy se (th 0) (nI ct) ((upd pf ct v)) bf) := hD
          refine lv_aload_n hx hb dX5_keepIfNew_54 rfl (lv_at hl 1 rfl) ?_
          refine va_get (ci := 3) (v := .ref (se 2)) (C := RX5) (T := TX5) (N := 4) hx hb hts hin_X5 hown hK hP 0 rfl rfl 2 (by decide) (hts (.fieldLink RX5 22 "ButtonGuests$Search" "behind" "[I") (by decide +kernel)) (fun _ h9 => h9) rfl dX5_keepIfNew_55 ?_
          refine lv_aload_n hx hb dX5_keepIfNew_58 rfl (lv_at hl 1 rfl) ?_
          refine va_get (ci := 3) (v := .int (nI ct)) (C := RX5) (T := TX5) (N := 4) hx hb hts hin_X5 hown hK hP 0 rfl rfl 3 (by decide) (hts (.fieldLink RX5 52 "ButtonGuests$Search" "count" "I") (by decide +kernel)) (fun _ h9 => h9) rfl dX5_keepIfNew_59 ?_
          refine lv_iload_n hx hb dX5_keepIfNew_62 rfl (lv_at hl 3 rfl) ?_
          refine zz_iast hx hb hK hP hD hS 2 0 ct rfl rfl rfl ⟨by omega, Nat.le_of_ble_eq_true rfl⟩ dX5_keepIfNew_63 (fun H locs hP hD hS => ?_)
          have hP : va_P D vwCl (searchW cy se (th 0) (nI ct) ((upd pf ct v)) ((upd bf ct d))) H := hP
          have hD : va_D A (searchW cy se (th 0) (nI ct) ((upd pf ct v)) ((upd bf ct d))) := hD
          refine lv_aload_n hx hb dX5_keepIfNew_64 rfl (lv_at hl 1 rfl) ?_
          refine lv_dup hx hb dX5_keepIfNew_65 rfl ?_
          refine va_get (ci := 3) (v := .int (nI ct)) (C := RX5) (T := TX5) (N := 4) hx hb hts hin_X5 hown hK hP 0 rfl rfl 3 (by decide) (hts (.fieldLink RX5 52 "ButtonGuests$Search" "count" "I") (by decide +kernel)) (fun _ h9 => h9) rfl dX5_keepIfNew_66 ?_
          refine lv_iconst (v := 1) hx hb dX5_keepIfNew_69 (by decide) ?_
          refine lv_iadd hx hb dX5_keepIfNew_70 ?_
          refine zz_top (y := nI (ct + 1)) (nI_1 ct) ?_
          refine va_put (ci := 3) (v := .int (nI (ct + 1))) (ty := .int) (C := RX5) (T := TX5) (N := 4) hx hb hts hin_X5 tyX5 tyX5_ok nmX5 hown hK hP hD hS 0 rfl rfl 3 (by decide) (hts (.fieldLink RX5 52 "ButtonGuests$Search" "count" "I") (by decide +kernel)) (fun _ h9 => h9) rfl (by decide +kernel) rfl rfl (Nat.le_of_ble_eq_true rfl) dX5_keepIfNew_71 (fun H locs hP hD hS => ?_)
          have hP : va_P D vwCl (searchW cy se (th 0) (nI (ct + 1)) ((upd pf ct v)) ((upd bf ct d))) H := hP
          have hD : va_D A (searchW cy se (th 0) (nI (ct + 1)) ((upd pf ct v)) ((upd bf ct d))) := hD
          exact hret _ _ H locs (ct + 1, (upd pf ct v), (upd bf ct d)) dX5_keepIfNew_74 hP hD hS (Or.inr ⟨fun j hj => hno j (by omega), by rw [if_pos (by omega)]⟩)
      · have c_1 : ¬ ct ≤ i := fun q => c_1 ((nI_leI (a := ct) (b := i) (by omega) (by omega)).mpr q)
        refine lv_iload_n hx hb dX5_keepIfNew_10 rfl (lv_at hl 0 rfl) ?_
        refine lv_sipush (v := 341) hx hb dX5_keepIfNew_11 (by decide) ?_
        refine lv_icmp_ge (tgt := 34) hx hb dX5_keepIfNew_14 (by decide) (fun c_3 => ?_) (fun c_3 => ?_)
        · have c_3 : 341 ≤ i := (nI_leI (a := 341) (b := i) (by omega) (by omega)).mp c_3
          exact absurd c_3 (by omega)
        · have c_3 : ¬ 341 ≤ i := fun q => c_3 ((nI_leI (a := 341) (b := i) (by omega) (by omega)).mpr q)
          refine lv_aload_n hx hb dX5_keepIfNew_17 rfl (lv_at hl 1 rfl) ?_
          refine va_get (ci := 3) (v := .ref (se 1)) (C := RX5) (T := TX5) (N := 4) hx hb hts hin_X5 hown hK hP 0 rfl rfl 1 (by decide) (hts (.fieldLink RX5 18 "ButtonGuests$Search" "positions" "[I") (by decide +kernel)) (fun _ h9 => h9) rfl dX5_keepIfNew_18 ?_
          refine lv_iload_n hx hb dX5_keepIfNew_21 rfl (lv_at hl 0 rfl) ?_
          refine zz_iald hx hb hK hP 1 0 i rfl rfl rfl ⟨by omega, Nat.le_of_ble_eq_true rfl⟩ dX5_keepIfNew_22 ?_
          refine lv_iload_n hx hb dX5_keepIfNew_23 rfl (lv_at hl 2 rfl) ?_
          refine lv_icmp_ne (tgt := 28) hx hb dX5_keepIfNew_24 (by decide) (fun c_4 => ?_) (fun c_4 => ?_)
          · have c_4 : ¬ (pf i) = v := c_4
            refine lv_iinc (v := nI (i + 1)) (lv' := [(3, .int (nI (i + 1))), (0, .ref (se 0)), (1, .int v), (2, .int d)]) hx hb dX5_keepIfNew_28 hl (k := 0) rfl (nI_add (i) 1) (by decide) rfl (fun ls hl => ?_)
            refine lv_goto (tgt := 2) hx hb dX5_keepIfNew_31 (by decide) ?_
            exact ih (i + 1) (by omega) (by omega) (lt_s hno c_4) _ _ _ hP hD hS (lv_sub hl [0, 1, 2, 3] rfl)
          · have c_4 : (pf i) = v := c_4
            exact hret _ _ H locs (ct, pf, bf) dX5_keepIfNew_27 hP hD hS (Or.inl ⟨⟨i, by omega, c_4⟩, rfl⟩)
  exact loop (ct + 1) 0 (Nat.zero_le _) (by omega) lt_0 _ _ _ hP hD hS (lv_sub hl [0, 1, 2, 3] rfl)
abbrev rm_X5_fewestByRows : Room := { frames := 10, cells := 0, slots := 0, locals := 227 }
set_option maxHeartbeats 4000000 in
set_option maxRecDepth 100000 in
theorem c_X5_fewestByRows (l : Launch) (D : va_G) (cy : Nat → ClassId) (se th h : Nat → Nat) (sc : Int32) (pf bf : Nat → Int32) (y0 x : HS) (n : Nat) (hn : n ≤ 4) (hg : x.1.1 = nI n) (hok : okX n x) (sz : Nat) : Met l yX5_fewestByRows wsX5_fewestByRows rm_X5_fewestByRows (wrP D cy [.ref (se 0), .ref (h 0)] (wj [searchW cy se (th 0) sc pf bf, hotelW cy th y0, hotelW cy h x]) sz) (va_Qi (fun (r : Int32) (u : HS) => r = hFew n x) (wrB D (va_A (wj [searchW cy se (th 0) sc pf bf, hotelW cy th y0, hotelW cy h x]) sz) (fun u => wj [searchW cy se (th 0) sc pf bf, hotelW cy th u, hotelW cy h x])) (va_A (wj [searchW cy se (th 0) sc pf bf, hotelW cy th y0, hotelW cy h x]) sz)) 0 0 (va_A (wj [searchW cy se (th 0) sc pf bf, hotelW cy th y0, hotelW cy h x]) sz) := by
  refine Mwi (cc := cX5_fewestByRows) (maxL := 4) (ty := .int) (by decide) rfl (Nat.le_of_ble_eq_true rfl) (fun _ _ _ => rfl) ?_
  intro p e s m args below meth c Q ls A hsz hF hK hP hD hA hl hret
  obtain ⟨hx, hb, hml, hown, hts⟩ := id hF
  have hown : s.vm.findClass RX5 = some m.cls := hown
  have hin_X5 : ∀ w ∈ u_ws RX5 TX5 4, w ∈ wsX5_fewestByRows := by decide +kernel
  have hl : lv_has ls 4 [(0, .ref (se 0)), (1, .ref (h 0))] := hl
  suffices key : ∀ (H : Heap) (locs : List Loc), va_P D vwCl (wj [searchW cy se (th 0) sc pf bf, hotelW cy th y0, hotelW cy h x]) H → va_D A (wj [searchW cy se (th 0) sc pf bf, hotelW cy th y0, hotelW cy h x]) → va_S A s.heap H locs → W p l e rm_X5_fewestByRows s m args below meth c H locs 0 0 Q (F0 m 0 ls []) from key s.heap [] hP hD va_S.rf
  intro H locs hP hD hS
  refine lv_aload_n hx hb dX5_fewestByRows_0 rfl (lv_at hl 0 rfl) ?_
  refine va_get (ci := 3) (v := .ref (th 0)) (C := RX5) (T := TX5) (N := 4) hx hb hts hin_X5 hown hK hP 0 rfl rfl 0 (by decide) (hts (.fieldLink RX5 12 "ButtonGuests$Search" "trial" "LButtonGuests$Hotel;") (by decide +kernel)) (fun _ h9 => h9) rfl dX5_fewestByRows_1 ?_
  refine lv_aload_n hx hb dX5_fewestByRows_4 rfl (lv_at hl 1 rfl) ?_
  refine wr_v (fun u => wj [searchW cy se (th 0) sc pf bf, hotelW cy th u, hotelW cy h x]) (va_runV (As := [.ref (h 0)]) (rest := []) hF (c_X1_copyFrom l D cy th h y0 x H.size) (cwV 1 hts gX5_fewestByRows_X1_copyFrom rfl rfl rfl (by decide +kernel) ⟨Nat.le_of_ble_eq_true rfl, Nat.le_of_ble_eq_true rfl⟩) (wr_preV hK hP hD (zz_pick2 [searchW cy se (th 0) sc pf bf, hotelW cy th y0, hotelW cy h x] 1 2 [0] (show List.Perm ([1, 2] ++ [0]) (List.range 3) by decide) rfl rfl rfl) 0 0 rfl rfl rfl) rfl rfl hl.1 rfl (lv_room (Nat.le_of_ble_eq_true rfl)) dX5_fewestByRows_5 ⟨Nat.le_of_ble_eq_true rfl, Nat.le_of_ble_eq_true rfl⟩) hP hD hS hA (zz_pick2 [searchW cy se (th 0) sc pf bf, hotelW cy th y0, hotelW cy h x] 1 2 [0] (show List.Perm ([1, 2] ++ [0]) (List.range 3) by decide) rfl rfl rfl) (fun u => (zz_pick2 [searchW cy se (th 0) sc pf bf, hotelW cy th u, hotelW cy h x] 1 2 [0] (show List.Perm ([1, 2] ++ [0]) (List.range 3) by decide) rfl rfl rfl)) (fun u_1 H locs e_2 hP hD hS => ?_)
  obtain rfl : x = u_1 := e_2.symm
  have hP : va_P D vwCl (wj [searchW cy se (th 0) sc pf bf, hotelW cy th x, hotelW cy h x]) H := hP
  have hD : va_D A (wj [searchW cy se (th 0) sc pf bf, hotelW cy th x, hotelW cy h x]) := hD
  refine lv_aload_n hx hb dX5_fewestByRows_8 rfl (lv_at hl 0 rfl) ?_
  refine va_get (ci := 3) (v := .ref (th 0)) (C := RX5) (T := TX5) (N := 4) hx hb hts hin_X5 hown hK hP 0 rfl rfl 0 (by decide) (hts (.fieldLink RX5 12 "ButtonGuests$Search" "trial" "LButtonGuests$Hotel;") (by decide +kernel)) (fun _ h9 => h9) rfl dX5_fewestByRows_9 ?_
  refine rd_V (As := []) (rest := []) hF (c_X1_position l D cy th n hn x hg ) (cwV 0 hts gX5_fewestByRows_X1_position rfl rfl rfl (by decide +kernel) ⟨Nat.le_of_ble_eq_true rfl, Nat.le_of_ble_eq_true rfl⟩) hK (hP.sub [3, 4, 5, 6, 7, 8, 9, 10, 11, 12] rfl) 0 0 rfl rfl rfl rfl hl.1 rfl (Nat.le_of_ble_eq_true rfl) dX5_fewestByRows_12 ⟨Nat.le_of_ble_eq_true rfl, Nat.le_of_ble_eq_true rfl⟩ ?_
  refine lv_istore_n (lv' := [(2, .int (hPos n x)), (0, .ref (se 0)), (1, .ref (h 0))]) hx hb dX5_fewestByRows_15 rfl hl (by decide) rfl (fun ls hl => ?_)
  refine lv_iconst (v := 0) hx hb dX5_fewestByRows_16 (by decide) ?_
  refine lv_istore_n (lv' := [(3, .int 0), (2, .int (hPos n x)), (0, .ref (se 0)), (1, .ref (h 0))]) hx hb dX5_fewestByRows_17 rfl hl (by decide) rfl (fun ls hl => ?_)
  have loop : ∀ (k i : Nat) (y : HS), i ≤ 6 → 7 ≤ i + k → y.1.1 = nI n → Fr n x y → (∀ j, j < i → ¬ dfsB n j x = true) → ∀ (H : Heap) (locs : List Loc) (ls : Array Slot), va_P D vwCl (wj [searchW cy se (th 0) sc pf bf, hotelW cy th y, hotelW cy h x]) H → va_D A (wj [searchW cy se (th 0) sc pf bf, hotelW cy th y, hotelW cy h x]) → va_S A s.heap H locs → lv_has ls 4 [(3, .int (nI i)), (2, .int (hPos n x)), (0, .ref (se 0)), (1, .ref (h 0))] → W p l e rm_X5_fewestByRows s m args below meth c H locs 0 0 Q (F0 m 18 ls []) := by
    intro k
    induction k with
    | zero =>
      intro i y hi hk hgy hfy hno
      exact absurd hk (by omega)
    | succ k ih =>
      intro i y hi hk hgy hfy hno H locs ls hP hD hS hl
      refine lv_iload_n hx hb dX5_fewestByRows_18 rfl (lv_at hl 0 rfl) ?_
      refine lv_iconst (v := 5) hx hb dX5_fewestByRows_19 (by decide) ?_
      refine lv_icmp_gt (tgt := 43) hx hb dX5_fewestByRows_20 (by decide) (fun c_3 => ?_) (fun c_3 => ?_)
      · have c_3 : 5 < i := (nI_ltI (a := 5) (b := i) (by omega) (by omega)).mp c_3
        refine lv_iconst (v := (-1)) hx hb dX5_fewestByRows_43 (by decide) ?_
        exact hret _ _ H locs _ y dX5_fewestByRows_44 hP hD hS (few_no (fun j hj => hno j (by omega)))
      · have c_3 : ¬ 5 < i := fun q => c_3 ((nI_ltI (a := 5) (b := i) (by omega) (by omega)).mpr q)
        refine lv_aload_n hx hb dX5_fewestByRows_23 rfl (lv_at hl 2 rfl) ?_
        refine va_get (ci := 3) (v := .ref (th 0)) (C := RX5) (T := TX5) (N := 4) hx hb hts hin_X5 hown hK hP 0 rfl rfl 0 (by decide) (hts (.fieldLink RX5 12 "ButtonGuests$Search" "trial" "LButtonGuests$Hotel;") (by decide +kernel)) (fun _ h9 => h9) rfl dX5_fewestByRows_24 ?_
        refine lv_iload_n hx hb dX5_fewestByRows_27 rfl (lv_at hl 1 rfl) ?_
        refine lv_iload_n hx hb dX5_fewestByRows_28 rfl (lv_at hl 0 rfl) ?_
        refine wr_i (fun u => wj [searchW cy se (th 0) sc pf bf, hotelW cy th u, hotelW cy h x]) (va_runS (As := [.ref (th 0), .int (hPos n x), .int (nI i)]) (rest := []) hF (c_X5_aRowBringsAllHome l D cy th n hn i (by omega) y x hgy hfy hok H.size) (va_cwS 3 hts gX5_fewestByRows_X5_aRowBringsAllHome rfl rfl rfl (by decide +kernel) ⟨(by simp only [rm_X5_aRowBringsAllHome, rm_X5_fewestByRows]; omega), (by simp only [rm_X5_aRowBringsAllHome, rm_X5_fewestByRows]; omega)⟩) (wr_preS hK hP hD (zz_pick1 [searchW cy se (th 0) sc pf bf, hotelW cy th y, hotelW cy h x] 1 [0, 2] (show List.Perm ([1] ++ [0, 2]) (List.range 3) by decide) rfl rfl)) rfl rfl hl.1 rfl (lv_room (Nat.le_of_ble_eq_true rfl)) dX5_fewestByRows_29 ⟨Nat.le_of_ble_eq_true rfl, Nat.le_of_ble_eq_true rfl⟩) hP hD hS hA (zz_pick1 [searchW cy se (th 0) sc pf bf, hotelW cy th y, hotelW cy h x] 1 [0, 2] (show List.Perm ([1] ++ [0, 2]) (List.range 3) by decide) rfl rfl) (fun u => (zz_pick1 [searchW cy se (th 0) sc pf bf, hotelW cy th u, hotelW cy h x] 1 [0, 2] (show List.Perm ([1] ++ [0, 2]) (List.range 3) by decide) rfl rfl)) (fun r_4 u_5 H locs e_6 hP hD hS => ?_)
        obtain ⟨rfl, e_6⟩ := e_6
        have hP : va_P D vwCl (wj [searchW cy se (th 0) sc pf bf, hotelW cy th u_5, hotelW cy h x]) H := hP
        have hD : va_D A (wj [searchW cy se (th 0) sc pf bf, hotelW cy th u_5, hotelW cy h x]) := hD
        refine lv_if_eq (tgt := 37) hx hb dX5_fewestByRows_32 (by decide) (fun c_7 => ?_) (fun c_7 => ?_)
        · have c_7 := zb_eq.mp c_7
          refine lv_iinc (v := nI (i + 1)) (lv' := [(3, .int (nI (i + 1))), (2, .int (hPos n x)), (0, .ref (se 0)), (1, .ref (h 0))]) hx hb dX5_fewestByRows_37 hl (k := 0) rfl (nI_add (i) 1) (by decide) rfl (fun ls hl => ?_)
          refine lv_goto (tgt := 18) hx hb dX5_fewestByRows_40 (by decide) ?_
          exact ih (i + 1) u_5 (by omega) (by omega) (e_6.1.symm.trans hgy) (hfy.tr e_6) (lt_s hno c_7) _ _ _ hP hD hS (lv_sub hl [0, 1, 2, 3] rfl)
        · have c_7 := zb_ne.mp c_7
          refine lv_iload_n hx hb dX5_fewestByRows_35 rfl (lv_at hl 0 rfl) ?_
          exact hret _ _ H locs _ u_5 dX5_fewestByRows_36 hP hD hS (few_yes (by omega) c_7 hno)
  exact loop 7 0 _ (by omega) (by omega) hg Fr.rf lt_0 _ _ _ hP hD hS (lv_sub hl [0, 1, 2, 3] rfl)
abbrev rm_X5_fewestByPositions : Room := { frames := 4, cells := 0, slots := 0, locals := 89 }
set_option maxHeartbeats 4000000 in
set_option maxRecDepth 100000 in
theorem c_X5_fewestByPositions (l : Launch) (D : va_G) (cy : Nat → ClassId) (se th h : Nat → Nat) (sc : Int32) (pf bf : Nat → Int32) (y0 x : HS) (n : Nat) (hn : n ≤ 4) (hg : x.1.1 = nI n) (hok : okX n x) (sz : Nat) : Met l yX5_fewestByPositions wsX5_fewestByPositions rm_X5_fewestByPositions (wrP D cy [.ref (se 0), .ref (h 0)] (wj [searchW cy se (th 0) sc pf bf, hotelW cy th y0, hotelW cy h x]) sz) (va_Qi (fun (r : Int32) (u : (Int32 × (Nat → Int32) × (Nat → Int32)) × HS) => r = hFew n x) (wrB D (va_A (wj [searchW cy se (th 0) sc pf bf, hotelW cy th y0, hotelW cy h x]) sz) (fun u => wj [searchW cy se (th 0) u.1.1 u.1.2.1 u.1.2.2, hotelW cy th u.2, hotelW cy h x])) (va_A (wj [searchW cy se (th 0) sc pf bf, hotelW cy th y0, hotelW cy h x]) sz)) 0 0 (va_A (wj [searchW cy se (th 0) sc pf bf, hotelW cy th y0, hotelW cy h x]) sz) := by
  refine Mwi (cc := cX5_fewestByPositions) (maxL := 5) (ty := .int) (by decide) rfl (Nat.le_of_ble_eq_true rfl) (fun _ _ _ => rfl) ?_
  intro p e s m args below meth c Q ls A hsz hF hK hP hD hA hl hret
  obtain ⟨hx, hb, hml, hown, hts⟩ := id hF
  have hown : s.vm.findClass RX5 = some m.cls := hown
  have hin_X5 : ∀ w ∈ u_ws RX5 TX5 4, w ∈ wsX5_fewestByPositions := by decide +kernel
  have hl : lv_has ls 5 [(0, .ref (se 0)), (1, .ref (h 0))] := hl
  suffices key : ∀ (H : Heap) (locs : List Loc), va_P D vwCl (wj [searchW cy se (th 0) sc pf bf, hotelW cy th y0, hotelW cy h x]) H → va_D A (wj [searchW cy se (th 0) sc pf bf, hotelW cy th y0, hotelW cy h x]) → va_S A s.heap H locs → W p l e rm_X5_fewestByPositions s m args below meth c H locs 0 0 Q (F0 m 0 ls []) from key s.heap [] hP hD va_S.rf
  intro H locs hP hD hS
  refine lv_aload_n hx hb dX5_fewestByPositions_0 rfl (lv_at hl 0 rfl) ?_
  refine va_get (ci := 3) (v := .ref (th 0)) (C := RX5) (T := TX5) (N := 4) hx hb hts hin_X5 hown hK hP 0 rfl rfl 0 (by decide) (hts (.fieldLink RX5 12 "ButtonGuests$Search" "trial" "LButtonGuests$Hotel;") (by decide +kernel)) (fun _ h9 => h9) rfl dX5_fewestByPositions_1 ?_
  refine lv_aload_n hx hb dX5_fewestByPositions_4 rfl (lv_at hl 1 rfl) ?_
  refine wr_v (fun u => wj [searchW cy se (th 0) sc pf bf, hotelW cy th u, hotelW cy h x]) (va_runV (As := [.ref (h 0)]) (rest := []) hF (c_X1_copyFrom l D cy th h y0 x H.size) (cwV 1 hts gX5_fewestByPositions_X1_copyFrom rfl rfl rfl (by decide +kernel) ⟨Nat.le_of_ble_eq_true rfl, Nat.le_of_ble_eq_true rfl⟩) (wr_preV hK hP hD (zz_pick2 [searchW cy se (th 0) sc pf bf, hotelW cy th y0, hotelW cy h x] 1 2 [0] (show List.Perm ([1, 2] ++ [0]) (List.range 3) by decide) rfl rfl rfl) 0 0 rfl rfl rfl) rfl rfl hl.1 rfl (lv_room (Nat.le_of_ble_eq_true rfl)) dX5_fewestByPositions_5 ⟨Nat.le_of_ble_eq_true rfl, Nat.le_of_ble_eq_true rfl⟩) hP hD hS hA (zz_pick2 [searchW cy se (th 0) sc pf bf, hotelW cy th y0, hotelW cy h x] 1 2 [0] (show List.Perm ([1, 2] ++ [0]) (List.range 3) by decide) rfl rfl rfl) (fun u => (zz_pick2 [searchW cy se (th 0) sc pf bf, hotelW cy th u, hotelW cy h x] 1 2 [0] (show List.Perm ([1, 2] ++ [0]) (List.range 3) by decide) rfl rfl rfl)) (fun u_1 H locs e_2 hP hD hS => ?_)
  obtain rfl : x = u_1 := e_2.symm
  have hP : va_P D vwCl (wj [searchW cy se (th 0) sc pf bf, hotelW cy th x, hotelW cy h x]) H := hP
  have hD : va_D A (wj [searchW cy se (th 0) sc pf bf, hotelW cy th x, hotelW cy h x]) := hD
  refine lv_aload_n hx hb dX5_fewestByPositions_8 rfl (lv_at hl 0 rfl) ?_
  refine va_get (ci := 3) (v := .ref (th 0)) (C := RX5) (T := TX5) (N := 4) hx hb hts hin_X5 hown hK hP 0 rfl rfl 0 (by decide) (hts (.fieldLink RX5 12 "ButtonGuests$Search" "trial" "LButtonGuests$Hotel;") (by decide +kernel)) (fun _ h9 => h9) rfl dX5_fewestByPositions_9 ?_
  refine rd_V (As := []) (rest := []) hF (c_X1_areAllHome l D cy th n hn x hg ) (cwV 0 hts gX5_fewestByPositions_X1_areAllHome rfl rfl rfl (by decide +kernel) ⟨Nat.le_of_ble_eq_true rfl, Nat.le_of_ble_eq_true rfl⟩) hK (hP.sub [3, 4, 5, 6, 7, 8, 9, 10, 11, 12] rfl) 0 0 rfl rfl rfl rfl hl.1 rfl (Nat.le_of_ble_eq_true rfl) dX5_fewestByPositions_12 ⟨Nat.le_of_ble_eq_true rfl, Nat.le_of_ble_eq_true rfl⟩ ?_
  refine lv_if_eq (tgt := 20) hx hb dX5_fewestByPositions_15 (by decide) (fun c_3 => ?_) (fun c_3 => ?_)
  · have c_3 := zb_eq.mp c_3
    refine lv_aload_n hx hb dX5_fewestByPositions_20 rfl (lv_at hl 0 rfl) ?_
    refine lv_iconst (v := 0) hx hb dX5_fewestByPositions_21 (by decide) ?_
    refine va_put (ci := 3) (v := .int 0) (ty := .int) (C := RX5) (T := TX5) (N := 4) hx hb hts hin_X5 tyX5 tyX5_ok nmX5 hown hK hP hD hS 0 rfl rfl 3 (by decide) (hts (.fieldLink RX5 52 "ButtonGuests$Search" "count" "I") (by decide +kernel)) (fun _ h9 => h9) rfl (by decide +kernel) rfl rfl (Nat.le_of_ble_eq_true rfl) dX5_fewestByPositions_22 (fun H locs hP hD hS => ?_)
    have hP : va_P D vwCl (wj [searchW cy se (th 0) 0 pf bf, hotelW cy th x, hotelW cy h x]) H := hP
    have hD : va_D A (wj [searchW cy se (th 0) 0 pf bf, hotelW cy th x, hotelW cy h x]) := hD
    refine lv_aload_n hx hb dX5_fewestByPositions_25 rfl (lv_at hl 0 rfl) ?_
    refine lv_aload_n hx hb dX5_fewestByPositions_26 rfl (lv_at hl 0 rfl) ?_
    refine va_get (ci := 3) (v := .ref (th 0)) (C := RX5) (T := TX5) (N := 4) hx hb hts hin_X5 hown hK hP 0 rfl rfl 0 (by decide) (hts (.fieldLink RX5 12 "ButtonGuests$Search" "trial" "LButtonGuests$Hotel;") (by decide +kernel)) (fun _ h9 => h9) rfl dX5_fewestByPositions_27 ?_
    refine rd_V (As := []) (rest := [.ref (se 0)]) hF (c_X1_position l D cy th n hn x hg ) (cwV 0 hts gX5_fewestByPositions_X1_position rfl rfl rfl (by decide +kernel) ⟨Nat.le_of_ble_eq_true rfl, Nat.le_of_ble_eq_true rfl⟩) hK (hP.sub [3, 4, 5, 6, 7, 8, 9, 10, 11, 12] rfl) 0 0 rfl rfl rfl rfl hl.1 rfl (Nat.le_of_ble_eq_true rfl) dX5_fewestByPositions_30 ⟨Nat.le_of_ble_eq_true rfl, Nat.le_of_ble_eq_true rfl⟩ ?_
    refine lv_iconst (v := 0) hx hb dX5_fewestByPositions_33 (by decide) ?_
    refine wr_v (fun u => wj [searchW cy se (th 0) (nI u.1) u.2.1 u.2.2, hotelW cy th x, hotelW cy h x]) (va_runV (As := [.int (hPos n x), .int 0]) (rest := []) hF (c_X5_keepIfNew l D cy se th 0 (by decide) pf bf (hPos n x) 0 H.size) (cwV 2 hts gX5_fewestByPositions_X5_keepIfNew rfl rfl rfl (by decide +kernel) ⟨Nat.le_of_ble_eq_true rfl, Nat.le_of_ble_eq_true rfl⟩) (wr_preV hK hP hD (zz_pick1 [searchW cy se (th 0) 0 pf bf, hotelW cy th x, hotelW cy h x] 0 [1, 2] (show List.Perm ([0] ++ [1, 2]) (List.range 3) by decide) rfl rfl) 0 3 rfl rfl rfl) rfl rfl hl.1 rfl (lv_room (Nat.le_of_ble_eq_true rfl)) dX5_fewestByPositions_34 ⟨Nat.le_of_ble_eq_true rfl, Nat.le_of_ble_eq_true rfl⟩) hP hD hS hA (zz_pick1 [searchW cy se (th 0) 0 pf bf, hotelW cy th x, hotelW cy h x] 0 [1, 2] (show List.Perm ([0] ++ [1, 2]) (List.range 3) by decide) rfl rfl) (fun u => (zz_pick1 [searchW cy se (th 0) (nI u.1) u.2.1 u.2.2, hotelW cy th x, hotelW cy h x] 0 [1, 2] (show List.Perm ([0] ++ [1, 2]) (List.range 3) by decide) rfl rfl)) (fun u_4 H locs e_5 hP hD hS => ?_)
    obtain rfl := kNew_0 e_5
    have hP : va_P D vwCl (wj [searchW cy se (th 0) (nI 1) ((upd pf 0 (hPos n x))) ((upd bf 0 0)), hotelW cy th x, hotelW cy h x]) H := hP
    have hD : va_D A (wj [searchW cy se (th 0) (nI 1) ((upd pf 0 (hPos n x))) ((upd bf 0 0)), hotelW cy th x, hotelW cy h x]) := hD
    have hB0 := bfs_0 (pf := pf) (bf := bf) c_3
    refine lv_iconst (v := 0) hx hb dX5_fewestByPositions_37 (by decide) ?_
    refine lv_istore_n (lv' := [(2, .int 0), (0, .ref (se 0)), (1, .ref (h 0))]) hx hb dX5_fewestByPositions_38 rfl hl (by decide) rfl (fun ls hl => ?_)
    have loop : ∀ (k i ct : Nat) (p1 b1 : Nat → Int32) (dep : Nat → Nat) (ys : Nat → HS) (y : HS), i ≤ 341 → Bfs n x ct p1 b1 dep ys i 0 → 342 ≤ i + k → y.1.1 = nI n → Fr n x y → ∀ (H : Heap) (locs : List Loc) (ls : Array Slot), va_P D vwCl (wj [searchW cy se (th 0) (nI ct) p1 b1, hotelW cy th y, hotelW cy h x]) H → va_D A (wj [searchW cy se (th 0) (nI ct) p1 b1, hotelW cy th y, hotelW cy h x]) → va_S A s.heap H locs → lv_has ls 5 [(2, .int (nI i)), (0, .ref (se 0)), (1, .ref (h 0))] → W p l e rm_X5_fewestByPositions s m args below meth c H locs 0 0 Q (F0 m 39 ls []) := by
      intro k
      induction k with
      | zero =>
        intro i ct p1 b1 dep ys y hi hB hk hgy hfy
        exact absurd hk (by omega)
      | succ k ih =>
        intro i ct p1 b1 dep ys y hi hB hk hgy hfy H locs ls hP hD hS hl
        have hb1 := hB.1
        have ihO := ih
        have hkO := hk
        refine lv_iload_n hx hb dX5_fewestByPositions_39 rfl (lv_at hl 0 rfl) ?_
        refine lv_aload_n hx hb dX5_fewestByPositions_40 rfl (lv_at hl 1 rfl) ?_
        refine va_get (ci := 3) (v := .int (nI ct)) (C := RX5) (T := TX5) (N := 4) hx hb hts hin_X5 hown hK hP 0 rfl rfl 3 (by decide) (hts (.fieldLink RX5 52 "ButtonGuests$Search" "count" "I") (by decide +kernel)) (fun _ h9 => h9) rfl dX5_fewestByPositions_41 ?_
        refine lv_icmp_ge (tgt := 147) hx hb dX5_fewestByPositions_44 (by decide) (fun c_6 => ?_) (fun c_6 => ?_)
        · have c_6 : ct ≤ i := (nI_leI (a := ct) (b := i) (by omega) (by omega)).mp c_6
          refine lv_iconst (v := (-1)) hx hb dX5_fewestByPositions_147 (by decide) ?_
          exact hret _ _ H locs _ ((nI ct, p1, b1), y) dX5_fewestByPositions_148 hP hD hS (bfs_last hn hok hB c_6)
        · have c_6 : ¬ ct ≤ i := fun q => c_6 ((nI_leI (a := ct) (b := i) (by omega) (by omega)).mpr q)
          have hlt : i < ct := by omega
          refine lv_iload_n hx hb dX5_fewestByPositions_47 rfl (lv_at hl 0 rfl) ?_
          refine lv_sipush (v := 341) hx hb dX5_fewestByPositions_48 (by decide) ?_
          refine lv_icmp_ge (tgt := 147) hx hb dX5_fewestByPositions_51 (by decide) (fun c_7 => ?_) (fun c_7 => ?_)
          · have c_7 : 341 ≤ i := (nI_leI (a := 341) (b := i) (by omega) (by omega)).mp c_7
            exact absurd c_7 (by omega)
          · have c_7 : ¬ 341 ≤ i := fun q => c_7 ((nI_leI (a := 341) (b := i) (by omega) (by omega)).mpr q)
            have hd4 := (hB.2.1 i hlt).2.2.1
            obtain ⟨d9, hd9⟩ : ∃ d, d = dep i := ⟨_, rfl⟩
            refine lv_aload_n hx hb dX5_fewestByPositions_54 rfl (lv_at hl 1 rfl) ?_
            refine va_get (ci := 3) (v := .ref (se 2)) (C := RX5) (T := TX5) (N := 4) hx hb hts hin_X5 hown hK hP 0 rfl rfl 2 (by decide) (hts (.fieldLink RX5 22 "ButtonGuests$Search" "behind" "[I") (by decide +kernel)) (fun _ h9 => h9) rfl dX5_fewestByPositions_55 ?_
            refine lv_iload_n hx hb dX5_fewestByPositions_58 rfl (lv_at hl 0 rfl) ?_
            refine zz_iald hx hb hK hP 2 0 i rfl rfl rfl ⟨by omega, Nat.le_of_ble_eq_true rfl⟩ dX5_fewestByPositions_59 ?_
            refine zz_top (y := nI d9) (by rw [hd9]; exact (hB.2.1 i hlt).2.2.2.2) ?_
            refine lv_iconst (v := 1) hx hb dX5_fewestByPositions_60 (by decide) ?_
            refine lv_iadd hx hb dX5_fewestByPositions_61 ?_
            refine zz_top (y := nI (d9 + 1)) (nI_1 d9) ?_
            refine lv_istore_n (lv' := [(3, .int (nI (d9 + 1))), (2, .int (nI i)), (0, .ref (se 0)), (1, .ref (h 0))]) hx hb dX5_fewestByPositions_62 rfl hl (by decide) rfl (fun ls hl => ?_)
            refine lv_iconst (v := 0) hx hb dX5_fewestByPositions_63 (by decide) ?_
            refine lv_istore (lv' := [(4, .int 0), (3, .int (nI (d9 + 1))), (2, .int (nI i)), (0, .ref (se 0)), (1, .ref (h 0))]) hx hb dX5_fewestByPositions_64 hl (by decide) rfl (fun ls hl => ?_)
            have loop2 : ∀ (k g ct2 : Nat) (p2 b2 : Nat → Int32) (dep2 : Nat → Nat) (ys2 : Nat → HS) (y2 : HS), Bfs n x ct2 p2 b2 dep2 ys2 i g → g ≤ n → n + 1 ≤ g + k → y2.1.1 = nI n → Fr n x y2 → i < ct2 → dep2 i = d9 → ∀ (H : Heap) (locs : List Loc) (ls : Array Slot), va_P D vwCl (wj [searchW cy se (th 0) (nI ct2) p2 b2, hotelW cy th y2, hotelW cy h x]) H → va_D A (wj [searchW cy se (th 0) (nI ct2) p2 b2, hotelW cy th y2, hotelW cy h x]) → va_S A s.heap H locs → lv_has ls 5 [(4, .int (nI g)), (3, .int (nI (d9 + 1))), (2, .int (nI i)), (0, .ref (se 0)), (1, .ref (h 0))] → W p l e rm_X5_fewestByPositions s m args below meth c H locs 0 0 Q (F0 m 66 ls []) := by
              intro k
              induction k with
              | zero =>
                intro g ct2 p2 b2 dep2 ys2 y2 hB2 hg2 hk hgy2 hfy2 hlt2 hde
                exact absurd hk (by omega)
              | succ k ih =>
                intro g ct2 p2 b2 dep2 ys2 y2 hB2 hg2 hk hgy2 hfy2 hlt2 hde H locs ls hP hD hS hl
                refine lv_iload hx hb dX5_fewestByPositions_66 (lv_at hl 0 rfl) ?_
                refine lv_aload_n hx hb dX5_fewestByPositions_68 rfl (lv_at hl 3 rfl) ?_
                refine va_get (ci := 3) (v := .ref (th 0)) (C := RX5) (T := TX5) (N := 4) hx hb hts hin_X5 hown hK hP 0 rfl rfl 0 (by decide) (hts (.fieldLink RX5 12 "ButtonGuests$Search" "trial" "LButtonGuests$Hotel;") (by decide +kernel)) (fun _ h9 => h9) rfl dX5_fewestByPositions_69 ?_
                refine rd_V (As := []) (rest := [.int (nI g)]) hF (c_X1_guestCount l D cy th n hn y2 hgy2 ) (cwV 0 hts gX5_fewestByPositions_X1_guestCount rfl rfl rfl (by decide +kernel) ⟨Nat.le_of_ble_eq_true rfl, Nat.le_of_ble_eq_true rfl⟩) hK (hP.sub [3, 4, 5, 6, 7, 8, 9, 10, 11, 12] rfl) 0 0 rfl rfl rfl rfl hl.1 rfl (Nat.le_of_ble_eq_true rfl) dX5_fewestByPositions_72 ⟨Nat.le_of_ble_eq_true rfl, Nat.le_of_ble_eq_true rfl⟩ ?_
                refine zz_top (y := nI n) hgy2 ?_
                refine lv_icmp_ge (tgt := 141) hx hb dX5_fewestByPositions_75 (by decide) (fun c_8 => ?_) (fun c_8 => ?_)
                · have c_8 : n ≤ g := (nI_leI (a := n) (b := g) (by omega) (by omega)).mp c_8
                  refine lv_iinc (v := nI (i + 1)) (lv' := [(2, .int (nI (i + 1))), (4, .int (nI g)), (3, .int (nI (d9 + 1))), (0, .ref (se 0)), (1, .ref (h 0))]) hx hb dX5_fewestByPositions_141 hl (k := 2) rfl (nI_add (i) 1) (by decide) rfl (fun ls hl => ?_)
                  refine lv_goto (tgt := 39) hx hb dX5_fewestByPositions_144 (by decide) ?_
                  exact ihO (i + 1) ct2 _ _ _ _ _ (by have := hB2.1.2.2; omega) (bfs_nx hn hB2 c_8 hg2 hlt2) (by omega) hgy2 hfy2 _ _ _ hP hD hS (lv_sub hl [0, 3, 4] rfl)
                · have c_8 : ¬ n ≤ g := fun q => c_8 ((nI_leI (a := n) (b := g) (by omega) (by omega)).mpr q)
                  have hgn : g < n := by omega
                  refine lv_aload_n hx hb dX5_fewestByPositions_78 rfl (lv_at hl 3 rfl) ?_
                  refine va_get (ci := 3) (v := .ref (th 0)) (C := RX5) (T := TX5) (N := 4) hx hb hts hin_X5 hown hK hP 0 rfl rfl 0 (by decide) (hts (.fieldLink RX5 12 "ButtonGuests$Search" "trial" "LButtonGuests$Hotel;") (by decide +kernel)) (fun _ h9 => h9) rfl dX5_fewestByPositions_79 ?_
                  refine lv_aload_n hx hb dX5_fewestByPositions_82 rfl (lv_at hl 3 rfl) ?_
                  refine va_get (ci := 3) (v := .ref (se 1)) (C := RX5) (T := TX5) (N := 4) hx hb hts hin_X5 hown hK hP 0 rfl rfl 1 (by decide) (hts (.fieldLink RX5 18 "ButtonGuests$Search" "positions" "[I") (by decide +kernel)) (fun _ h9 => h9) rfl dX5_fewestByPositions_83 ?_
                  refine lv_iload_n hx hb dX5_fewestByPositions_86 rfl (lv_at hl 2 rfl) ?_
                  refine zz_iald hx hb hK hP 1 0 i rfl rfl rfl ⟨by omega, Nat.le_of_ble_eq_true rfl⟩ dX5_fewestByPositions_87 ?_
                  refine zz_top (y := hPos n (ys2 i)) (hB2.2.1 i hlt2).2.2.2.1 ?_
                  have hrk := Rch_keep hok (hB2.2.1 i hlt2).1
                  refine wr_v (fun u => wj [searchW cy se (th 0) (nI ct2) p2 b2, hotelW cy th u, hotelW cy h x]) (va_runV (As := [.int (hPos n (ys2 i))]) (rest := []) hF (c_X1_takePosition l D cy th n hn y2 hgy2 H.size (hPos n (ys2 i))) (cwV 1 hts gX5_fewestByPositions_X1_takePosition rfl rfl rfl (by decide +kernel) ⟨Nat.le_of_ble_eq_true rfl, Nat.le_of_ble_eq_true rfl⟩) (wr_preV hK hP hD (zz_pick1 [searchW cy se (th 0) (nI ct2) p2 b2, hotelW cy th y2, hotelW cy h x] 1 [0, 2] (show List.Perm ([1] ++ [0, 2]) (List.range 3) by decide) rfl rfl) 0 0 rfl rfl rfl) rfl rfl hl.1 rfl (lv_room (Nat.le_of_ble_eq_true rfl)) dX5_fewestByPositions_88 ⟨Nat.le_of_ble_eq_true rfl, Nat.le_of_ble_eq_true rfl⟩) hP hD hS hA (zz_pick1 [searchW cy se (th 0) (nI ct2) p2 b2, hotelW cy th y2, hotelW cy h x] 1 [0, 2] (show List.Perm ([1] ++ [0, 2]) (List.range 3) by decide) rfl rfl) (fun u => (zz_pick1 [searchW cy se (th 0) (nI ct2) p2 b2, hotelW cy th u, hotelW cy h x] 1 [0, 2] (show List.Perm ([1] ++ [0, 2]) (List.range 3) by decide) rfl rfl)) (fun u_9 H locs e_10 hP hD hS => ?_)
                  have hgu : u_9.1.1 = nI n := by rw [e_10]; exact hgy2
                  have hP : va_P D vwCl (wj [searchW cy se (th 0) (nI ct2) p2 b2, hotelW cy th u_9, hotelW cy h x]) H := hP
                  have hD : va_D A (wj [searchW cy se (th 0) (nI ct2) p2 b2, hotelW cy th u_9, hotelW cy h x]) := hD
                  have hco : Co u_9 (ys2 i) := by rw [e_10]; exact take_co hn hrk.2.p (hrk.1.sy.tr hfy2)
                  have hfu : Fr n x u_9 := by rw [e_10]; exact hfy2.tr take_fr
                  refine lv_aload_n hx hb dX5_fewestByPositions_91 rfl (lv_at hl 3 rfl) ?_
                  refine va_get (ci := 3) (v := .ref (th 0)) (C := RX5) (T := TX5) (N := 4) hx hb hts hin_X5 hown hK hP 0 rfl rfl 0 (by decide) (hts (.fieldLink RX5 12 "ButtonGuests$Search" "trial" "LButtonGuests$Hotel;") (by decide +kernel)) (fun _ h9 => h9) rfl dX5_fewestByPositions_92 ?_
                  refine lv_iload hx hb dX5_fewestByPositions_95 (lv_at hl 0 rfl) ?_
                  refine wr_i (fun u => wj [searchW cy se (th 0) (nI ct2) p2 b2, hotelW cy th u, hotelW cy h x]) (va_runV (As := [.int (nI g)]) (rest := []) hF (c_X1_goIfWilling l D cy th n hn u_9 hgu H.size (nI g)) (cwV 1 hts gX5_fewestByPositions_X1_goIfWilling rfl rfl rfl (by decide +kernel) ⟨Nat.le_of_ble_eq_true rfl, Nat.le_of_ble_eq_true rfl⟩) (wr_preV hK hP hD (zz_pick1 [searchW cy se (th 0) (nI ct2) p2 b2, hotelW cy th u_9, hotelW cy h x] 1 [0, 2] (show List.Perm ([1] ++ [0, 2]) (List.range 3) by decide) rfl rfl) 0 0 rfl rfl rfl) rfl rfl hl.1 rfl (lv_room (Nat.le_of_ble_eq_true rfl)) dX5_fewestByPositions_97 ⟨Nat.le_of_ble_eq_true rfl, Nat.le_of_ble_eq_true rfl⟩) hP hD hS hA (zz_pick1 [searchW cy se (th 0) (nI ct2) p2 b2, hotelW cy th u_9, hotelW cy h x] 1 [0, 2] (show List.Perm ([1] ++ [0, 2]) (List.range 3) by decide) rfl rfl) (fun u => (zz_pick1 [searchW cy se (th 0) (nI ct2) p2 b2, hotelW cy th u, hotelW cy h x] 1 [0, 2] (show List.Perm ([1] ++ [0, 2]) (List.range 3) by decide) rfl rfl)) (fun r_11 u_12 H locs e_13 hP hD hS => ?_)
                  obtain ⟨rfl, e_13⟩ := e_13
                  have hP : va_P D vwCl (wj [searchW cy se (th 0) (nI ct2) p2 b2, hotelW cy th u_12, hotelW cy h x]) H := hP
                  have hD : va_D A (wj [searchW cy se (th 0) (nI ct2) p2 b2, hotelW cy th u_12, hotelW cy h x]) := hD
                  refine lv_if_ne (tgt := 106) hx hb dX5_fewestByPositions_100 (by decide) (fun c_14 => ?_) (fun c_14 => ?_)
                  · have c_14 := zb_ne.mp c_14
                    have e_13 : u_12 = hGo n g u_9 := by rw [e_13]; simp only [hWill, if_pos c_14, nI_clamp (show g < 2 ^ 31 by omega)]
                    have hwl : hReas (ys2 i) (nI g) = 0 := by rw [← Co_reas hco]; exact c_14
                    obtain ⟨hk1, hk2⟩ := go_keep hgn (hrk.2.co hco.sy)
                    rw [← e_13] at hk1 hk2
                    have hg3 : u_12.1.1 = nI n := hk1.1.symm.trans hgu
                    have hco2 : Co u_12 (hGo n g (ys2 i)) := by rw [e_13]; exact Co_go hco
                    refine lv_aload_n hx hb dX5_fewestByPositions_106 rfl (lv_at hl 3 rfl) ?_
                    refine va_get (ci := 3) (v := .ref (th 0)) (C := RX5) (T := TX5) (N := 4) hx hb hts hin_X5 hown hK hP 0 rfl rfl 0 (by decide) (hts (.fieldLink RX5 12 "ButtonGuests$Search" "trial" "LButtonGuests$Hotel;") (by decide +kernel)) (fun _ h9 => h9) rfl dX5_fewestByPositions_107 ?_
                    refine rd_V (As := []) (rest := []) hF (c_X1_areAllHome l D cy th n hn u_12 hg3 ) (cwV 0 hts gX5_fewestByPositions_X1_areAllHome rfl rfl rfl (by decide +kernel) ⟨Nat.le_of_ble_eq_true rfl, Nat.le_of_ble_eq_true rfl⟩) hK (hP.sub [3, 4, 5, 6, 7, 8, 9, 10, 11, 12] rfl) 0 0 rfl rfl rfl rfl hl.1 rfl (Nat.le_of_ble_eq_true rfl) dX5_fewestByPositions_110 ⟨Nat.le_of_ble_eq_true rfl, Nat.le_of_ble_eq_true rfl⟩ ?_
                    refine lv_if_eq (tgt := 118) hx hb dX5_fewestByPositions_113 (by decide) (fun c_15 => ?_) (fun c_15 => ?_)
                    · have c_15 := zb_eq.mp c_15
                      refine lv_iload_n hx hb dX5_fewestByPositions_118 rfl (lv_at hl 1 rfl) ?_
                      refine lv_iconst (v := 5) hx hb dX5_fewestByPositions_119 (by decide) ?_
                      refine lv_icmp_ge (tgt := 135) hx hb dX5_fewestByPositions_120 (by decide) (fun c_16 => ?_) (fun c_16 => ?_)
                      · have c_16 : 5 ≤ d9 + 1 := (nI_leI (a := 5) (b := d9 + 1) (by omega) (by omega)).mp c_16
                        refine lv_iinc (v := nI (g + 1)) (lv' := [(4, .int (nI (g + 1))), (3, .int (nI (d9 + 1))), (2, .int (nI i)), (0, .ref (se 0)), (1, .ref (h 0))]) hx hb dX5_fewestByPositions_135 hl (k := 0) rfl (nI_add (g) 1) (by decide) rfl (fun ls hl => ?_)
                        refine lv_goto (tgt := 66) hx hb dX5_fewestByPositions_138 (by decide) ?_
                        exact ih (g + 1) ct2 _ _ _ _ u_12 (bfs_no hB2 (fun _ _ => ⟨fun q => c_15 ((hHome_co hco2).mpr q), fun q => by omega⟩)) (by omega) (by omega) hg3 (hfu.tr hk1) hlt2 hde _ _ _ hP hD hS (lv_sub hl [0, 1, 2, 3, 4] rfl)
                      · have c_16 : ¬ 5 ≤ d9 + 1 := fun q => c_16 ((nI_leI (a := 5) (b := d9 + 1) (by omega) (by omega)).mpr q)
                        refine lv_aload_n hx hb dX5_fewestByPositions_123 rfl (lv_at hl 3 rfl) ?_
                        refine lv_aload_n hx hb dX5_fewestByPositions_124 rfl (lv_at hl 3 rfl) ?_
                        refine va_get (ci := 3) (v := .ref (th 0)) (C := RX5) (T := TX5) (N := 4) hx hb hts hin_X5 hown hK hP 0 rfl rfl 0 (by decide) (hts (.fieldLink RX5 12 "ButtonGuests$Search" "trial" "LButtonGuests$Hotel;") (by decide +kernel)) (fun _ h9 => h9) rfl dX5_fewestByPositions_125 ?_
                        refine rd_V (As := []) (rest := [.ref (se 0)]) hF (c_X1_position l D cy th n hn u_12 hg3 ) (cwV 0 hts gX5_fewestByPositions_X1_position rfl rfl rfl (by decide +kernel) ⟨Nat.le_of_ble_eq_true rfl, Nat.le_of_ble_eq_true rfl⟩) hK (hP.sub [3, 4, 5, 6, 7, 8, 9, 10, 11, 12] rfl) 0 0 rfl rfl rfl rfl hl.1 rfl (Nat.le_of_ble_eq_true rfl) dX5_fewestByPositions_128 ⟨Nat.le_of_ble_eq_true rfl, Nat.le_of_ble_eq_true rfl⟩ ?_
                        refine lv_iload_n hx hb dX5_fewestByPositions_131 rfl (lv_at hl 1 rfl) ?_
                        refine wr_v (fun u => wj [searchW cy se (th 0) (nI u.1) u.2.1 u.2.2, hotelW cy th u_12, hotelW cy h x]) (va_runV (As := [.int (hPos n u_12), .int (nI (d9 + 1))]) (rest := []) hF (c_X5_keepIfNew l D cy se th ct2 hB2.1.2.2 p2 b2 (hPos n u_12) (nI (d9 + 1)) H.size) (cwV 2 hts gX5_fewestByPositions_X5_keepIfNew rfl rfl rfl (by decide +kernel) ⟨Nat.le_of_ble_eq_true rfl, Nat.le_of_ble_eq_true rfl⟩) (wr_preV hK hP hD (zz_pick1 [searchW cy se (th 0) (nI ct2) p2 b2, hotelW cy th u_12, hotelW cy h x] 0 [1, 2] (show List.Perm ([0] ++ [1, 2]) (List.range 3) by decide) rfl rfl) 0 3 rfl rfl rfl) rfl rfl hl.1 rfl (lv_room (Nat.le_of_ble_eq_true rfl)) dX5_fewestByPositions_132 ⟨Nat.le_of_ble_eq_true rfl, Nat.le_of_ble_eq_true rfl⟩) hP hD hS hA (zz_pick1 [searchW cy se (th 0) (nI ct2) p2 b2, hotelW cy th u_12, hotelW cy h x] 0 [1, 2] (show List.Perm ([0] ++ [1, 2]) (List.range 3) by decide) rfl rfl) (fun u => (zz_pick1 [searchW cy se (th 0) (nI u.1) u.2.1 u.2.2, hotelW cy th u_12, hotelW cy h x] 0 [1, 2] (show List.Perm ([0] ++ [1, 2]) (List.range 3) by decide) rfl rfl)) (fun u_17 H locs e_18 hP hD hS => ?_)
                        obtain ⟨dep4, ys4, hB4, hde4, hlt4⟩ := bfs_keep hn hB2 hlt2 hgn hde hco2 hwl c_15 (by omega) e_18
                        have hP : va_P D vwCl (wj [searchW cy se (th 0) (nI u_17.1) u_17.2.1 u_17.2.2, hotelW cy th u_12, hotelW cy h x]) H := hP
                        have hD : va_D A (wj [searchW cy se (th 0) (nI u_17.1) u_17.2.1 u_17.2.2, hotelW cy th u_12, hotelW cy h x]) := hD
                        refine lv_iinc (v := nI (g + 1)) (lv' := [(4, .int (nI (g + 1))), (3, .int (nI (d9 + 1))), (2, .int (nI i)), (0, .ref (se 0)), (1, .ref (h 0))]) hx hb dX5_fewestByPositions_135 hl (k := 0) rfl (nI_add (g) 1) (by decide) rfl (fun ls hl => ?_)
                        refine lv_goto (tgt := 66) hx hb dX5_fewestByPositions_138 (by decide) ?_
                        exact ih (g + 1) u_17.1 _ _ _ _ u_12 hB4 (by omega) (by omega) hg3 (hfu.tr hk1) hlt4 hde4 _ _ _ hP hD hS (lv_sub hl [0, 1, 2, 3, 4] rfl)
                    · have c_15 := zb_ne.mp c_15
                      refine lv_iload_n hx hb dX5_fewestByPositions_116 rfl (lv_at hl 1 rfl) ?_
                      exact hret _ _ H locs _ ((nI ct2, p2, b2), u_12) dX5_fewestByPositions_117 hP hD hS ((by rw [← hde]; exact bfs_yes hn hok hB2 hlt2 hgn hwl ((hHome_co hco2).mp c_15)))
                  · have c_14 := zb_eq.mp c_14
                    have e_13 : u_9 = u_12 := by rw [e_13]; simp only [hWill, if_neg c_14]
                    subst e_13
                    have hP : va_P D vwCl (wj [searchW cy se (th 0) (nI ct2) p2 b2, hotelW cy th u_9, hotelW cy h x]) H := hP
                    have hD : va_D A (wj [searchW cy se (th 0) (nI ct2) p2 b2, hotelW cy th u_9, hotelW cy h x]) := hD
                    refine lv_goto (tgt := 135) hx hb dX5_fewestByPositions_103 (by decide) ?_
                    refine lv_iinc (v := nI (g + 1)) (lv' := [(4, .int (nI (g + 1))), (3, .int (nI (d9 + 1))), (2, .int (nI i)), (0, .ref (se 0)), (1, .ref (h 0))]) hx hb dX5_fewestByPositions_135 hl (k := 0) rfl (nI_add (g) 1) (by decide) rfl (fun ls hl => ?_)
                    refine lv_goto (tgt := 66) hx hb dX5_fewestByPositions_138 (by decide) ?_
                    exact ih (g + 1) ct2 _ _ _ _ u_9 (bfs_no hB2 (fun _ q => absurd ((Co_reas hco).trans q) c_14)) (by omega) (by omega) hgu hfu hlt2 hde _ _ _ hP hD hS (lv_sub hl [0, 1, 2, 3, 4] rfl)
            exact loop2 (n + 1) 0 ct _ _ _ _ y hB (Nat.zero_le _) (by omega) hgy hfy hlt hd9.symm _ _ _ hP hD hS (lv_sub hl [0, 1, 2, 3, 4] rfl)
    exact loop 342 0 1 _ _ _ _ x (by decide) hB0 (by omega) hg Fr.rf _ _ _ hP hD hS (lv_sub hl [0, 1, 2] rfl)
  · have c_3 := zb_ne.mp c_3
    refine lv_iconst (v := 0) hx hb dX5_fewestByPositions_18 (by decide) ?_
    exact hret _ _ H locs _ ((sc, pf, bf), x) dX5_fewestByPositions_19 hP hD hS (few_yes (k := 0) (by decide) (by simp only [dfsB, decide_eq_true_eq]; exact c_3) lt_0)
abbrev rm_X5_bestPress : Room := { frames := 10, cells := 0, slots := 0, locals := 227 }
set_option maxHeartbeats 4000000 in
set_option maxRecDepth 100000 in
theorem c_X5_bestPress (l : Launch) (D : va_G) (cy : Nat → ClassId) (se th h : Nat → Nat) (sc : Int32) (pf bf : Nat → Int32) (y0 x : HS) (n : Nat) (hn : n ≤ 4) (hg : x.1.1 = nI n) (hok : okX n x) (sz : Nat) : Met l yX5_bestPress wsX5_bestPress rm_X5_bestPress (wrP D cy [.ref (se 0), .ref (h 0)] (wj [searchW cy se (th 0) sc pf bf, hotelW cy th y0, hotelW cy h x]) sz) (va_Qi (fun (r : Int32) (u : (Int32 × (Nat → Int32) × (Nat → Int32)) × HS) => r = hBst n x) (wrB D (va_A (wj [searchW cy se (th 0) sc pf bf, hotelW cy th y0, hotelW cy h x]) sz) (fun u => wj [searchW cy se (th 0) u.1.1 u.1.2.1 u.1.2.2, hotelW cy th u.2, hotelW cy h x])) (va_A (wj [searchW cy se (th 0) sc pf bf, hotelW cy th y0, hotelW cy h x]) sz)) 0 0 (va_A (wj [searchW cy se (th 0) sc pf bf, hotelW cy th y0, hotelW cy h x]) sz) := by
  refine Mwi (cc := cX5_bestPress) (maxL := 5) (ty := .int) (by decide) rfl (Nat.le_of_ble_eq_true rfl) (fun _ _ _ => rfl) ?_
  intro p e s m args below meth c Q ls A hsz hF hK hP hD hA hl hret
  obtain ⟨hx, hb, hml, hown, hts⟩ := id hF
  have hown : s.vm.findClass RX5 = some m.cls := hown
  have hin_X5 : ∀ w ∈ u_ws RX5 TX5 4, w ∈ wsX5_bestPress := by decide +kernel
  have hl : lv_has ls 5 [(0, .ref (se 0)), (1, .ref (h 0))] := hl
  suffices key : ∀ (H : Heap) (locs : List Loc), va_P D vwCl (wj [searchW cy se (th 0) sc pf bf, hotelW cy th y0, hotelW cy h x]) H → va_D A (wj [searchW cy se (th 0) sc pf bf, hotelW cy th y0, hotelW cy h x]) → va_S A s.heap H locs → W p l e rm_X5_bestPress s m args below meth c H locs 0 0 Q (F0 m 0 ls []) from key s.heap [] hP hD va_S.rf
  intro H locs hP hD hS
  refine lv_aload_n hx hb dX5_bestPress_0 rfl (lv_at hl 0 rfl) ?_
  refine lv_aload_n hx hb dX5_bestPress_1 rfl (lv_at hl 1 rfl) ?_
  refine wr_i (fun u => wj [searchW cy se (th 0) u.1.1 u.1.2.1 u.1.2.2, hotelW cy th u.2, hotelW cy h x]) (va_runV (As := [.ref (h 0)]) (rest := []) hF (c_X5_fewestByPositions l D cy se th h sc pf bf y0 x n hn hg hok H.size) (cwV 1 hts gX5_bestPress_X5_fewestByPositions rfl rfl rfl (by decide +kernel) ⟨Nat.le_of_ble_eq_true rfl, Nat.le_of_ble_eq_true rfl⟩) (wr_preV hK hP hD (zz_all _) 0 3 rfl rfl rfl) rfl rfl hl.1 rfl (lv_room (Nat.le_of_ble_eq_true rfl)) dX5_bestPress_2 ⟨Nat.le_of_ble_eq_true rfl, Nat.le_of_ble_eq_true rfl⟩) hP hD hS hA (zz_all _) (fun _ => zz_all _) (fun r_1 u_2 H locs e_3 hP hD hS => ?_)
  have hP : va_P D vwCl (wj [searchW cy se (th 0) u_2.1.1 u_2.1.2.1 u_2.1.2.2, hotelW cy th u_2.2, hotelW cy h x]) H := hP
  have hD : va_D A (wj [searchW cy se (th 0) u_2.1.1 u_2.1.2.1 u_2.1.2.2, hotelW cy th u_2.2, hotelW cy h x]) := hD
  refine lv_istore_n (lv' := [(2, .int r_1), (0, .ref (se 0)), (1, .ref (h 0))]) hx hb dX5_bestPress_5 rfl hl (by decide) rfl (fun ls hl => ?_)
  refine lv_iload_n hx hb dX5_bestPress_6 rfl (lv_at hl 0 rfl) ?_
  refine lv_if_gt (tgt := 12) hx hb dX5_bestPress_7 (by decide) (fun c_4 => ?_) (fun c_4 => ?_)
  · have c_4 : 0 < r_1 := c_4
    obtain ⟨m9, hm9, hfe, hbk⟩ := few_pos (e_3 ▸ c_4)
    rw [hfe] at e_3
    subst e_3
    refine lv_aload_n hx hb dX5_bestPress_12 rfl (lv_at hl 1 rfl) ?_
    refine va_get (ci := 3) (v := .ref (th 0)) (C := RX5) (T := TX5) (N := 4) hx hb hts hin_X5 hown hK hP 0 rfl rfl 0 (by decide) (hts (.fieldLink RX5 12 "ButtonGuests$Search" "trial" "LButtonGuests$Hotel;") (by decide +kernel)) (fun _ h9 => h9) rfl dX5_bestPress_13 ?_
    refine lv_aload_n hx hb dX5_bestPress_16 rfl (lv_at hl 2 rfl) ?_
    refine wr_v (fun u => wj [searchW cy se (th 0) u_2.1.1 u_2.1.2.1 u_2.1.2.2, hotelW cy th u, hotelW cy h x]) (va_runV (As := [.ref (h 0)]) (rest := []) hF (c_X1_copyFrom l D cy th h u_2.2 x H.size) (cwV 1 hts gX5_bestPress_X1_copyFrom rfl rfl rfl (by decide +kernel) ⟨Nat.le_of_ble_eq_true rfl, Nat.le_of_ble_eq_true rfl⟩) (wr_preV hK hP hD (zz_pick2 [searchW cy se (th 0) u_2.1.1 u_2.1.2.1 u_2.1.2.2, hotelW cy th u_2.2, hotelW cy h x] 1 2 [0] (show List.Perm ([1, 2] ++ [0]) (List.range 3) by decide) rfl rfl rfl) 0 0 rfl rfl rfl) rfl rfl hl.1 rfl (lv_room (Nat.le_of_ble_eq_true rfl)) dX5_bestPress_17 ⟨Nat.le_of_ble_eq_true rfl, Nat.le_of_ble_eq_true rfl⟩) hP hD hS hA (zz_pick2 [searchW cy se (th 0) u_2.1.1 u_2.1.2.1 u_2.1.2.2, hotelW cy th u_2.2, hotelW cy h x] 1 2 [0] (show List.Perm ([1, 2] ++ [0]) (List.range 3) by decide) rfl rfl rfl) (fun u => (zz_pick2 [searchW cy se (th 0) u_2.1.1 u_2.1.2.1 u_2.1.2.2, hotelW cy th u, hotelW cy h x] 1 2 [0] (show List.Perm ([1, 2] ++ [0]) (List.range 3) by decide) rfl rfl rfl)) (fun u_5 H locs e_6 hP hD hS => ?_)
    obtain rfl : x = u_5 := e_6.symm
    have hP : va_P D vwCl (wj [searchW cy se (th 0) u_2.1.1 u_2.1.2.1 u_2.1.2.2, hotelW cy th x, hotelW cy h x]) H := hP
    have hD : va_D A (wj [searchW cy se (th 0) u_2.1.1 u_2.1.2.1 u_2.1.2.2, hotelW cy th x, hotelW cy h x]) := hD
    refine lv_aload_n hx hb dX5_bestPress_20 rfl (lv_at hl 1 rfl) ?_
    refine va_get (ci := 3) (v := .ref (th 0)) (C := RX5) (T := TX5) (N := 4) hx hb hts hin_X5 hown hK hP 0 rfl rfl 0 (by decide) (hts (.fieldLink RX5 12 "ButtonGuests$Search" "trial" "LButtonGuests$Hotel;") (by decide +kernel)) (fun _ h9 => h9) rfl dX5_bestPress_21 ?_
    refine rd_V (As := []) (rest := []) hF (c_X1_position l D cy th n hn x hg ) (cwV 0 hts gX5_bestPress_X1_position rfl rfl rfl (by decide +kernel) ⟨Nat.le_of_ble_eq_true rfl, Nat.le_of_ble_eq_true rfl⟩) hK (hP.sub [3, 4, 5, 6, 7, 8, 9, 10, 11, 12] rfl) 0 0 rfl rfl rfl rfl hl.1 rfl (Nat.le_of_ble_eq_true rfl) dX5_bestPress_24 ⟨Nat.le_of_ble_eq_true rfl, Nat.le_of_ble_eq_true rfl⟩ ?_
    refine lv_istore_n (lv' := [(3, .int (hPos n x)), (2, .int (nI (m9 + 1))), (0, .ref (se 0)), (1, .ref (h 0))]) hx hb dX5_bestPress_27 rfl hl (by decide) rfl (fun ls hl => ?_)
    refine lv_iconst (v := 0) hx hb dX5_bestPress_28 (by decide) ?_
    refine lv_istore (lv' := [(4, .int 0), (3, .int (hPos n x)), (2, .int (nI (m9 + 1))), (0, .ref (se 0)), (1, .ref (h 0))]) hx hb dX5_bestPress_29 hl (by decide) rfl (fun ls hl => ?_)
    have loop : ∀ (k g : Nat) (y : HS), g ≤ n → n + 1 ≤ g + k → y.1.1 = nI n → Fr n x y → lpE (sBest n m9 x) (fun _ => -1) (n - g) g () = hBestK n m9 x → ∀ (H : Heap) (locs : List Loc) (ls : Array Slot), va_P D vwCl (wj [searchW cy se (th 0) u_2.1.1 u_2.1.2.1 u_2.1.2.2, hotelW cy th y, hotelW cy h x]) H → va_D A (wj [searchW cy se (th 0) u_2.1.1 u_2.1.2.1 u_2.1.2.2, hotelW cy th y, hotelW cy h x]) → va_S A s.heap H locs → lv_has ls 5 [(4, .int (nI g)), (3, .int (hPos n x)), (2, .int (nI (m9 + 1))), (0, .ref (se 0)), (1, .ref (h 0))] → W p l e rm_X5_bestPress s m args below meth c H locs 0 0 Q (F0 m 31 ls []) := by
      intro k
      induction k with
      | zero =>
        intro g y hi hk hgy hfy hv
        exact absurd hk (by omega)
      | succ k ih =>
        intro g y hi hk hgy hfy hv H locs ls hP hD hS hl
        refine lv_iload hx hb dX5_bestPress_31 (lv_at hl 0 rfl) ?_
        refine lv_aload_n hx hb dX5_bestPress_33 rfl (lv_at hl 3 rfl) ?_
        refine va_get (ci := 3) (v := .ref (th 0)) (C := RX5) (T := TX5) (N := 4) hx hb hts hin_X5 hown hK hP 0 rfl rfl 0 (by decide) (hts (.fieldLink RX5 12 "ButtonGuests$Search" "trial" "LButtonGuests$Hotel;") (by decide +kernel)) (fun _ h9 => h9) rfl dX5_bestPress_34 ?_
        refine rd_V (As := []) (rest := [.int (nI g)]) hF (c_X1_guestCount l D cy th n hn y hgy ) (cwV 0 hts gX5_bestPress_X1_guestCount rfl rfl rfl (by decide +kernel) ⟨Nat.le_of_ble_eq_true rfl, Nat.le_of_ble_eq_true rfl⟩) hK (hP.sub [3, 4, 5, 6, 7, 8, 9, 10, 11, 12] rfl) 0 0 rfl rfl rfl rfl hl.1 rfl (Nat.le_of_ble_eq_true rfl) dX5_bestPress_37 ⟨Nat.le_of_ble_eq_true rfl, Nat.le_of_ble_eq_true rfl⟩ ?_
        refine zz_top (y := nI n) hgy ?_
        refine lv_icmp_ge (tgt := 92) hx hb dX5_bestPress_40 (by decide) (fun c_7 => ?_) (fun c_7 => ?_)
        · have c_7 : n ≤ g := (nI_leI (a := n) (b := g) (by omega) (by omega)).mp c_7
          refine lv_iconst (v := (-1)) hx hb dX5_bestPress_92 (by decide) ?_
          exact hret _ _ H locs _ ((u_2.1.1, u_2.1.2.1, u_2.1.2.2), y) dX5_bestPress_93 hP hD hS ((lpE_end c_7 hv).trans hbk.symm)
        · have c_7 : ¬ n ≤ g := fun q => c_7 ((nI_leI (a := n) (b := g) (by omega) (by omega)).mpr q)
          have hgn : g < n := by omega
          refine lv_aload_n hx hb dX5_bestPress_43 rfl (lv_at hl 3 rfl) ?_
          refine va_get (ci := 3) (v := .ref (th 0)) (C := RX5) (T := TX5) (N := 4) hx hb hts hin_X5 hown hK hP 0 rfl rfl 0 (by decide) (hts (.fieldLink RX5 12 "ButtonGuests$Search" "trial" "LButtonGuests$Hotel;") (by decide +kernel)) (fun _ h9 => h9) rfl dX5_bestPress_44 ?_
          refine lv_iload_n hx hb dX5_bestPress_47 rfl (lv_at hl 1 rfl) ?_
          refine wr_v (fun u => wj [searchW cy se (th 0) u_2.1.1 u_2.1.2.1 u_2.1.2.2, hotelW cy th u, hotelW cy h x]) (va_runV (As := [.int (hPos n x)]) (rest := []) hF (c_X1_takePosition l D cy th n hn y hgy H.size (hPos n x)) (cwV 1 hts gX5_bestPress_X1_takePosition rfl rfl rfl (by decide +kernel) ⟨Nat.le_of_ble_eq_true rfl, Nat.le_of_ble_eq_true rfl⟩) (wr_preV hK hP hD (zz_pick1 [searchW cy se (th 0) u_2.1.1 u_2.1.2.1 u_2.1.2.2, hotelW cy th y, hotelW cy h x] 1 [0, 2] (show List.Perm ([1] ++ [0, 2]) (List.range 3) by decide) rfl rfl) 0 0 rfl rfl rfl) rfl rfl hl.1 rfl (lv_room (Nat.le_of_ble_eq_true rfl)) dX5_bestPress_48 ⟨Nat.le_of_ble_eq_true rfl, Nat.le_of_ble_eq_true rfl⟩) hP hD hS hA (zz_pick1 [searchW cy se (th 0) u_2.1.1 u_2.1.2.1 u_2.1.2.2, hotelW cy th y, hotelW cy h x] 1 [0, 2] (show List.Perm ([1] ++ [0, 2]) (List.range 3) by decide) rfl rfl) (fun u => (zz_pick1 [searchW cy se (th 0) u_2.1.1 u_2.1.2.1 u_2.1.2.2, hotelW cy th u, hotelW cy h x] 1 [0, 2] (show List.Perm ([1] ++ [0, 2]) (List.range 3) by decide) rfl rfl)) (fun u_8 H locs e_9 hP hD hS => ?_)
          have hgu : u_8.1.1 = nI n := by rw [e_9]; exact hgy
          have hP : va_P D vwCl (wj [searchW cy se (th 0) u_2.1.1 u_2.1.2.1 u_2.1.2.2, hotelW cy th u_8, hotelW cy h x]) H := hP
          have hD : va_D A (wj [searchW cy se (th 0) u_2.1.1 u_2.1.2.1 u_2.1.2.2, hotelW cy th u_8, hotelW cy h x]) := hD
          have hco : Co u_8 x := by rw [e_9]; exact take_co hn hok.p hfy
          have hfu : Fr n x u_8 := by rw [e_9]; exact hfy.tr take_fr
          refine lv_aload_n hx hb dX5_bestPress_51 rfl (lv_at hl 3 rfl) ?_
          refine va_get (ci := 3) (v := .ref (th 0)) (C := RX5) (T := TX5) (N := 4) hx hb hts hin_X5 hown hK hP 0 rfl rfl 0 (by decide) (hts (.fieldLink RX5 12 "ButtonGuests$Search" "trial" "LButtonGuests$Hotel;") (by decide +kernel)) (fun _ h9 => h9) rfl dX5_bestPress_52 ?_
          refine lv_iload hx hb dX5_bestPress_55 (lv_at hl 0 rfl) ?_
          refine wr_i (fun u => wj [searchW cy se (th 0) u_2.1.1 u_2.1.2.1 u_2.1.2.2, hotelW cy th u, hotelW cy h x]) (va_runV (As := [.int (nI g)]) (rest := []) hF (c_X1_goIfWilling l D cy th n hn u_8 hgu H.size (nI g)) (cwV 1 hts gX5_bestPress_X1_goIfWilling rfl rfl rfl (by decide +kernel) ⟨Nat.le_of_ble_eq_true rfl, Nat.le_of_ble_eq_true rfl⟩) (wr_preV hK hP hD (zz_pick1 [searchW cy se (th 0) u_2.1.1 u_2.1.2.1 u_2.1.2.2, hotelW cy th u_8, hotelW cy h x] 1 [0, 2] (show List.Perm ([1] ++ [0, 2]) (List.range 3) by decide) rfl rfl) 0 0 rfl rfl rfl) rfl rfl hl.1 rfl (lv_room (Nat.le_of_ble_eq_true rfl)) dX5_bestPress_57 ⟨Nat.le_of_ble_eq_true rfl, Nat.le_of_ble_eq_true rfl⟩) hP hD hS hA (zz_pick1 [searchW cy se (th 0) u_2.1.1 u_2.1.2.1 u_2.1.2.2, hotelW cy th u_8, hotelW cy h x] 1 [0, 2] (show List.Perm ([1] ++ [0, 2]) (List.range 3) by decide) rfl rfl) (fun u => (zz_pick1 [searchW cy se (th 0) u_2.1.1 u_2.1.2.1 u_2.1.2.2, hotelW cy th u, hotelW cy h x] 1 [0, 2] (show List.Perm ([1] ++ [0, 2]) (List.range 3) by decide) rfl rfl)) (fun r_10 u_11 H locs e_12 hP hD hS => ?_)
          obtain ⟨rfl, e_12⟩ := e_12
          have hP : va_P D vwCl (wj [searchW cy se (th 0) u_2.1.1 u_2.1.2.1 u_2.1.2.2, hotelW cy th u_11, hotelW cy h x]) H := hP
          have hD : va_D A (wj [searchW cy se (th 0) u_2.1.1 u_2.1.2.1 u_2.1.2.2, hotelW cy th u_11, hotelW cy h x]) := hD
          refine lv_if_eq (tgt := 86) hx hb dX5_bestPress_60 (by decide) (fun c_13 => ?_) (fun c_13 => ?_)
          · have c_13 := zb_eq.mp c_13
            have e_12 : u_8 = u_11 := by rw [e_12]; simp only [hWill, if_neg c_13]
            subst e_12
            have hP : va_P D vwCl (wj [searchW cy se (th 0) u_2.1.1 u_2.1.2.1 u_2.1.2.2, hotelW cy th u_8, hotelW cy h x]) H := hP
            have hD : va_D A (wj [searchW cy se (th 0) u_2.1.1 u_2.1.2.1 u_2.1.2.2, hotelW cy th u_8, hotelW cy h x]) := hD
            refine lv_iinc (v := nI (g + 1)) (lv' := [(4, .int (nI (g + 1))), (3, .int (hPos n x)), (2, .int (nI (m9 + 1))), (0, .ref (se 0)), (1, .ref (h 0))]) hx hb dX5_bestPress_86 hl (k := 0) rfl (nI_add (g) 1) (by decide) rfl (fun ls hl => ?_)
            refine lv_goto (tgt := 31) hx hb dX5_bestPress_89 (by decide) ?_
            exact ih (g + 1) u_8 (by omega) (by omega) hgu hfu (lpE_next hgn hv (sBest_no (fun q => c_13 ((Co_reas hco).trans q.1)))) _ _ _ hP hD hS (lv_sub hl [0, 1, 2, 3, 4] rfl)
          · have c_13 := zb_ne.mp c_13
            have e_12 : u_11 = hGo n g u_8 := by rw [e_12]; simp only [hWill, if_pos c_13, nI_clamp (show g < 2 ^ 31 by omega)]
            have hwl : hReas x (nI g) = 0 := by rw [← Co_reas hco]; exact c_13
            obtain ⟨hk1, hk2⟩ := go_keep hgn (hok.co hco.sy)
            rw [← e_12] at hk1 hk2
            have hg3 : u_11.1.1 = nI n := hk1.1.symm.trans hgu
            have hco2 : Co u_11 (hGo n g x) := by rw [e_12]; exact Co_go hco
            refine lv_aload_n hx hb dX5_bestPress_63 rfl (lv_at hl 3 rfl) ?_
            refine va_get (ci := 3) (v := .ref (th 0)) (C := RX5) (T := TX5) (N := 4) hx hb hts hin_X5 hown hK hP 0 rfl rfl 0 (by decide) (hts (.fieldLink RX5 12 "ButtonGuests$Search" "trial" "LButtonGuests$Hotel;") (by decide +kernel)) (fun _ h9 => h9) rfl dX5_bestPress_64 ?_
            refine lv_aload_n hx hb dX5_bestPress_67 rfl (lv_at hl 3 rfl) ?_
            refine va_get (ci := 3) (v := .ref (th 0)) (C := RX5) (T := TX5) (N := 4) hx hb hts hin_X5 hown hK hP 0 rfl rfl 0 (by decide) (hts (.fieldLink RX5 12 "ButtonGuests$Search" "trial" "LButtonGuests$Hotel;") (by decide +kernel)) (fun _ h9 => h9) rfl dX5_bestPress_68 ?_
            refine rd_V (As := []) (rest := [.ref (th 0)]) hF (c_X1_position l D cy th n hn u_11 hg3 ) (cwV 0 hts gX5_bestPress_X1_position rfl rfl rfl (by decide +kernel) ⟨Nat.le_of_ble_eq_true rfl, Nat.le_of_ble_eq_true rfl⟩) hK (hP.sub [3, 4, 5, 6, 7, 8, 9, 10, 11, 12] rfl) 0 0 rfl rfl rfl rfl hl.1 rfl (Nat.le_of_ble_eq_true rfl) dX5_bestPress_71 ⟨Nat.le_of_ble_eq_true rfl, Nat.le_of_ble_eq_true rfl⟩ ?_
            refine lv_iload_n hx hb dX5_bestPress_74 rfl (lv_at hl 2 rfl) ?_
            refine lv_iconst (v := 1) hx hb dX5_bestPress_75 (by decide) ?_
            refine lv_isub hx hb dX5_bestPress_76 ?_
            refine zz_top (y := nI m9) (nI_pred m9) ?_
            refine wr_i (fun u => wj [searchW cy se (th 0) u_2.1.1 u_2.1.2.1 u_2.1.2.2, hotelW cy th u, hotelW cy h x]) (va_runS (As := [.ref (th 0), .int (hPos n u_11), .int (nI m9)]) (rest := []) hF (c_X5_aRowBringsAllHome l D cy th n hn m9 (by omega) u_11 u_11 hg3 Fr.rf hk2 H.size) (va_cwS 3 hts gX5_bestPress_X5_aRowBringsAllHome rfl rfl rfl (by decide +kernel) ⟨(by simp only [rm_X5_aRowBringsAllHome, rm_X5_bestPress]; omega), (by simp only [rm_X5_aRowBringsAllHome, rm_X5_bestPress]; omega)⟩) (wr_preS hK hP hD (zz_pick1 [searchW cy se (th 0) u_2.1.1 u_2.1.2.1 u_2.1.2.2, hotelW cy th u_11, hotelW cy h x] 1 [0, 2] (show List.Perm ([1] ++ [0, 2]) (List.range 3) by decide) rfl rfl)) rfl rfl hl.1 rfl (lv_room (Nat.le_of_ble_eq_true rfl)) dX5_bestPress_77 ⟨Nat.le_of_ble_eq_true rfl, Nat.le_of_ble_eq_true rfl⟩) hP hD hS hA (zz_pick1 [searchW cy se (th 0) u_2.1.1 u_2.1.2.1 u_2.1.2.2, hotelW cy th u_11, hotelW cy h x] 1 [0, 2] (show List.Perm ([1] ++ [0, 2]) (List.range 3) by decide) rfl rfl) (fun u => (zz_pick1 [searchW cy se (th 0) u_2.1.1 u_2.1.2.1 u_2.1.2.2, hotelW cy th u, hotelW cy h x] 1 [0, 2] (show List.Perm ([1] ++ [0, 2]) (List.range 3) by decide) rfl rfl)) (fun r_14 u_15 H locs e_16 hP hD hS => ?_)
            obtain ⟨rfl, e_16⟩ := e_16
            have hP : va_P D vwCl (wj [searchW cy se (th 0) u_2.1.1 u_2.1.2.1 u_2.1.2.2, hotelW cy th u_15, hotelW cy h x]) H := hP
            have hD : va_D A (wj [searchW cy se (th 0) u_2.1.1 u_2.1.2.1 u_2.1.2.2, hotelW cy th u_15, hotelW cy h x]) := hD
            refine lv_if_eq (tgt := 86) hx hb dX5_bestPress_80 (by decide) (fun c_17 => ?_) (fun c_17 => ?_)
            · have c_17 := zb_eq.mp c_17
              refine lv_iinc (v := nI (g + 1)) (lv' := [(4, .int (nI (g + 1))), (3, .int (hPos n x)), (2, .int (nI (m9 + 1))), (0, .ref (se 0)), (1, .ref (h 0))]) hx hb dX5_bestPress_86 hl (k := 0) rfl (nI_add (g) 1) (by decide) rfl (fun ls hl => ?_)
              refine lv_goto (tgt := 31) hx hb dX5_bestPress_89 (by decide) ?_
              exact ih (g + 1) u_15 (by omega) (by omega) (e_16.1.symm.trans hg3) ((hfu.tr hk1).tr e_16) (lpE_next hgn hv (sBest_no (fun q => c_17 ((Co_dfs hco2).trans q.2)))) _ _ _ hP hD hS (lv_sub hl [0, 1, 2, 3, 4] rfl)
            · have c_17 := zb_ne.mp c_17
              refine lv_iload hx hb dX5_bestPress_83 (lv_at hl 0 rfl) ?_
              exact hret _ _ H locs _ ((u_2.1.1, u_2.1.2.1, u_2.1.2.2), u_15) dX5_bestPress_85 hP hD hS ((lpE_ret hgn hv (sBest_yes hwl ((Co_dfs hco2).symm.trans c_17))).trans hbk.symm)
    exact loop (n + 1) 0 x (Nat.zero_le _) (by omega) hg Fr.rf rfl _ _ _ hP hD hS (lv_sub hl [0, 1, 2, 3, 4] rfl)
  · have c_4 : ¬ 0 < r_1 := c_4
    refine lv_iconst (v := (-1)) hx hb dX5_bestPress_10 (by decide) ?_
    exact hret _ _ H locs _ ((u_2.1.1, u_2.1.2.1, u_2.1.2.2), u_2.2) dX5_bestPress_11 hP hD hS (by simp only [hBst, if_neg (e_3 ▸ c_4)])
