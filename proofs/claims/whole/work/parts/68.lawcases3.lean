section CASE
variable {p : Program} {l : Launch} {e : Env} {s : State} {m : MethodId} {below : List Frame} {meth : Method} {c : Code} {Q : State → Prop} {D : va_G} {cy : Nat → ClassId} {sb o Ls i cells slots : Nat} {xs : Nat → Int32} {b t pa se th tr mb : Nat → Nat} {S : BS} {U : MS} {fo : Nat → Int64} {H : Heap} {locs : List Loc} {ls : Array Slot}
set_option maxHeartbeats 4000000 in
set_option maxRecDepth 100000 in
theorem law_set (C0 : lw_At p s m meth c sb Ls xs) (hl0 : l.stackTraces = false) (hK : va_K D vwCl (tyL cy) s) (hX : Gl (lwA s) s) (hi : i + 5 ≤ Ls) (hLs : Ls ≤ 2560) (hR : RelL S U) (hP : va_P D vwCl (allW cy o b t pa se th tr mb (fo, S) U) H) (hD : va_D (lwA s) (allW cy o b t pa se th tr mb (fo, S) U)) (hS : va_S (lwA s) s.heap H locs) (hl : lv_has ls 7 (lvL sb b mb o i)) (hcs : cells + 11 ≤ room_1.cells ∧ slots + 57 ≤ room_1.slots) (kk : lawNext p l e s m below meth c Q D cy sb o b t pa se th tr mb i (cells + 11) (slots + 57)) : W p l e room_1 s m #[.ref sb] below meth c H locs cells slots Q (F0 m 735 ls []) := by
  obtain ⟨hx, hb, hr, hml, hown, hts0, hXs, hbl, hlocks, hgv⟩ := id C0
  have hts : ∀ w ∈ wsL_law, w.before #[.ref sb] s = true := fun w h => hts0 w (wsL_law_in w h)
  have hF : CallFix p m c cL_law 7 s #[.ref sb] wsL_law RL := ⟨hx, hb, hml, hown, hts⟩
  have hb : c.code = cL_law := hb
  have hA : ∀ q, s.heap.size ≤ q → lwA s q := fun _ h => h
  have hbA : ¬ lwA s sb := Nat.not_le.mpr hbl
  obtain ⟨⟨z, f⟩, ⟨ct, L⟩, ⟨⟨sc, pf, bf⟩, y0⟩, y1, ⟨nw, x⟩, o0, o1⟩ := S
  obtain ⟨⟨rf, sn, ac, sp, ou⟩, tx, ⟨yn, yt, y3⟩, di, ke, ik⟩ := U
  obtain ⟨⟨n, hn, hRn⟩, ⟨ef, es, ht⟩, ⟨hc1, hc2, ea, -⟩, hs0, hs1⟩ := id hR
  obtain rfl : f = tx := ef
  obtain rfl : sn = nI z := es
  obtain rfl : ac = nI ct := ea
  have hOk : ∀ {o9 : Option HQ} {a9 : Int32} {w9 : HS}, relS o9 a9 w9 → ∀ q, o9 = some q → OkH q.2 := fun h q h2 => ⟨_, rst_x h h2⟩
  have ht1 : z ≤ 120 := ht.1
  have hc1 : ct ≤ L.length := hc1
  have hc2 : L.length ≤ 14 := hc2
  have hRn : RelN n x yn := hRn
  refine lv_aload_n hx hb dL_law_735 rfl (lv_at hl 1 rfl) ?_
  refine lv_aload_n hx hb dL_law_736 rfl (lv_at hl 0 rfl) ?_
  refine lv_iload hx hb dL_law_737 (lv_at hl 4 rfl) ?_
  refine lv_iconst (v := 1) hx hb dL_law_739 (by decide) ?_
  refine lv_iadd hx hb dL_law_740 ?_
  refine va_sld hx hb hXs hbl hbA hS (sc_in (k := 1) hi hLs (by decide)) dL_law_741 ?_
  refine lv_aload_n hx hb dL_law_742 rfl (lv_at hl 0 rfl) ?_
  refine lv_iload hx hb dL_law_743 (lv_at hl 4 rfl) ?_
  refine lv_iconst (v := 2) hx hb dL_law_745 (by decide) ?_
  refine lv_iadd hx hb dL_law_746 ?_
  refine va_sld hx hb hXs hbl hbA hS (sc_in (k := 2) hi hLs (by decide)) dL_law_747 ?_
  refine lv_aload_n hx hb dL_law_748 rfl (lv_at hl 3 rfl) ?_
  refine wr_i (fun u => allW cy o b t pa se th tr mb u ((rf, nI z, nI ct, sp, ou), f, (yn, yt, y3), di, ke, ik)) (vx_runSW (As := [.ref (b 0), .int (xs (nI i + 1).toNatClampNeg), .int (xs (nI i + 2).toNatClampNeg), .ref o]) (rest := []) hF (c_L_set l D cy hl0 b t pa se th tr nw z ht1 f ct L hc1 hc2 sc pf bf y0 y1 x o0 o1 n hn hRn.1 hRn.2.2.1 (xs (nI i + 1).toNatClampNeg) (xs (nI i + 2).toNatClampNeg) o fo H.size) (vx_cwSW 4 hts gL_law_L_set rfl rfl rfl (by decide +kernel) ⟨Nat.le_of_ble_eq_true rfl, Nat.le_of_ble_eq_true rfl⟩) (wrX_preS hK hP hD (List.Perm.refl _) Xok_l (fun U hU hW => Gl.at hX hS (zz_free hD (List.Perm.refl _) hS hA) hU hW)) rfl rfl hl.1 rfl (lv_room (Nat.le_of_ble_eq_true rfl)) dL_law_749 ⟨by have := hcs.1; omega, by have := hcs.2; omega⟩) hP hD hS hA (List.Perm.refl _) (fun _ => List.Perm.refl _) (fun k u1 H locs h1 hP hD hS => ?_)
  refine lv_istore (lv' := [(5, .int k), (0, .ref sb), (1, .ref (b 0)), (2, .ref (mb 0)), (3, .ref o), (4, .int (nI i))]) hx hb dL_law_752 hl (by decide) rfl (fun ls hl => ?_)
  refine lv_aload_n hx hb dL_law_754 rfl (lv_at hl 3 rfl) ?_
  refine lv_aload_n hx hb dL_law_755 rfl (lv_at hl 1 rfl) ?_
  refine lv_iload hx hb dL_law_756 (lv_at hl 5 rfl) ?_
  refine lv_iconst (v := 1) hx hb dL_law_758 (by decide) ?_
  refine lv_iadd hx hb dL_law_759 ?_
  refine va_sld hx hb hXs hbl hbA hS (sc_in (k := 1) hi hLs (by decide)) dL_law_760 ?_
  refine lv_aload_n hx hb dL_law_761 rfl (lv_at hl 1 rfl) ?_
  refine lv_iload hx hb dL_law_762 (lv_at hl 5 rfl) ?_
  refine lv_iconst (v := 2) hx hb dL_law_764 (by decide) ?_
  refine lv_iadd hx hb dL_law_765 ?_
  refine va_sld hx hb hXs hbl hbA hS (sc_in (k := 2) hi hLs (by decide)) dL_law_766 ?_
  refine wr_i (fun U => allW cy o b t pa se th tr mb u1 U) (va_runV (As := [.int (xs (nI i + 1).toNatClampNeg), .int (xs (nI i + 2).toNatClampNeg)]) (rest := []) hF (c_X8_set l D cy mb rf (nI z) (nI ct) sp ou f yn yt y3 di ke ik n hn hRn.gy ct (Nat.le_trans hc1 hc2) (xs (nI i + 1).toNatClampNeg) (xs (nI i + 2).toNatClampNeg) H.size) (cwV 2 hts gL_law_X8_set rfl rfl rfl (by decide +kernel) ⟨Nat.le_of_ble_eq_true rfl, Nat.le_of_ble_eq_true rfl⟩) (wr_preV hK hP hD List.perm_append_comm 0 5 rfl rfl rfl) rfl rfl hl.1 rfl (lv_room (Nat.le_of_ble_eq_true rfl)) dL_law_767 ⟨by have := hcs.1; omega, by have := hcs.2; omega⟩) hP hD hS hA List.perm_append_comm (fun _ => List.perm_append_comm) (fun r u2 H locs h2 hP hD hS => ?_)
  obtain ⟨e1, e2, e3⟩ := cmd_set (xs (nI i + 1).toNatClampNeg) (xs (nI i + 2).toNatClampNeg) hn hRn hR h1 h2
  refine lv_istore (lv' := [(6, .int r), (5, .int k), (0, .ref sb), (1, .ref (b 0)), (2, .ref (mb 0)), (3, .ref o), (4, .int (nI i))]) hx hb dL_law_770 hl (by decide) rfl (fun ls hl => ?_)
  refine lv_aload_n hx hb dL_law_772 rfl (lv_at hl 4 rfl) ?_
  refine rd_V (As := []) (rest := []) hF (c_X8_thrown l D cy mb u2.1.1 u2.1.2.1 u2.1.2.2.1 u2.1.2.2.2.1 u2.1.2.2.2.2) (cwV 0 hts gL_law_X8_thrown rfl rfl rfl (by decide +kernel) ⟨Nat.le_of_ble_eq_true rfl, Nat.le_of_ble_eq_true rfl⟩) hK ((zz_Pp hP List.perm_append_comm).sub [0] rfl) 0 5 rfl rfl rfl rfl hl.1 rfl (Nat.le_of_ble_eq_true rfl) dL_law_773 ⟨by have := hcs.1; omega, by have := hcs.2; omega⟩ ?_
  refine lv_iload hx hb dL_law_776 (lv_at hl 1 rfl) ?_
  refine lv_icmp_eq (tgt := 783) hx hb dL_law_778 (by decide) (fun _ => ?_) (fun c_1 => absurd e1 c_1)
  refine lv_iload hx hb dL_law_783 (lv_at hl 1 rfl) ?_
  refine lv_if_ne (tgt := 800) hx hb dL_law_785 (by decide) (fun c_2 => ?_) (fun c_2 => ?_)
  · refine lv_goto (tgt := 1420) hx hb dL_law_800 (by decide) ?_
    refine W.widen (k := cells + 11) (n := slots + 57) (by omega) (by omega) ?_
    exact kk u1 u2 _ _ _ e3 hP hD hS (lv_sub hl [2, 3, 4, 5, 6] rfl)
  · refine lv_aload_n hx hb dL_law_788 rfl (lv_at hl 5 rfl) ?_
    refine lv_iconst (v := 0) hx hb dL_law_789 (by decide) ?_
    refine va_lald hx hb hK hP 0 4 rfl rfl (show vp_in (nI 0) 1 from vp_in_nI (by decide) (by decide)) dL_law_790 ?_
    refine lv_iload hx hb dL_law_791 (lv_at hl 0 rfl) ?_
    refine lv_i2l hx hb dL_law_793 rfl ?_
    refine W.lcmp hx hb dL_law_794 ?_
    refine lv_if_eq (tgt := 800) hx hb dL_law_795 (by decide) (fun _ => ?_) (fun c_3 => absurd (show u1.1 (0 : Int32).toNatClampNeg = r.toInt64 from e2 c_2) (fun q => c_3 ((lg_cmp_eq _ _).mpr q)))
    refine lv_goto (tgt := 1420) hx hb dL_law_800 (by decide) ?_
    refine W.widen (k := cells + 11) (n := slots + 57) (by omega) (by omega) ?_
    exact kk u1 u2 _ _ _ e3 hP hD hS (lv_sub hl [2, 3, 4, 5, 6] rfl)
set_option maxHeartbeats 4000000 in
set_option maxRecDepth 100000 in
theorem law_undo (C0 : lw_At p s m meth c sb Ls xs) (hl0 : l.stackTraces = false) (hK : va_K D vwCl (tyL cy) s) (hX : Gl (lwA s) s) (hi : i + 5 ≤ Ls) (hLs : Ls ≤ 2560) (hR : RelL S U) (hP : va_P D vwCl (allW cy o b t pa se th tr mb (fo, S) U) H) (hD : va_D (lwA s) (allW cy o b t pa se th tr mb (fo, S) U)) (hS : va_S (lwA s) s.heap H locs) (hl : lv_has ls 7 (lvL sb b mb o i)) (hcs : cells + 11 ≤ room_1.cells ∧ slots + 57 ≤ room_1.slots) (kk : lawNext p l e s m below meth c Q D cy sb o b t pa se th tr mb i (cells + 11) (slots + 57)) : W p l e room_1 s m #[.ref sb] below meth c H locs cells slots Q (F0 m 803 ls []) := by
  obtain ⟨hx, hb, hr, hml, hown, hts0, hXs, hbl, hlocks, hgv⟩ := id C0
  have hts : ∀ w ∈ wsL_law, w.before #[.ref sb] s = true := fun w h => hts0 w (wsL_law_in w h)
  have hF : CallFix p m c cL_law 7 s #[.ref sb] wsL_law RL := ⟨hx, hb, hml, hown, hts⟩
  have hb : c.code = cL_law := hb
  have hA : ∀ q, s.heap.size ≤ q → lwA s q := fun _ h => h
  have hbA : ¬ lwA s sb := Nat.not_le.mpr hbl
  obtain ⟨⟨z, f⟩, ⟨ct, L⟩, ⟨⟨sc, pf, bf⟩, y0⟩, y1, ⟨nw, x⟩, o0, o1⟩ := S
  obtain ⟨⟨rf, sn, ac, sp, ou⟩, tx, ⟨yn, yt, y3⟩, di, ke, ik⟩ := U
  obtain ⟨⟨n, hn, hRn⟩, ⟨ef, es, ht⟩, ⟨hc1, hc2, ea, -⟩, hs0, hs1⟩ := id hR
  obtain rfl : f = tx := ef
  obtain rfl : sn = nI z := es
  obtain rfl : ac = nI ct := ea
  have hOk : ∀ {o9 : Option HQ} {a9 : Int32} {w9 : HS}, relS o9 a9 w9 → ∀ q, o9 = some q → OkH q.2 := fun h q h2 => ⟨_, rst_x h h2⟩
  have ht1 : z ≤ 120 := ht.1
  have hc1 : ct ≤ L.length := hc1
  have hc2 : L.length ≤ 14 := hc2
  have hRn : RelN n x yn := hRn
  refine lv_aload_n hx hb dL_law_803 rfl (lv_at hl 1 rfl) ?_
  refine lv_aload_n hx hb dL_law_804 rfl (lv_at hl 3 rfl) ?_
  refine wr_i (fun u => allW cy o b t pa se th tr mb u ((rf, nI z, nI ct, sp, ou), f, (yn, yt, y3), di, ke, ik)) (vx_runSW (As := [.ref (b 0), .ref o]) (rest := []) hF (c_L_undo l D cy hl0 b t pa se th tr nw z ht1 f ct L hc1 hc2 sc pf bf y0 y1 x o0 o1 n hn hRn.1 hRn.2.2.1 o fo H.size) (vx_cwSW 2 hts gL_law_L_undo rfl rfl rfl (by decide +kernel) ⟨Nat.le_of_ble_eq_true rfl, Nat.le_of_ble_eq_true rfl⟩) (wrX_preS hK hP hD (List.Perm.refl _) Xok_l (fun U hU hW => Gl.at hX hS (zz_free hD (List.Perm.refl _) hS hA) hU hW)) rfl rfl hl.1 rfl (lv_room (Nat.le_of_ble_eq_true rfl)) dL_law_805 ⟨by have := hcs.1; omega, by have := hcs.2; omega⟩) hP hD hS hA (List.Perm.refl _) (fun _ => List.Perm.refl _) (fun k u1 H locs h1 hP hD hS => ?_)
  refine lv_istore (lv' := [(5, .int k), (0, .ref sb), (1, .ref (b 0)), (2, .ref (mb 0)), (3, .ref o), (4, .int (nI i))]) hx hb dL_law_808 hl (by decide) rfl (fun ls hl => ?_)
  refine lv_aload_n hx hb dL_law_810 rfl (lv_at hl 3 rfl) ?_
  refine wr_i (fun U => allW cy o b t pa se th tr mb u1 U) (va_runV (As := []) (rest := []) hF (c_X8_undo l D cy mb rf (nI z) (nI ct) sp ou f yn yt y3 di ke ik n hn hRn.gy ct (Nat.le_trans hc1 hc2) H.size) (cwV 0 hts gL_law_X8_undo rfl rfl rfl (by decide +kernel) ⟨Nat.le_of_ble_eq_true rfl, Nat.le_of_ble_eq_true rfl⟩) (wr_preV hK hP hD List.perm_append_comm 0 5 rfl rfl rfl) rfl rfl hl.1 rfl (lv_room (Nat.le_of_ble_eq_true rfl)) dL_law_811 ⟨by have := hcs.1; omega, by have := hcs.2; omega⟩) hP hD hS hA List.perm_append_comm (fun _ => List.perm_append_comm) (fun r u2 H locs h2 hP hD hS => ?_)
  obtain ⟨e1, e2, e3⟩ := cmd_undo  hn hRn hR h1 h2
  refine lv_istore (lv' := [(6, .int r), (5, .int k), (0, .ref sb), (1, .ref (b 0)), (2, .ref (mb 0)), (3, .ref o), (4, .int (nI i))]) hx hb dL_law_814 hl (by decide) rfl (fun ls hl => ?_)
  refine lv_aload_n hx hb dL_law_816 rfl (lv_at hl 4 rfl) ?_
  refine rd_V (As := []) (rest := []) hF (c_X8_thrown l D cy mb u2.1.1 u2.1.2.1 u2.1.2.2.1 u2.1.2.2.2.1 u2.1.2.2.2.2) (cwV 0 hts gL_law_X8_thrown rfl rfl rfl (by decide +kernel) ⟨Nat.le_of_ble_eq_true rfl, Nat.le_of_ble_eq_true rfl⟩) hK ((zz_Pp hP List.perm_append_comm).sub [0] rfl) 0 5 rfl rfl rfl rfl hl.1 rfl (Nat.le_of_ble_eq_true rfl) dL_law_817 ⟨by have := hcs.1; omega, by have := hcs.2; omega⟩ ?_
  refine lv_iload hx hb dL_law_820 (lv_at hl 1 rfl) ?_
  refine lv_icmp_eq (tgt := 827) hx hb dL_law_822 (by decide) (fun _ => ?_) (fun c_1 => absurd e1 c_1)
  refine lv_iload hx hb dL_law_827 (lv_at hl 1 rfl) ?_
  refine lv_if_ne (tgt := 844) hx hb dL_law_829 (by decide) (fun c_2 => ?_) (fun c_2 => ?_)
  · refine lv_goto (tgt := 1420) hx hb dL_law_844 (by decide) ?_
    refine W.widen (k := cells + 11) (n := slots + 57) (by omega) (by omega) ?_
    exact kk u1 u2 _ _ _ e3 hP hD hS (lv_sub hl [2, 3, 4, 5, 6] rfl)
  · refine lv_aload_n hx hb dL_law_832 rfl (lv_at hl 5 rfl) ?_
    refine lv_iconst (v := 0) hx hb dL_law_833 (by decide) ?_
    refine va_lald hx hb hK hP 0 4 rfl rfl (show vp_in (nI 0) 1 from vp_in_nI (by decide) (by decide)) dL_law_834 ?_
    refine lv_iload hx hb dL_law_835 (lv_at hl 0 rfl) ?_
    refine lv_i2l hx hb dL_law_837 rfl ?_
    refine W.lcmp hx hb dL_law_838 ?_
    refine lv_if_eq (tgt := 844) hx hb dL_law_839 (by decide) (fun _ => ?_) (fun c_3 => absurd (show u1.1 (0 : Int32).toNatClampNeg = r.toInt64 from e2 c_2) (fun q => c_3 ((lg_cmp_eq _ _).mpr q)))
    refine lv_goto (tgt := 1420) hx hb dL_law_844 (by decide) ?_
    refine W.widen (k := cells + 11) (n := slots + 57) (by omega) (by omega) ?_
    exact kk u1 u2 _ _ _ e3 hP hD hS (lv_sub hl [2, 3, 4, 5, 6] rfl)
set_option maxHeartbeats 4000000 in
set_option maxRecDepth 100000 in
theorem law_why (C0 : lw_At p s m meth c sb Ls xs) (hl0 : l.stackTraces = false) (hK : va_K D vwCl (tyL cy) s) (hX : Gl (lwA s) s) (hi : i + 5 ≤ Ls) (hLs : Ls ≤ 2560) (hR : RelL S U) (hP : va_P D vwCl (allW cy o b t pa se th tr mb (fo, S) U) H) (hD : va_D (lwA s) (allW cy o b t pa se th tr mb (fo, S) U)) (hS : va_S (lwA s) s.heap H locs) (hl : lv_has ls 7 (lvL sb b mb o i)) (hcs : cells + 11 ≤ room_1.cells ∧ slots + 57 ≤ room_1.slots) (kk : lawNext p l e s m below meth c Q D cy sb o b t pa se th tr mb i (cells + 11) (slots + 57)) : W p l e room_1 s m #[.ref sb] below meth c H locs cells slots Q (F0 m 847 ls []) := by
  obtain ⟨hx, hb, hr, hml, hown, hts0, hXs, hbl, hlocks, hgv⟩ := id C0
  have hts : ∀ w ∈ wsL_law, w.before #[.ref sb] s = true := fun w h => hts0 w (wsL_law_in w h)
  have hF : CallFix p m c cL_law 7 s #[.ref sb] wsL_law RL := ⟨hx, hb, hml, hown, hts⟩
  have hb : c.code = cL_law := hb
  have hA : ∀ q, s.heap.size ≤ q → lwA s q := fun _ h => h
  have hbA : ¬ lwA s sb := Nat.not_le.mpr hbl
  obtain ⟨⟨z, f⟩, ⟨ct, L⟩, ⟨⟨sc, pf, bf⟩, y0⟩, y1, ⟨nw, x⟩, o0, o1⟩ := S
  obtain ⟨⟨rf, sn, ac, sp, ou⟩, tx, ⟨yn, yt, y3⟩, di, ke, ik⟩ := U
  obtain ⟨⟨n, hn, hRn⟩, ⟨ef, es, ht⟩, ⟨hc1, hc2, ea, -⟩, hs0, hs1⟩ := id hR
  obtain rfl : f = tx := ef
  obtain rfl : sn = nI z := es
  obtain rfl : ac = nI ct := ea
  have hOk : ∀ {o9 : Option HQ} {a9 : Int32} {w9 : HS}, relS o9 a9 w9 → ∀ q, o9 = some q → OkH q.2 := fun h q h2 => ⟨_, rst_x h h2⟩
  have ht1 : z ≤ 120 := ht.1
  have hc1 : ct ≤ L.length := hc1
  have hc2 : L.length ≤ 14 := hc2
  have hRn : RelN n x yn := hRn
  refine lv_aload_n hx hb dL_law_847 rfl (lv_at hl 1 rfl) ?_
  refine lv_aload_n hx hb dL_law_848 rfl (lv_at hl 0 rfl) ?_
  refine lv_iload hx hb dL_law_849 (lv_at hl 4 rfl) ?_
  refine lv_iconst (v := 1) hx hb dL_law_851 (by decide) ?_
  refine lv_iadd hx hb dL_law_852 ?_
  refine va_sld hx hb hXs hbl hbA hS (sc_in (k := 1) hi hLs (by decide)) dL_law_853 ?_
  refine lv_aload_n hx hb dL_law_854 rfl (lv_at hl 3 rfl) ?_
  refine wr_i (fun u => allW cy o b t pa se th tr mb u ((rf, nI z, nI ct, sp, ou), f, (yn, yt, y3), di, ke, ik)) (vx_runSW (As := [.ref (b 0), .int (xs (nI i + 1).toNatClampNeg), .ref o]) (rest := []) hF (c_L_why l D cy hl0 b t pa se th tr nw z ht1 f ct L hc1 hc2 sc pf bf y0 y1 x o0 o1 n hn hRn.1 hRn.2.2.1 (xs (nI i + 1).toNatClampNeg) o fo H.size) (vx_cwSW 3 hts gL_law_L_why rfl rfl rfl (by decide +kernel) ⟨Nat.le_of_ble_eq_true rfl, Nat.le_of_ble_eq_true rfl⟩) (wrX_preS hK hP hD (List.Perm.refl _) Xok_l (fun U hU hW => Gl.at hX hS (zz_free hD (List.Perm.refl _) hS hA) hU hW)) rfl rfl hl.1 rfl (lv_room (Nat.le_of_ble_eq_true rfl)) dL_law_855 ⟨by have := hcs.1; omega, by have := hcs.2; omega⟩) hP hD hS hA (List.Perm.refl _) (fun _ => List.Perm.refl _) (fun k u1 H locs h1 hP hD hS => ?_)
  refine lv_istore (lv' := [(5, .int k), (0, .ref sb), (1, .ref (b 0)), (2, .ref (mb 0)), (3, .ref o), (4, .int (nI i))]) hx hb dL_law_858 hl (by decide) rfl (fun ls hl => ?_)
  refine lv_aload_n hx hb dL_law_860 rfl (lv_at hl 3 rfl) ?_
  refine lv_aload_n hx hb dL_law_861 rfl (lv_at hl 1 rfl) ?_
  refine lv_iload hx hb dL_law_862 (lv_at hl 5 rfl) ?_
  refine lv_iconst (v := 1) hx hb dL_law_864 (by decide) ?_
  refine lv_iadd hx hb dL_law_865 ?_
  refine va_sld hx hb hXs hbl hbA hS (sc_in (k := 1) hi hLs (by decide)) dL_law_866 ?_
  refine wr_i (fun U => allW cy o b t pa se th tr mb u1 U) (va_runV (As := [.int (xs (nI i + 1).toNatClampNeg)]) (rest := []) hF (c_X8_why l D cy mb rf (nI z) (nI ct) sp ou f yn yt y3 di ke ik n hn hRn.gy (xs (nI i + 1).toNatClampNeg) H.size) (cwV 1 hts gL_law_X8_why rfl rfl rfl (by decide +kernel) ⟨Nat.le_of_ble_eq_true rfl, Nat.le_of_ble_eq_true rfl⟩) (wr_preV hK hP hD List.perm_append_comm 0 5 rfl rfl rfl) rfl rfl hl.1 rfl (lv_room (Nat.le_of_ble_eq_true rfl)) dL_law_867 ⟨by have := hcs.1; omega, by have := hcs.2; omega⟩) hP hD hS hA List.perm_append_comm (fun _ => List.perm_append_comm) (fun r u2 H locs h2 hP hD hS => ?_)
  obtain ⟨e1, e2, e3⟩ := cmd_why (xs (nI i + 1).toNatClampNeg) hn hRn hR h1 h2
  refine lv_istore (lv' := [(6, .int r), (5, .int k), (0, .ref sb), (1, .ref (b 0)), (2, .ref (mb 0)), (3, .ref o), (4, .int (nI i))]) hx hb dL_law_870 hl (by decide) rfl (fun ls hl => ?_)
  refine lv_aload_n hx hb dL_law_872 rfl (lv_at hl 4 rfl) ?_
  refine rd_V (As := []) (rest := []) hF (c_X8_thrown l D cy mb u2.1.1 u2.1.2.1 u2.1.2.2.1 u2.1.2.2.2.1 u2.1.2.2.2.2) (cwV 0 hts gL_law_X8_thrown rfl rfl rfl (by decide +kernel) ⟨Nat.le_of_ble_eq_true rfl, Nat.le_of_ble_eq_true rfl⟩) hK ((zz_Pp hP List.perm_append_comm).sub [0] rfl) 0 5 rfl rfl rfl rfl hl.1 rfl (Nat.le_of_ble_eq_true rfl) dL_law_873 ⟨by have := hcs.1; omega, by have := hcs.2; omega⟩ ?_
  refine lv_iload hx hb dL_law_876 (lv_at hl 1 rfl) ?_
  refine lv_icmp_eq (tgt := 883) hx hb dL_law_878 (by decide) (fun _ => ?_) (fun c_1 => absurd e1 c_1)
  refine lv_iload hx hb dL_law_883 (lv_at hl 1 rfl) ?_
  refine lv_if_ne (tgt := 900) hx hb dL_law_885 (by decide) (fun c_2 => ?_) (fun c_2 => ?_)
  · refine lv_goto (tgt := 1420) hx hb dL_law_900 (by decide) ?_
    refine W.widen (k := cells + 11) (n := slots + 57) (by omega) (by omega) ?_
    exact kk u1 u2 _ _ _ e3 hP hD hS (lv_sub hl [2, 3, 4, 5, 6] rfl)
  · refine lv_aload_n hx hb dL_law_888 rfl (lv_at hl 5 rfl) ?_
    refine lv_iconst (v := 0) hx hb dL_law_889 (by decide) ?_
    refine va_lald hx hb hK hP 0 4 rfl rfl (show vp_in (nI 0) 1 from vp_in_nI (by decide) (by decide)) dL_law_890 ?_
    refine lv_iload hx hb dL_law_891 (lv_at hl 0 rfl) ?_
    refine lv_i2l hx hb dL_law_893 rfl ?_
    refine W.lcmp hx hb dL_law_894 ?_
    refine lv_if_eq (tgt := 900) hx hb dL_law_895 (by decide) (fun _ => ?_) (fun c_3 => absurd (show u1.1 (0 : Int32).toNatClampNeg = r.toInt64 from e2 c_2) (fun q => c_3 ((lg_cmp_eq _ _).mpr q)))
    refine lv_goto (tgt := 1420) hx hb dL_law_900 (by decide) ?_
    refine W.widen (k := cells + 11) (n := slots + 57) (by omega) (by omega) ?_
    exact kk u1 u2 _ _ _ e3 hP hD hS (lv_sub hl [2, 3, 4, 5, 6] rfl)
set_option maxHeartbeats 4000000 in
set_option maxRecDepth 100000 in
theorem law_fewest (C0 : lw_At p s m meth c sb Ls xs) (hl0 : l.stackTraces = false) (hK : va_K D vwCl (tyL cy) s) (hX : Gl (lwA s) s) (hi : i + 5 ≤ Ls) (hLs : Ls ≤ 2560) (hR : RelL S U) (hP : va_P D vwCl (allW cy o b t pa se th tr mb (fo, S) U) H) (hD : va_D (lwA s) (allW cy o b t pa se th tr mb (fo, S) U)) (hS : va_S (lwA s) s.heap H locs) (hl : lv_has ls 7 (lvL sb b mb o i)) (hcs : cells + 11 ≤ room_1.cells ∧ slots + 57 ≤ room_1.slots) (kk : lawNext p l e s m below meth c Q D cy sb o b t pa se th tr mb i (cells + 11) (slots + 57)) : W p l e room_1 s m #[.ref sb] below meth c H locs cells slots Q (F0 m 903 ls []) := by
  obtain ⟨hx, hb, hr, hml, hown, hts0, hXs, hbl, hlocks, hgv⟩ := id C0
  have hts : ∀ w ∈ wsL_law, w.before #[.ref sb] s = true := fun w h => hts0 w (wsL_law_in w h)
  have hF : CallFix p m c cL_law 7 s #[.ref sb] wsL_law RL := ⟨hx, hb, hml, hown, hts⟩
  have hb : c.code = cL_law := hb
  have hA : ∀ q, s.heap.size ≤ q → lwA s q := fun _ h => h
  have hbA : ¬ lwA s sb := Nat.not_le.mpr hbl
  obtain ⟨⟨z, f⟩, ⟨ct, L⟩, ⟨⟨sc, pf, bf⟩, y0⟩, y1, ⟨nw, x⟩, o0, o1⟩ := S
  obtain ⟨⟨rf, sn, ac, sp, ou⟩, tx, ⟨yn, yt, y3⟩, di, ke, ik⟩ := U
  obtain ⟨⟨n, hn, hRn⟩, ⟨ef, es, ht⟩, ⟨hc1, hc2, ea, -⟩, hs0, hs1⟩ := id hR
  obtain rfl : f = tx := ef
  obtain rfl : sn = nI z := es
  obtain rfl : ac = nI ct := ea
  have hOk : ∀ {o9 : Option HQ} {a9 : Int32} {w9 : HS}, relS o9 a9 w9 → ∀ q, o9 = some q → OkH q.2 := fun h q h2 => ⟨_, rst_x h h2⟩
  have ht1 : z ≤ 120 := ht.1
  have hc1 : ct ≤ L.length := hc1
  have hc2 : L.length ≤ 14 := hc2
  have hRn : RelN n x yn := hRn
  refine lv_aload_n hx hb dL_law_903 rfl (lv_at hl 1 rfl) ?_
  refine lv_aload_n hx hb dL_law_904 rfl (lv_at hl 0 rfl) ?_
  refine lv_iload hx hb dL_law_905 (lv_at hl 4 rfl) ?_
  refine lv_iconst (v := 1) hx hb dL_law_907 (by decide) ?_
  refine lv_iadd hx hb dL_law_908 ?_
  refine va_sld hx hb hXs hbl hbA hS (sc_in (k := 1) hi hLs (by decide)) dL_law_909 ?_
  refine lv_aload_n hx hb dL_law_910 rfl (lv_at hl 3 rfl) ?_
  refine wr_i (fun u => allW cy o b t pa se th tr mb u ((rf, nI z, nI ct, sp, ou), f, (yn, yt, y3), di, ke, ik)) (vx_runSW (As := [.ref (b 0), .int (xs (nI i + 1).toNatClampNeg), .ref o]) (rest := []) hF (c_L_fewest l D cy hl0 b t pa se th tr nw z ht1 f ct L hc1 hc2 sc pf bf y0 y1 x o0 o1 n hn hRn.1 hRn.2.2.1 (xs (nI i + 1).toNatClampNeg) o fo H.size) (vx_cwSW 3 hts gL_law_L_fewest rfl rfl rfl (by decide +kernel) ⟨Nat.le_of_ble_eq_true rfl, Nat.le_of_ble_eq_true rfl⟩) (wrX_preS hK hP hD (List.Perm.refl _) Xok_l (fun U hU hW => Gl.at hX hS (zz_free hD (List.Perm.refl _) hS hA) hU hW)) rfl rfl hl.1 rfl (lv_room (Nat.le_of_ble_eq_true rfl)) dL_law_911 ⟨by have := hcs.1; omega, by have := hcs.2; omega⟩) hP hD hS hA (List.Perm.refl _) (fun _ => List.Perm.refl _) (fun k u1 H locs h1 hP hD hS => ?_)
  refine lv_istore (lv' := [(5, .int k), (0, .ref sb), (1, .ref (b 0)), (2, .ref (mb 0)), (3, .ref o), (4, .int (nI i))]) hx hb dL_law_914 hl (by decide) rfl (fun ls hl => ?_)
  refine lv_aload_n hx hb dL_law_916 rfl (lv_at hl 3 rfl) ?_
  refine lv_aload_n hx hb dL_law_917 rfl (lv_at hl 1 rfl) ?_
  refine lv_iload hx hb dL_law_918 (lv_at hl 5 rfl) ?_
  refine lv_iconst (v := 1) hx hb dL_law_920 (by decide) ?_
  refine lv_iadd hx hb dL_law_921 ?_
  refine va_sld hx hb hXs hbl hbA hS (sc_in (k := 1) hi hLs (by decide)) dL_law_922 ?_
  refine wr_i (fun U => allW cy o b t pa se th tr mb u1 U) (va_runV (As := [.int (xs (nI i + 1).toNatClampNeg)]) (rest := []) hF (c_X8_fewest l D cy mb rf (nI z) (nI ct) sp ou f yn yt y3 di ke ik n hn x hRn (xs (nI i + 1).toNatClampNeg) H.size) (cwV 1 hts gL_law_X8_fewest rfl rfl rfl (by decide +kernel) ⟨Nat.le_of_ble_eq_true rfl, Nat.le_of_ble_eq_true rfl⟩) (wr_preV hK hP hD List.perm_append_comm 0 5 rfl rfl rfl) rfl rfl hl.1 rfl (lv_room (Nat.le_of_ble_eq_true rfl)) dL_law_923 ⟨by have := hcs.1; omega, by have := hcs.2; omega⟩) hP hD hS hA List.perm_append_comm (fun _ => List.perm_append_comm) (fun r u2 H locs h2 hP hD hS => ?_)
  obtain ⟨e1, e2, e3⟩ := cmd_fewest (xs (nI i + 1).toNatClampNeg) hn hRn hR h1 h2
  refine lv_istore (lv' := [(6, .int r), (5, .int k), (0, .ref sb), (1, .ref (b 0)), (2, .ref (mb 0)), (3, .ref o), (4, .int (nI i))]) hx hb dL_law_926 hl (by decide) rfl (fun ls hl => ?_)
  refine lv_aload_n hx hb dL_law_928 rfl (lv_at hl 4 rfl) ?_
  refine rd_V (As := []) (rest := []) hF (c_X8_thrown l D cy mb u2.1.1 u2.1.2.1 u2.1.2.2.1 u2.1.2.2.2.1 u2.1.2.2.2.2) (cwV 0 hts gL_law_X8_thrown rfl rfl rfl (by decide +kernel) ⟨Nat.le_of_ble_eq_true rfl, Nat.le_of_ble_eq_true rfl⟩) hK ((zz_Pp hP List.perm_append_comm).sub [0] rfl) 0 5 rfl rfl rfl rfl hl.1 rfl (Nat.le_of_ble_eq_true rfl) dL_law_929 ⟨by have := hcs.1; omega, by have := hcs.2; omega⟩ ?_
  refine lv_iload hx hb dL_law_932 (lv_at hl 1 rfl) ?_
  refine lv_icmp_eq (tgt := 939) hx hb dL_law_934 (by decide) (fun _ => ?_) (fun c_1 => absurd e1 c_1)
  refine lv_iload hx hb dL_law_939 (lv_at hl 1 rfl) ?_
  refine lv_if_ne (tgt := 956) hx hb dL_law_941 (by decide) (fun c_2 => ?_) (fun c_2 => ?_)
  · refine lv_goto (tgt := 1420) hx hb dL_law_956 (by decide) ?_
    refine W.widen (k := cells + 11) (n := slots + 57) (by omega) (by omega) ?_
    exact kk u1 u2 _ _ _ e3 hP hD hS (lv_sub hl [2, 3, 4, 5, 6] rfl)
  · refine lv_aload_n hx hb dL_law_944 rfl (lv_at hl 5 rfl) ?_
    refine lv_iconst (v := 0) hx hb dL_law_945 (by decide) ?_
    refine va_lald hx hb hK hP 0 4 rfl rfl (show vp_in (nI 0) 1 from vp_in_nI (by decide) (by decide)) dL_law_946 ?_
    refine lv_iload hx hb dL_law_947 (lv_at hl 0 rfl) ?_
    refine lv_i2l hx hb dL_law_949 rfl ?_
    refine W.lcmp hx hb dL_law_950 ?_
    refine lv_if_eq (tgt := 956) hx hb dL_law_951 (by decide) (fun _ => ?_) (fun c_3 => absurd (show u1.1 (0 : Int32).toNatClampNeg = r.toInt64 from e2 c_2) (fun q => c_3 ((lg_cmp_eq _ _).mpr q)))
    refine lv_goto (tgt := 1420) hx hb dL_law_956 (by decide) ?_
    refine W.widen (k := cells + 11) (n := slots + 57) (by omega) (by omega) ?_
    exact kk u1 u2 _ _ _ e3 hP hD hS (lv_sub hl [2, 3, 4, 5, 6] rfl)
set_option maxHeartbeats 4000000 in
set_option maxRecDepth 100000 in
theorem law_best (C0 : lw_At p s m meth c sb Ls xs) (hl0 : l.stackTraces = false) (hK : va_K D vwCl (tyL cy) s) (hX : Gl (lwA s) s) (hi : i + 5 ≤ Ls) (hLs : Ls ≤ 2560) (hR : RelL S U) (hP : va_P D vwCl (allW cy o b t pa se th tr mb (fo, S) U) H) (hD : va_D (lwA s) (allW cy o b t pa se th tr mb (fo, S) U)) (hS : va_S (lwA s) s.heap H locs) (hl : lv_has ls 7 (lvL sb b mb o i)) (hcs : cells + 11 ≤ room_1.cells ∧ slots + 57 ≤ room_1.slots) (kk : lawNext p l e s m below meth c Q D cy sb o b t pa se th tr mb i (cells + 11) (slots + 57)) : W p l e room_1 s m #[.ref sb] below meth c H locs cells slots Q (F0 m 959 ls []) := by
  obtain ⟨hx, hb, hr, hml, hown, hts0, hXs, hbl, hlocks, hgv⟩ := id C0
  have hts : ∀ w ∈ wsL_law, w.before #[.ref sb] s = true := fun w h => hts0 w (wsL_law_in w h)
  have hF : CallFix p m c cL_law 7 s #[.ref sb] wsL_law RL := ⟨hx, hb, hml, hown, hts⟩
  have hb : c.code = cL_law := hb
  have hA : ∀ q, s.heap.size ≤ q → lwA s q := fun _ h => h
  have hbA : ¬ lwA s sb := Nat.not_le.mpr hbl
  obtain ⟨⟨z, f⟩, ⟨ct, L⟩, ⟨⟨sc, pf, bf⟩, y0⟩, y1, ⟨nw, x⟩, o0, o1⟩ := S
  obtain ⟨⟨rf, sn, ac, sp, ou⟩, tx, ⟨yn, yt, y3⟩, di, ke, ik⟩ := U
  obtain ⟨⟨n, hn, hRn⟩, ⟨ef, es, ht⟩, ⟨hc1, hc2, ea, -⟩, hs0, hs1⟩ := id hR
  obtain rfl : f = tx := ef
  obtain rfl : sn = nI z := es
  obtain rfl : ac = nI ct := ea
  have hOk : ∀ {o9 : Option HQ} {a9 : Int32} {w9 : HS}, relS o9 a9 w9 → ∀ q, o9 = some q → OkH q.2 := fun h q h2 => ⟨_, rst_x h h2⟩
  have ht1 : z ≤ 120 := ht.1
  have hc1 : ct ≤ L.length := hc1
  have hc2 : L.length ≤ 14 := hc2
  have hRn : RelN n x yn := hRn
  refine lv_aload_n hx hb dL_law_959 rfl (lv_at hl 1 rfl) ?_
  refine wr_i (fun u => allW cy o b t pa se th tr mb (fo, u) ((rf, nI z, nI ct, sp, ou), f, (yn, yt, y3), di, ke, ik)) (va_runV (As := []) (rest := []) hF (c_X7_best l D cy b t pa se th tr nw z ht1 f ct L hc1 hc2 sc pf bf y0 y1 x o0 o1 n hn hRn.1 hRn.2.2.1 H.size) (cwV 0 hts gL_law_X7_best rfl rfl rfl (by decide +kernel) ⟨Nat.le_of_ble_eq_true rfl, Nat.le_of_ble_eq_true rfl⟩) (wrX_preV hK hP hD pm3 0 4 rfl rfl rfl Xok_x (fun U hU hW => Gx.at hX.1 hS (zz_free hD pm3 hS hA) hU hW)) rfl rfl hl.1 rfl (lv_room (Nat.le_of_ble_eq_true rfl)) dL_law_960 ⟨by have := hcs.1; omega, by have := hcs.2; omega⟩) hP hD hS hA pm3 (fun _ => pm3) (fun r1 u H locs h1 hP hD hS => ?_)
  refine lv_aload_n hx hb dL_law_963 rfl (lv_at hl 2 rfl) ?_
  refine wr_i (fun U => allW cy o b t pa se th tr mb (fo, u) U) (va_runV (As := []) (rest := [.int r1]) hF (c_X8_best l D cy mb rf (nI z) (nI ct) sp ou f yn yt y3 di ke ik n hn x hRn H.size) (cwV 0 hts gL_law_X8_best rfl rfl rfl (by decide +kernel) ⟨Nat.le_of_ble_eq_true rfl, Nat.le_of_ble_eq_true rfl⟩) (wr_preV hK hP hD List.perm_append_comm 0 5 rfl rfl rfl) rfl rfl hl.1 rfl (lv_room (Nat.le_of_ble_eq_true rfl)) dL_law_964 ⟨by have := hcs.1; omega, by have := hcs.2; omega⟩) hP hD hS hA List.perm_append_comm (fun _ => List.perm_append_comm) (fun r u2 H locs h2 hP hD hS => ?_)
  obtain ⟨e1, e3⟩ := cmd_best hn hRn hR h1 h2
  refine lv_icmp_eq (tgt := 1420) hx hb dL_law_967 (by decide) (fun _ => ?_) (fun c_1 => absurd e1 c_1)
  refine W.widen (k := cells + 11) (n := slots + 57) (by omega) (by omega) ?_
  exact kk (fo, u) u2 _ _ _ e3 hP hD hS hl
set_option maxHeartbeats 4000000 in
set_option maxRecDepth 100000 in
theorem law_ifPressed (C0 : lw_At p s m meth c sb Ls xs) (hl0 : l.stackTraces = false) (hK : va_K D vwCl (tyL cy) s) (hX : Gl (lwA s) s) (hi : i + 5 ≤ Ls) (hLs : Ls ≤ 2560) (hR : RelL S U) (hP : va_P D vwCl (allW cy o b t pa se th tr mb (fo, S) U) H) (hD : va_D (lwA s) (allW cy o b t pa se th tr mb (fo, S) U)) (hS : va_S (lwA s) s.heap H locs) (hl : lv_has ls 7 (lvL sb b mb o i)) (hcs : cells + 11 ≤ room_1.cells ∧ slots + 57 ≤ room_1.slots) (kk : lawNext p l e s m below meth c Q D cy sb o b t pa se th tr mb i (cells + 11) (slots + 57)) : W p l e room_1 s m #[.ref sb] below meth c H locs cells slots Q (F0 m 972 ls []) := by
  obtain ⟨hx, hb, hr, hml, hown, hts0, hXs, hbl, hlocks, hgv⟩ := id C0
  have hts : ∀ w ∈ wsL_law, w.before #[.ref sb] s = true := fun w h => hts0 w (wsL_law_in w h)
  have hF : CallFix p m c cL_law 7 s #[.ref sb] wsL_law RL := ⟨hx, hb, hml, hown, hts⟩
  have hb : c.code = cL_law := hb
  have hA : ∀ q, s.heap.size ≤ q → lwA s q := fun _ h => h
  have hbA : ¬ lwA s sb := Nat.not_le.mpr hbl
  obtain ⟨⟨z, f⟩, ⟨ct, L⟩, ⟨⟨sc, pf, bf⟩, y0⟩, y1, ⟨nw, x⟩, o0, o1⟩ := S
  obtain ⟨⟨rf, sn, ac, sp, ou⟩, tx, ⟨yn, yt, y3⟩, di, ke, ik⟩ := U
  obtain ⟨⟨n, hn, hRn⟩, ⟨ef, es, ht⟩, ⟨hc1, hc2, ea, -⟩, hs0, hs1⟩ := id hR
  obtain rfl : f = tx := ef
  obtain rfl : sn = nI z := es
  obtain rfl : ac = nI ct := ea
  have hOk : ∀ {o9 : Option HQ} {a9 : Int32} {w9 : HS}, relS o9 a9 w9 → ∀ q, o9 = some q → OkH q.2 := fun h q h2 => ⟨_, rst_x h h2⟩
  have ht1 : z ≤ 120 := ht.1
  have hc1 : ct ≤ L.length := hc1
  have hc2 : L.length ≤ 14 := hc2
  have hRn : RelN n x yn := hRn
  refine lv_aload_n hx hb dL_law_972 rfl (lv_at hl 1 rfl) ?_
  refine lv_aload_n hx hb dL_law_973 rfl (lv_at hl 0 rfl) ?_
  refine lv_iload hx hb dL_law_974 (lv_at hl 4 rfl) ?_
  refine lv_iconst (v := 1) hx hb dL_law_976 (by decide) ?_
  refine lv_iadd hx hb dL_law_977 ?_
  refine va_sld hx hb hXs hbl hbA hS (sc_in (k := 1) hi hLs (by decide)) dL_law_978 ?_
  refine lv_aload_n hx hb dL_law_979 rfl (lv_at hl 0 rfl) ?_
  refine lv_iload hx hb dL_law_980 (lv_at hl 4 rfl) ?_
  refine lv_iconst (v := 2) hx hb dL_law_982 (by decide) ?_
  refine lv_iadd hx hb dL_law_983 ?_
  refine va_sld hx hb hXs hbl hbA hS (sc_in (k := 2) hi hLs (by decide)) dL_law_984 ?_
  refine lv_aload_n hx hb dL_law_985 rfl (lv_at hl 0 rfl) ?_
  refine lv_iload hx hb dL_law_986 (lv_at hl 4 rfl) ?_
  refine lv_iconst (v := 3) hx hb dL_law_988 (by decide) ?_
  refine lv_iadd hx hb dL_law_989 ?_
  refine va_sld hx hb hXs hbl hbA hS (sc_in (k := 3) hi hLs (by decide)) dL_law_990 ?_
  refine lv_aload_n hx hb dL_law_991 rfl (lv_at hl 3 rfl) ?_
  refine wr_i (fun u => allW cy o b t pa se th tr mb u ((rf, nI z, nI ct, sp, ou), f, (yn, yt, y3), di, ke, ik)) (vx_runSW (As := [.ref (b 0), .int (xs (nI i + 1).toNatClampNeg), .int (xs (nI i + 2).toNatClampNeg), .int (xs (nI i + 3).toNatClampNeg), .ref o]) (rest := []) hF (c_L_ifPressed l D cy hl0 b t pa se th tr nw z ht1 f ct L hc1 hc2 sc pf bf y0 y1 x o0 o1 n hn hRn.1 hRn.2.2.1 (xs (nI i + 1).toNatClampNeg) (xs (nI i + 2).toNatClampNeg) (xs (nI i + 3).toNatClampNeg) o fo H.size) (vx_cwSW 5 hts gL_law_L_ifPressed rfl rfl rfl (by decide +kernel) ⟨Nat.le_of_ble_eq_true rfl, Nat.le_of_ble_eq_true rfl⟩) (wrX_preS hK hP hD (List.Perm.refl _) Xok_l (fun U hU hW => Gl.at hX hS (zz_free hD (List.Perm.refl _) hS hA) hU hW)) rfl rfl hl.1 rfl (lv_room (Nat.le_of_ble_eq_true rfl)) dL_law_992 ⟨by have := hcs.1; omega, by have := hcs.2; omega⟩) hP hD hS hA (List.Perm.refl _) (fun _ => List.Perm.refl _) (fun k u1 H locs h1 hP hD hS => ?_)
  refine lv_istore (lv' := [(5, .int k), (0, .ref sb), (1, .ref (b 0)), (2, .ref (mb 0)), (3, .ref o), (4, .int (nI i))]) hx hb dL_law_995 hl (by decide) rfl (fun ls hl => ?_)
  refine lv_aload_n hx hb dL_law_997 rfl (lv_at hl 3 rfl) ?_
  refine lv_aload_n hx hb dL_law_998 rfl (lv_at hl 1 rfl) ?_
  refine lv_iload hx hb dL_law_999 (lv_at hl 5 rfl) ?_
  refine lv_iconst (v := 1) hx hb dL_law_1001 (by decide) ?_
  refine lv_iadd hx hb dL_law_1002 ?_
  refine va_sld hx hb hXs hbl hbA hS (sc_in (k := 1) hi hLs (by decide)) dL_law_1003 ?_
  refine lv_aload_n hx hb dL_law_1004 rfl (lv_at hl 1 rfl) ?_
  refine lv_iload hx hb dL_law_1005 (lv_at hl 5 rfl) ?_
  refine lv_iconst (v := 2) hx hb dL_law_1007 (by decide) ?_
  refine lv_iadd hx hb dL_law_1008 ?_
  refine va_sld hx hb hXs hbl hbA hS (sc_in (k := 2) hi hLs (by decide)) dL_law_1009 ?_
  refine lv_aload_n hx hb dL_law_1010 rfl (lv_at hl 1 rfl) ?_
  refine lv_iload hx hb dL_law_1011 (lv_at hl 5 rfl) ?_
  refine lv_iconst (v := 3) hx hb dL_law_1013 (by decide) ?_
  refine lv_iadd hx hb dL_law_1014 ?_
  refine va_sld hx hb hXs hbl hbA hS (sc_in (k := 3) hi hLs (by decide)) dL_law_1015 ?_
  refine wr_i (fun U => allW cy o b t pa se th tr mb u1 U) (va_runV (As := [.int (xs (nI i + 1).toNatClampNeg), .int (xs (nI i + 2).toNatClampNeg), .int (xs (nI i + 3).toNatClampNeg)]) (rest := []) hF (c_X8_ifPressed l D cy mb rf (nI z) (nI ct) sp ou f yn yt y3 di ke ik n hn x hRn (xs (nI i + 1).toNatClampNeg) (xs (nI i + 2).toNatClampNeg) (xs (nI i + 3).toNatClampNeg) H.size) (cwV 3 hts gL_law_X8_ifPressed rfl rfl rfl (by decide +kernel) ⟨Nat.le_of_ble_eq_true rfl, Nat.le_of_ble_eq_true rfl⟩) (wr_preV hK hP hD List.perm_append_comm 0 5 rfl rfl rfl) rfl rfl hl.1 rfl (lv_room (Nat.le_of_ble_eq_true rfl)) dL_law_1016 ⟨by have := hcs.1; omega, by have := hcs.2; omega⟩) hP hD hS hA List.perm_append_comm (fun _ => List.perm_append_comm) (fun r u2 H locs h2 hP hD hS => ?_)
  obtain ⟨e1, e2, e3⟩ := cmd_ifPressed (xs (nI i + 1).toNatClampNeg) (xs (nI i + 2).toNatClampNeg) (xs (nI i + 3).toNatClampNeg) hn hRn hR h1 h2
  refine lv_istore (lv' := [(6, .int r), (5, .int k), (0, .ref sb), (1, .ref (b 0)), (2, .ref (mb 0)), (3, .ref o), (4, .int (nI i))]) hx hb dL_law_1019 hl (by decide) rfl (fun ls hl => ?_)
  refine lv_aload_n hx hb dL_law_1021 rfl (lv_at hl 4 rfl) ?_
  refine rd_V (As := []) (rest := []) hF (c_X8_thrown l D cy mb u2.1.1 u2.1.2.1 u2.1.2.2.1 u2.1.2.2.2.1 u2.1.2.2.2.2) (cwV 0 hts gL_law_X8_thrown rfl rfl rfl (by decide +kernel) ⟨Nat.le_of_ble_eq_true rfl, Nat.le_of_ble_eq_true rfl⟩) hK ((zz_Pp hP List.perm_append_comm).sub [0] rfl) 0 5 rfl rfl rfl rfl hl.1 rfl (Nat.le_of_ble_eq_true rfl) dL_law_1022 ⟨by have := hcs.1; omega, by have := hcs.2; omega⟩ ?_
  refine lv_iload hx hb dL_law_1025 (lv_at hl 1 rfl) ?_
  refine lv_icmp_eq (tgt := 1032) hx hb dL_law_1027 (by decide) (fun _ => ?_) (fun c_1 => absurd e1 c_1)
  refine lv_iload hx hb dL_law_1032 (lv_at hl 1 rfl) ?_
  refine lv_if_ne (tgt := 1049) hx hb dL_law_1034 (by decide) (fun c_2 => ?_) (fun c_2 => ?_)
  · refine lv_goto (tgt := 1420) hx hb dL_law_1049 (by decide) ?_
    refine W.widen (k := cells + 11) (n := slots + 57) (by omega) (by omega) ?_
    exact kk u1 u2 _ _ _ e3 hP hD hS (lv_sub hl [2, 3, 4, 5, 6] rfl)
  · refine lv_aload_n hx hb dL_law_1037 rfl (lv_at hl 5 rfl) ?_
    refine lv_iconst (v := 0) hx hb dL_law_1038 (by decide) ?_
    refine va_lald hx hb hK hP 0 4 rfl rfl (show vp_in (nI 0) 1 from vp_in_nI (by decide) (by decide)) dL_law_1039 ?_
    refine lv_iload hx hb dL_law_1040 (lv_at hl 0 rfl) ?_
    refine lv_i2l hx hb dL_law_1042 rfl ?_
    refine W.lcmp hx hb dL_law_1043 ?_
    refine lv_if_eq (tgt := 1049) hx hb dL_law_1044 (by decide) (fun _ => ?_) (fun c_3 => absurd (show u1.1 (0 : Int32).toNatClampNeg = r.toInt64 from e2 c_2) (fun q => c_3 ((lg_cmp_eq _ _).mpr q)))
    refine lv_goto (tgt := 1420) hx hb dL_law_1049 (by decide) ?_
    refine W.widen (k := cells + 11) (n := slots + 57) (by omega) (by omega) ?_
    exact kk u1 u2 _ _ _ e3 hP hD hS (lv_sub hl [2, 3, 4, 5, 6] rfl)
end CASE
