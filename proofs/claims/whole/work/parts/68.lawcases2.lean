section CASE
variable {p : Program} {l : Launch} {e : Env} {s : State} {m : MethodId} {below : List Frame} {meth : Method} {c : Code} {Q : State → Prop} {D : va_G} {cy : Nat → ClassId} {sb o Ls i cells slots : Nat} {xs : Nat → Int32} {b t pa se th tr mb : Nat → Nat} {S : BS} {U : MS} {fo : Nat → Int64} {H : Heap} {locs : List Loc} {ls : Array Slot}
set_option maxHeartbeats 4000000 in
set_option maxRecDepth 100000 in
theorem law_floorOf (C0 : lw_At p s m meth c sb Ls xs) (hl0 : l.stackTraces = false) (hK : va_K D vwCl (tyL cy) s) (hX : Gl (lwA s) s) (hi : i + 5 ≤ Ls) (hLs : Ls ≤ 2560) (hR : RelL S U) (hP : va_P D vwCl (allW cy o b t pa se th tr mb (fo, S) U) H) (hD : va_D (lwA s) (allW cy o b t pa se th tr mb (fo, S) U)) (hS : va_S (lwA s) s.heap H locs) (hl : lv_has ls 7 (lvL sb b mb o i)) (hcs : cells + 11 ≤ room_1.cells ∧ slots + 57 ≤ room_1.slots) (kk : lawNext p l e s m below meth c Q D cy sb o b t pa se th tr mb i (cells + 11) (slots + 57)) : W p l e room_1 s m #[.ref sb] below meth c H locs cells slots Q (F0 m 394 ls []) := by
  obtain ⟨hx, hb, hr, hml, hown, hts0, hXs, hbl, hlocks, hgv⟩ := id C0
  have hts : ∀ w ∈ wsL_law, w.before #[.ref sb] s = true := fun w h => hts0 w (wsL_law_in w h)
  have hF : CallFix p m c cL_law 7 s #[.ref sb] wsL_law RL := ⟨hx, hb, hml, hown, hts⟩
  have hb : c.code = cL_law := hb
  have hA : ∀ q, s.heap.size ≤ q → lwA s q := fun _ h => h
  have hbA : ¬ lwA s sb := Nat.not_le.mpr hbl
  obtain ⟨⟨z, f⟩, ⟨ct, L⟩, ⟨⟨sc, pf, bf⟩, y0⟩, y1, ⟨nw, x⟩, o0, o1⟩ := S
  obtain ⟨⟨rf, sn, ac, sp, ou⟩, tx, ⟨yn, yt, y3⟩, di, ke, ik⟩ := U
  obtain ⟨⟨n, hn, hRn⟩, ⟨ef, es, ht⟩, ⟨hc1, hc2, ea, -⟩, hs0, hs1⟩ := id hR
  obtain rfl : f = tx := ef
  obtain rfl : sn = nI z := es
  obtain rfl : ac = nI ct := ea
  have hOk : ∀ {o9 : Option HQ} {a9 : Int32} {w9 : HS}, relS o9 a9 w9 → ∀ q, o9 = some q → OkH q.2 := fun h q h2 => ⟨_, rst_x h h2⟩
  have ht1 : z ≤ 120 := ht.1
  have hc1 : ct ≤ L.length := hc1
  have hc2 : L.length ≤ 14 := hc2
  have hRn : RelN n x yn := hRn
  refine lv_aload_n hx hb dL_law_394 rfl (lv_at hl 1 rfl) ?_
  refine lv_aload_n hx hb dL_law_395 rfl (lv_at hl 0 rfl) ?_
  refine lv_iload hx hb dL_law_396 (lv_at hl 4 rfl) ?_
  refine lv_iconst (v := 1) hx hb dL_law_398 (by decide) ?_
  refine lv_iadd hx hb dL_law_399 ?_
  refine va_sld hx hb hXs hbl hbA hS (sc_in (k := 1) hi hLs (by decide)) dL_law_400 ?_
  refine lv_aload_n hx hb dL_law_401 rfl (lv_at hl 0 rfl) ?_
  refine lv_iload hx hb dL_law_402 (lv_at hl 4 rfl) ?_
  refine lv_iconst (v := 2) hx hb dL_law_404 (by decide) ?_
  refine lv_iadd hx hb dL_law_405 ?_
  refine va_sld hx hb hXs hbl hbA hS (sc_in (k := 2) hi hLs (by decide)) dL_law_406 ?_
  refine lv_aload_n hx hb dL_law_407 rfl (lv_at hl 3 rfl) ?_
  refine wr_i (fun u => allW cy o b t pa se th tr mb u ((rf, nI z, nI ct, sp, ou), f, (yn, yt, y3), di, ke, ik)) (vx_runSW (As := [.ref (b 0), .int (xs (nI i + 1).toNatClampNeg), .int (xs (nI i + 2).toNatClampNeg), .ref o]) (rest := []) hF (c_L_floorOf l D cy hl0 b t pa se th tr nw z ht1 f ct L hc1 hc2 sc pf bf y0 y1 x o0 o1 n hn hRn.1 hRn.2.2.1 (xs (nI i + 1).toNatClampNeg) (xs (nI i + 2).toNatClampNeg) o fo H.size) (vx_cwSW 4 hts gL_law_L_floorOf rfl rfl rfl (by decide +kernel) ⟨Nat.le_of_ble_eq_true rfl, Nat.le_of_ble_eq_true rfl⟩) (wrX_preS hK hP hD (List.Perm.refl _) Xok_l (fun U hU hW => Gl.at hX hS (zz_free hD (List.Perm.refl _) hS hA) hU hW)) rfl rfl hl.1 rfl (lv_room (Nat.le_of_ble_eq_true rfl)) dL_law_408 ⟨by have := hcs.1; omega, by have := hcs.2; omega⟩) hP hD hS hA (List.Perm.refl _) (fun _ => List.Perm.refl _) (fun k u1 H locs h1 hP hD hS => ?_)
  refine lv_istore (lv' := [(5, .int k), (0, .ref sb), (1, .ref (b 0)), (2, .ref (mb 0)), (3, .ref o), (4, .int (nI i))]) hx hb dL_law_411 hl (by decide) rfl (fun ls hl => ?_)
  refine lv_aload_n hx hb dL_law_413 rfl (lv_at hl 3 rfl) ?_
  refine lv_aload_n hx hb dL_law_414 rfl (lv_at hl 1 rfl) ?_
  refine lv_iload hx hb dL_law_415 (lv_at hl 5 rfl) ?_
  refine lv_iconst (v := 1) hx hb dL_law_417 (by decide) ?_
  refine lv_iadd hx hb dL_law_418 ?_
  refine va_sld hx hb hXs hbl hbA hS (sc_in (k := 1) hi hLs (by decide)) dL_law_419 ?_
  refine lv_aload_n hx hb dL_law_420 rfl (lv_at hl 1 rfl) ?_
  refine lv_iload hx hb dL_law_421 (lv_at hl 5 rfl) ?_
  refine lv_iconst (v := 2) hx hb dL_law_423 (by decide) ?_
  refine lv_iadd hx hb dL_law_424 ?_
  refine va_sld hx hb hXs hbl hbA hS (sc_in (k := 2) hi hLs (by decide)) dL_law_425 ?_
  refine wr_i (fun U => allW cy o b t pa se th tr mb u1 U) (va_runV (As := [.int (xs (nI i + 1).toNatClampNeg), .int (xs (nI i + 2).toNatClampNeg)]) (rest := []) hF (c_X8_floorOf l D cy mb rf (nI z) (nI ct) sp ou f yn yt y3 di ke ik n hn hRn.gy (xs (nI i + 1).toNatClampNeg) (xs (nI i + 2).toNatClampNeg) H.size) (cwV 2 hts gL_law_X8_floorOf rfl rfl rfl (by decide +kernel) ⟨Nat.le_of_ble_eq_true rfl, Nat.le_of_ble_eq_true rfl⟩) (wr_preV hK hP hD List.perm_append_comm 0 5 rfl rfl rfl) rfl rfl hl.1 rfl (lv_room (Nat.le_of_ble_eq_true rfl)) dL_law_426 ⟨by have := hcs.1; omega, by have := hcs.2; omega⟩) hP hD hS hA List.perm_append_comm (fun _ => List.perm_append_comm) (fun r u2 H locs h2 hP hD hS => ?_)
  obtain ⟨e1, e2, e3⟩ := cmd_floorOf (xs (nI i + 1).toNatClampNeg) (xs (nI i + 2).toNatClampNeg) hn hRn hR h1 h2
  refine lv_istore (lv' := [(6, .int r), (5, .int k), (0, .ref sb), (1, .ref (b 0)), (2, .ref (mb 0)), (3, .ref o), (4, .int (nI i))]) hx hb dL_law_429 hl (by decide) rfl (fun ls hl => ?_)
  refine lv_aload_n hx hb dL_law_431 rfl (lv_at hl 4 rfl) ?_
  refine rd_V (As := []) (rest := []) hF (c_X8_thrown l D cy mb u2.1.1 u2.1.2.1 u2.1.2.2.1 u2.1.2.2.2.1 u2.1.2.2.2.2) (cwV 0 hts gL_law_X8_thrown rfl rfl rfl (by decide +kernel) ⟨Nat.le_of_ble_eq_true rfl, Nat.le_of_ble_eq_true rfl⟩) hK ((zz_Pp hP List.perm_append_comm).sub [0] rfl) 0 5 rfl rfl rfl rfl hl.1 rfl (Nat.le_of_ble_eq_true rfl) dL_law_432 ⟨by have := hcs.1; omega, by have := hcs.2; omega⟩ ?_
  refine lv_iload hx hb dL_law_435 (lv_at hl 1 rfl) ?_
  refine lv_icmp_eq (tgt := 442) hx hb dL_law_437 (by decide) (fun _ => ?_) (fun c_1 => absurd e1 c_1)
  refine lv_iload hx hb dL_law_442 (lv_at hl 1 rfl) ?_
  refine lv_if_ne (tgt := 459) hx hb dL_law_444 (by decide) (fun c_2 => ?_) (fun c_2 => ?_)
  · refine lv_goto (tgt := 1420) hx hb dL_law_459 (by decide) ?_
    refine W.widen (k := cells + 11) (n := slots + 57) (by omega) (by omega) ?_
    exact kk u1 u2 _ _ _ e3 hP hD hS (lv_sub hl [2, 3, 4, 5, 6] rfl)
  · refine lv_aload_n hx hb dL_law_447 rfl (lv_at hl 5 rfl) ?_
    refine lv_iconst (v := 0) hx hb dL_law_448 (by decide) ?_
    refine va_lald hx hb hK hP 0 4 rfl rfl (show vp_in (nI 0) 1 from vp_in_nI (by decide) (by decide)) dL_law_449 ?_
    refine lv_iload hx hb dL_law_450 (lv_at hl 0 rfl) ?_
    refine lv_i2l hx hb dL_law_452 rfl ?_
    refine W.lcmp hx hb dL_law_453 ?_
    refine lv_if_eq (tgt := 459) hx hb dL_law_454 (by decide) (fun _ => ?_) (fun c_3 => absurd (show u1.1 (0 : Int32).toNatClampNeg = r.toInt64 from e2 c_2) (fun q => c_3 ((lg_cmp_eq _ _).mpr q)))
    refine lv_goto (tgt := 1420) hx hb dL_law_459 (by decide) ?_
    refine W.widen (k := cells + 11) (n := slots + 57) (by omega) (by omega) ?_
    exact kk u1 u2 _ _ _ e3 hP hD hS (lv_sub hl [2, 3, 4, 5, 6] rfl)
set_option maxHeartbeats 4000000 in
set_option maxRecDepth 100000 in
theorem law_setting (C0 : lw_At p s m meth c sb Ls xs) (hl0 : l.stackTraces = false) (hK : va_K D vwCl (tyL cy) s) (hX : Gl (lwA s) s) (hi : i + 5 ≤ Ls) (hLs : Ls ≤ 2560) (hR : RelL S U) (hP : va_P D vwCl (allW cy o b t pa se th tr mb (fo, S) U) H) (hD : va_D (lwA s) (allW cy o b t pa se th tr mb (fo, S) U)) (hS : va_S (lwA s) s.heap H locs) (hl : lv_has ls 7 (lvL sb b mb o i)) (hcs : cells + 11 ≤ room_1.cells ∧ slots + 57 ≤ room_1.slots) (kk : lawNext p l e s m below meth c Q D cy sb o b t pa se th tr mb i (cells + 11) (slots + 57)) : W p l e room_1 s m #[.ref sb] below meth c H locs cells slots Q (F0 m 462 ls []) := by
  obtain ⟨hx, hb, hr, hml, hown, hts0, hXs, hbl, hlocks, hgv⟩ := id C0
  have hts : ∀ w ∈ wsL_law, w.before #[.ref sb] s = true := fun w h => hts0 w (wsL_law_in w h)
  have hF : CallFix p m c cL_law 7 s #[.ref sb] wsL_law RL := ⟨hx, hb, hml, hown, hts⟩
  have hb : c.code = cL_law := hb
  have hA : ∀ q, s.heap.size ≤ q → lwA s q := fun _ h => h
  have hbA : ¬ lwA s sb := Nat.not_le.mpr hbl
  obtain ⟨⟨z, f⟩, ⟨ct, L⟩, ⟨⟨sc, pf, bf⟩, y0⟩, y1, ⟨nw, x⟩, o0, o1⟩ := S
  obtain ⟨⟨rf, sn, ac, sp, ou⟩, tx, ⟨yn, yt, y3⟩, di, ke, ik⟩ := U
  obtain ⟨⟨n, hn, hRn⟩, ⟨ef, es, ht⟩, ⟨hc1, hc2, ea, -⟩, hs0, hs1⟩ := id hR
  obtain rfl : f = tx := ef
  obtain rfl : sn = nI z := es
  obtain rfl : ac = nI ct := ea
  have hOk : ∀ {o9 : Option HQ} {a9 : Int32} {w9 : HS}, relS o9 a9 w9 → ∀ q, o9 = some q → OkH q.2 := fun h q h2 => ⟨_, rst_x h h2⟩
  have ht1 : z ≤ 120 := ht.1
  have hc1 : ct ≤ L.length := hc1
  have hc2 : L.length ≤ 14 := hc2
  have hRn : RelN n x yn := hRn
  refine lv_aload_n hx hb dL_law_462 rfl (lv_at hl 1 rfl) ?_
  refine lv_aload_n hx hb dL_law_463 rfl (lv_at hl 0 rfl) ?_
  refine lv_iload hx hb dL_law_464 (lv_at hl 4 rfl) ?_
  refine lv_iconst (v := 1) hx hb dL_law_466 (by decide) ?_
  refine lv_iadd hx hb dL_law_467 ?_
  refine va_sld hx hb hXs hbl hbA hS (sc_in (k := 1) hi hLs (by decide)) dL_law_468 ?_
  refine lv_aload_n hx hb dL_law_469 rfl (lv_at hl 3 rfl) ?_
  refine wr_i (fun u => allW cy o b t pa se th tr mb u ((rf, nI z, nI ct, sp, ou), f, (yn, yt, y3), di, ke, ik)) (vx_runSW (As := [.ref (b 0), .int (xs (nI i + 1).toNatClampNeg), .ref o]) (rest := []) hF (c_L_setting l D cy hl0 b t pa se th tr nw z ht1 f ct L hc1 hc2 sc pf bf y0 y1 x o0 o1 n hn hRn.1 hRn.2.2.1 (xs (nI i + 1).toNatClampNeg) o fo H.size) (vx_cwSW 3 hts gL_law_L_setting rfl rfl rfl (by decide +kernel) ⟨Nat.le_of_ble_eq_true rfl, Nat.le_of_ble_eq_true rfl⟩) (wrX_preS hK hP hD (List.Perm.refl _) Xok_l (fun U hU hW => Gl.at hX hS (zz_free hD (List.Perm.refl _) hS hA) hU hW)) rfl rfl hl.1 rfl (lv_room (Nat.le_of_ble_eq_true rfl)) dL_law_470 ⟨by have := hcs.1; omega, by have := hcs.2; omega⟩) hP hD hS hA (List.Perm.refl _) (fun _ => List.Perm.refl _) (fun k u1 H locs h1 hP hD hS => ?_)
  refine lv_istore (lv' := [(5, .int k), (0, .ref sb), (1, .ref (b 0)), (2, .ref (mb 0)), (3, .ref o), (4, .int (nI i))]) hx hb dL_law_473 hl (by decide) rfl (fun ls hl => ?_)
  refine lv_aload_n hx hb dL_law_475 rfl (lv_at hl 3 rfl) ?_
  refine lv_aload_n hx hb dL_law_476 rfl (lv_at hl 1 rfl) ?_
  refine lv_iload hx hb dL_law_477 (lv_at hl 5 rfl) ?_
  refine lv_iconst (v := 1) hx hb dL_law_479 (by decide) ?_
  refine lv_iadd hx hb dL_law_480 ?_
  refine va_sld hx hb hXs hbl hbA hS (sc_in (k := 1) hi hLs (by decide)) dL_law_481 ?_
  refine wr_i (fun U => allW cy o b t pa se th tr mb u1 U) (va_runV (As := [.int (xs (nI i + 1).toNatClampNeg)]) (rest := []) hF (c_X8_setting l D cy mb rf (nI z) (nI ct) sp ou f yn yt y3 di ke ik n hn hRn.gy (xs (nI i + 1).toNatClampNeg) H.size) (cwV 1 hts gL_law_X8_setting rfl rfl rfl (by decide +kernel) ⟨Nat.le_of_ble_eq_true rfl, Nat.le_of_ble_eq_true rfl⟩) (wr_preV hK hP hD List.perm_append_comm 0 5 rfl rfl rfl) rfl rfl hl.1 rfl (lv_room (Nat.le_of_ble_eq_true rfl)) dL_law_482 ⟨by have := hcs.1; omega, by have := hcs.2; omega⟩) hP hD hS hA List.perm_append_comm (fun _ => List.perm_append_comm) (fun r u2 H locs h2 hP hD hS => ?_)
  obtain ⟨e1, e2, e3⟩ := cmd_setting (xs (nI i + 1).toNatClampNeg) hn hRn hR h1 h2
  refine lv_istore (lv' := [(6, .int r), (5, .int k), (0, .ref sb), (1, .ref (b 0)), (2, .ref (mb 0)), (3, .ref o), (4, .int (nI i))]) hx hb dL_law_485 hl (by decide) rfl (fun ls hl => ?_)
  refine lv_aload_n hx hb dL_law_487 rfl (lv_at hl 4 rfl) ?_
  refine rd_V (As := []) (rest := []) hF (c_X8_thrown l D cy mb u2.1.1 u2.1.2.1 u2.1.2.2.1 u2.1.2.2.2.1 u2.1.2.2.2.2) (cwV 0 hts gL_law_X8_thrown rfl rfl rfl (by decide +kernel) ⟨Nat.le_of_ble_eq_true rfl, Nat.le_of_ble_eq_true rfl⟩) hK ((zz_Pp hP List.perm_append_comm).sub [0] rfl) 0 5 rfl rfl rfl rfl hl.1 rfl (Nat.le_of_ble_eq_true rfl) dL_law_488 ⟨by have := hcs.1; omega, by have := hcs.2; omega⟩ ?_
  refine lv_iload hx hb dL_law_491 (lv_at hl 1 rfl) ?_
  refine lv_icmp_eq (tgt := 498) hx hb dL_law_493 (by decide) (fun _ => ?_) (fun c_1 => absurd e1 c_1)
  refine lv_iload hx hb dL_law_498 (lv_at hl 1 rfl) ?_
  refine lv_if_ne (tgt := 515) hx hb dL_law_500 (by decide) (fun c_2 => ?_) (fun c_2 => ?_)
  · refine lv_goto (tgt := 1420) hx hb dL_law_515 (by decide) ?_
    refine W.widen (k := cells + 11) (n := slots + 57) (by omega) (by omega) ?_
    exact kk u1 u2 _ _ _ e3 hP hD hS (lv_sub hl [2, 3, 4, 5, 6] rfl)
  · refine lv_aload_n hx hb dL_law_503 rfl (lv_at hl 5 rfl) ?_
    refine lv_iconst (v := 0) hx hb dL_law_504 (by decide) ?_
    refine va_lald hx hb hK hP 0 4 rfl rfl (show vp_in (nI 0) 1 from vp_in_nI (by decide) (by decide)) dL_law_505 ?_
    refine lv_iload hx hb dL_law_506 (lv_at hl 0 rfl) ?_
    refine lv_i2l hx hb dL_law_508 rfl ?_
    refine W.lcmp hx hb dL_law_509 ?_
    refine lv_if_eq (tgt := 515) hx hb dL_law_510 (by decide) (fun _ => ?_) (fun c_3 => absurd (show u1.1 (0 : Int32).toNatClampNeg = r.toInt64 from e2 c_2) (fun q => c_3 ((lg_cmp_eq _ _).mpr q)))
    refine lv_goto (tgt := 1420) hx hb dL_law_515 (by decide) ?_
    refine W.widen (k := cells + 11) (n := slots + 57) (by omega) (by omega) ?_
    exact kk u1 u2 _ _ _ e3 hP hD hS (lv_sub hl [2, 3, 4, 5, 6] rfl)
set_option maxHeartbeats 4000000 in
set_option maxRecDepth 100000 in
theorem law_come (C0 : lw_At p s m meth c sb Ls xs) (hl0 : l.stackTraces = false) (hK : va_K D vwCl (tyL cy) s) (hX : Gl (lwA s) s) (hi : i + 5 ≤ Ls) (hLs : Ls ≤ 2560) (hR : RelL S U) (hP : va_P D vwCl (allW cy o b t pa se th tr mb (fo, S) U) H) (hD : va_D (lwA s) (allW cy o b t pa se th tr mb (fo, S) U)) (hS : va_S (lwA s) s.heap H locs) (hl : lv_has ls 7 (lvL sb b mb o i)) (hcs : cells + 11 ≤ room_1.cells ∧ slots + 57 ≤ room_1.slots) (kk : lawNext p l e s m below meth c Q D cy sb o b t pa se th tr mb i (cells + 11) (slots + 57)) : W p l e room_1 s m #[.ref sb] below meth c H locs cells slots Q (F0 m 518 ls []) := by
  obtain ⟨hx, hb, hr, hml, hown, hts0, hXs, hbl, hlocks, hgv⟩ := id C0
  have hts : ∀ w ∈ wsL_law, w.before #[.ref sb] s = true := fun w h => hts0 w (wsL_law_in w h)
  have hF : CallFix p m c cL_law 7 s #[.ref sb] wsL_law RL := ⟨hx, hb, hml, hown, hts⟩
  have hb : c.code = cL_law := hb
  have hA : ∀ q, s.heap.size ≤ q → lwA s q := fun _ h => h
  have hbA : ¬ lwA s sb := Nat.not_le.mpr hbl
  obtain ⟨⟨z, f⟩, ⟨ct, L⟩, ⟨⟨sc, pf, bf⟩, y0⟩, y1, ⟨nw, x⟩, o0, o1⟩ := S
  obtain ⟨⟨rf, sn, ac, sp, ou⟩, tx, ⟨yn, yt, y3⟩, di, ke, ik⟩ := U
  obtain ⟨⟨n, hn, hRn⟩, ⟨ef, es, ht⟩, ⟨hc1, hc2, ea, -⟩, hs0, hs1⟩ := id hR
  obtain rfl : f = tx := ef
  obtain rfl : sn = nI z := es
  obtain rfl : ac = nI ct := ea
  have hOk : ∀ {o9 : Option HQ} {a9 : Int32} {w9 : HS}, relS o9 a9 w9 → ∀ q, o9 = some q → OkH q.2 := fun h q h2 => ⟨_, rst_x h h2⟩
  have ht1 : z ≤ 120 := ht.1
  have hc1 : ct ≤ L.length := hc1
  have hc2 : L.length ≤ 14 := hc2
  have hRn : RelN n x yn := hRn
  refine lv_aload_n hx hb dL_law_518 rfl (lv_at hl 1 rfl) ?_
  refine lv_aload_n hx hb dL_law_519 rfl (lv_at hl 0 rfl) ?_
  refine lv_iload hx hb dL_law_520 (lv_at hl 4 rfl) ?_
  refine lv_iconst (v := 1) hx hb dL_law_522 (by decide) ?_
  refine lv_iadd hx hb dL_law_523 ?_
  refine va_sld hx hb hXs hbl hbA hS (sc_in (k := 1) hi hLs (by decide)) dL_law_524 ?_
  refine lv_aload_n hx hb dL_law_525 rfl (lv_at hl 0 rfl) ?_
  refine lv_iload hx hb dL_law_526 (lv_at hl 4 rfl) ?_
  refine lv_iconst (v := 2) hx hb dL_law_528 (by decide) ?_
  refine lv_iadd hx hb dL_law_529 ?_
  refine va_sld hx hb hXs hbl hbA hS (sc_in (k := 2) hi hLs (by decide)) dL_law_530 ?_
  refine lv_aload_n hx hb dL_law_531 rfl (lv_at hl 0 rfl) ?_
  refine lv_iload hx hb dL_law_532 (lv_at hl 4 rfl) ?_
  refine lv_iconst (v := 3) hx hb dL_law_534 (by decide) ?_
  refine lv_iadd hx hb dL_law_535 ?_
  refine va_sld hx hb hXs hbl hbA hS (sc_in (k := 3) hi hLs (by decide)) dL_law_536 ?_
  refine lv_aload_n hx hb dL_law_537 rfl (lv_at hl 0 rfl) ?_
  refine lv_iload hx hb dL_law_538 (lv_at hl 4 rfl) ?_
  refine lv_iconst (v := 4) hx hb dL_law_540 (by decide) ?_
  refine lv_iadd hx hb dL_law_541 ?_
  refine va_sld hx hb hXs hbl hbA hS (sc_in (k := 4) hi hLs (by decide)) dL_law_542 ?_
  refine lv_aload_n hx hb dL_law_543 rfl (lv_at hl 3 rfl) ?_
  refine wr_i (fun u => allW cy o b t pa se th tr mb u ((rf, nI z, nI ct, sp, ou), f, (yn, yt, y3), di, ke, ik)) (vx_runSW (As := [.ref (b 0), .int (xs (nI i + 1).toNatClampNeg), .int (xs (nI i + 2).toNatClampNeg), .int (xs (nI i + 3).toNatClampNeg), .int (xs (nI i + 4).toNatClampNeg), .ref o]) (rest := []) hF (c_L_come l D cy hl0 b t pa se th tr nw z ht1 f ct L hc1 hc2 sc pf bf y0 y1 x o0 o1 n hn hRn.1 hRn.2.2.1 (xs (nI i + 1).toNatClampNeg) (xs (nI i + 2).toNatClampNeg) (xs (nI i + 3).toNatClampNeg) (xs (nI i + 4).toNatClampNeg) o fo H.size) (vx_cwSW 6 hts gL_law_L_come rfl rfl rfl (by decide +kernel) ⟨Nat.le_of_ble_eq_true rfl, Nat.le_of_ble_eq_true rfl⟩) (wrX_preS hK hP hD (List.Perm.refl _) Xok_l (fun U hU hW => Gl.at hX hS (zz_free hD (List.Perm.refl _) hS hA) hU hW)) rfl rfl hl.1 rfl (lv_room (Nat.le_of_ble_eq_true rfl)) dL_law_544 ⟨by have := hcs.1; omega, by have := hcs.2; omega⟩) hP hD hS hA (List.Perm.refl _) (fun _ => List.Perm.refl _) (fun k u1 H locs h1 hP hD hS => ?_)
  refine lv_istore (lv' := [(5, .int k), (0, .ref sb), (1, .ref (b 0)), (2, .ref (mb 0)), (3, .ref o), (4, .int (nI i))]) hx hb dL_law_547 hl (by decide) rfl (fun ls hl => ?_)
  refine lv_aload_n hx hb dL_law_549 rfl (lv_at hl 3 rfl) ?_
  refine lv_aload_n hx hb dL_law_550 rfl (lv_at hl 1 rfl) ?_
  refine lv_iload hx hb dL_law_551 (lv_at hl 5 rfl) ?_
  refine lv_iconst (v := 1) hx hb dL_law_553 (by decide) ?_
  refine lv_iadd hx hb dL_law_554 ?_
  refine va_sld hx hb hXs hbl hbA hS (sc_in (k := 1) hi hLs (by decide)) dL_law_555 ?_
  refine lv_aload_n hx hb dL_law_556 rfl (lv_at hl 1 rfl) ?_
  refine lv_iload hx hb dL_law_557 (lv_at hl 5 rfl) ?_
  refine lv_iconst (v := 2) hx hb dL_law_559 (by decide) ?_
  refine lv_iadd hx hb dL_law_560 ?_
  refine va_sld hx hb hXs hbl hbA hS (sc_in (k := 2) hi hLs (by decide)) dL_law_561 ?_
  refine lv_aload_n hx hb dL_law_562 rfl (lv_at hl 1 rfl) ?_
  refine lv_iload hx hb dL_law_563 (lv_at hl 5 rfl) ?_
  refine lv_iconst (v := 3) hx hb dL_law_565 (by decide) ?_
  refine lv_iadd hx hb dL_law_566 ?_
  refine va_sld hx hb hXs hbl hbA hS (sc_in (k := 3) hi hLs (by decide)) dL_law_567 ?_
  refine lv_aload_n hx hb dL_law_568 rfl (lv_at hl 1 rfl) ?_
  refine lv_iload hx hb dL_law_569 (lv_at hl 5 rfl) ?_
  refine lv_iconst (v := 4) hx hb dL_law_571 (by decide) ?_
  refine lv_iadd hx hb dL_law_572 ?_
  refine va_sld hx hb hXs hbl hbA hS (sc_in (k := 4) hi hLs (by decide)) dL_law_573 ?_
  refine wr_i (fun U => allW cy o b t pa se th tr mb u1 U) (va_runV (As := [.int (xs (nI i + 1).toNatClampNeg), .int (xs (nI i + 2).toNatClampNeg), .int (xs (nI i + 3).toNatClampNeg), .int (xs (nI i + 4).toNatClampNeg)]) (rest := []) hF (c_X8_come l D cy mb rf (nI z) (nI ct) sp ou f yn yt y3 di ke ik n hn hRn.gy ct (Nat.le_trans hc1 hc2) (xs (nI i + 1).toNatClampNeg) (xs (nI i + 2).toNatClampNeg) (xs (nI i + 3).toNatClampNeg) (xs (nI i + 4).toNatClampNeg) H.size) (cwV 4 hts gL_law_X8_come rfl rfl rfl (by decide +kernel) ⟨Nat.le_of_ble_eq_true rfl, Nat.le_of_ble_eq_true rfl⟩) (wr_preV hK hP hD List.perm_append_comm 0 5 rfl rfl rfl) rfl rfl hl.1 rfl (lv_room (Nat.le_of_ble_eq_true rfl)) dL_law_574 ⟨by have := hcs.1; omega, by have := hcs.2; omega⟩) hP hD hS hA List.perm_append_comm (fun _ => List.perm_append_comm) (fun r u2 H locs h2 hP hD hS => ?_)
  obtain ⟨e1, e2, e3⟩ := cmd_come (xs (nI i + 1).toNatClampNeg) (xs (nI i + 2).toNatClampNeg) (xs (nI i + 3).toNatClampNeg) (xs (nI i + 4).toNatClampNeg) hn hRn hR h1 h2
  refine lv_istore (lv' := [(6, .int r), (5, .int k), (0, .ref sb), (1, .ref (b 0)), (2, .ref (mb 0)), (3, .ref o), (4, .int (nI i))]) hx hb dL_law_577 hl (by decide) rfl (fun ls hl => ?_)
  refine lv_aload_n hx hb dL_law_579 rfl (lv_at hl 4 rfl) ?_
  refine rd_V (As := []) (rest := []) hF (c_X8_thrown l D cy mb u2.1.1 u2.1.2.1 u2.1.2.2.1 u2.1.2.2.2.1 u2.1.2.2.2.2) (cwV 0 hts gL_law_X8_thrown rfl rfl rfl (by decide +kernel) ⟨Nat.le_of_ble_eq_true rfl, Nat.le_of_ble_eq_true rfl⟩) hK ((zz_Pp hP List.perm_append_comm).sub [0] rfl) 0 5 rfl rfl rfl rfl hl.1 rfl (Nat.le_of_ble_eq_true rfl) dL_law_580 ⟨by have := hcs.1; omega, by have := hcs.2; omega⟩ ?_
  refine lv_iload hx hb dL_law_583 (lv_at hl 1 rfl) ?_
  refine lv_icmp_eq (tgt := 590) hx hb dL_law_585 (by decide) (fun _ => ?_) (fun c_1 => absurd e1 c_1)
  refine lv_iload hx hb dL_law_590 (lv_at hl 1 rfl) ?_
  refine lv_if_ne (tgt := 607) hx hb dL_law_592 (by decide) (fun c_2 => ?_) (fun c_2 => ?_)
  · refine lv_goto (tgt := 1420) hx hb dL_law_607 (by decide) ?_
    refine W.widen (k := cells + 11) (n := slots + 57) (by omega) (by omega) ?_
    exact kk u1 u2 _ _ _ e3 hP hD hS (lv_sub hl [2, 3, 4, 5, 6] rfl)
  · refine lv_aload_n hx hb dL_law_595 rfl (lv_at hl 5 rfl) ?_
    refine lv_iconst (v := 0) hx hb dL_law_596 (by decide) ?_
    refine va_lald hx hb hK hP 0 4 rfl rfl (show vp_in (nI 0) 1 from vp_in_nI (by decide) (by decide)) dL_law_597 ?_
    refine lv_iload hx hb dL_law_598 (lv_at hl 0 rfl) ?_
    refine lv_i2l hx hb dL_law_600 rfl ?_
    refine W.lcmp hx hb dL_law_601 ?_
    refine lv_if_eq (tgt := 607) hx hb dL_law_602 (by decide) (fun _ => ?_) (fun c_3 => absurd (show u1.1 (0 : Int32).toNatClampNeg = r.toInt64 from e2 c_2) (fun q => c_3 ((lg_cmp_eq _ _).mpr q)))
    refine lv_goto (tgt := 1420) hx hb dL_law_607 (by decide) ?_
    refine W.widen (k := cells + 11) (n := slots + 57) (by omega) (by omega) ?_
    exact kk u1 u2 _ _ _ e3 hP hD hS (lv_sub hl [2, 3, 4, 5, 6] rfl)
set_option maxHeartbeats 4000000 in
set_option maxRecDepth 100000 in
theorem law_leave (C0 : lw_At p s m meth c sb Ls xs) (hl0 : l.stackTraces = false) (hK : va_K D vwCl (tyL cy) s) (hX : Gl (lwA s) s) (hi : i + 5 ≤ Ls) (hLs : Ls ≤ 2560) (hR : RelL S U) (hP : va_P D vwCl (allW cy o b t pa se th tr mb (fo, S) U) H) (hD : va_D (lwA s) (allW cy o b t pa se th tr mb (fo, S) U)) (hS : va_S (lwA s) s.heap H locs) (hl : lv_has ls 7 (lvL sb b mb o i)) (hcs : cells + 11 ≤ room_1.cells ∧ slots + 57 ≤ room_1.slots) (kk : lawNext p l e s m below meth c Q D cy sb o b t pa se th tr mb i (cells + 11) (slots + 57)) : W p l e room_1 s m #[.ref sb] below meth c H locs cells slots Q (F0 m 610 ls []) := by
  obtain ⟨hx, hb, hr, hml, hown, hts0, hXs, hbl, hlocks, hgv⟩ := id C0
  have hts : ∀ w ∈ wsL_law, w.before #[.ref sb] s = true := fun w h => hts0 w (wsL_law_in w h)
  have hF : CallFix p m c cL_law 7 s #[.ref sb] wsL_law RL := ⟨hx, hb, hml, hown, hts⟩
  have hb : c.code = cL_law := hb
  have hA : ∀ q, s.heap.size ≤ q → lwA s q := fun _ h => h
  have hbA : ¬ lwA s sb := Nat.not_le.mpr hbl
  obtain ⟨⟨z, f⟩, ⟨ct, L⟩, ⟨⟨sc, pf, bf⟩, y0⟩, y1, ⟨nw, x⟩, o0, o1⟩ := S
  obtain ⟨⟨rf, sn, ac, sp, ou⟩, tx, ⟨yn, yt, y3⟩, di, ke, ik⟩ := U
  obtain ⟨⟨n, hn, hRn⟩, ⟨ef, es, ht⟩, ⟨hc1, hc2, ea, -⟩, hs0, hs1⟩ := id hR
  obtain rfl : f = tx := ef
  obtain rfl : sn = nI z := es
  obtain rfl : ac = nI ct := ea
  have hOk : ∀ {o9 : Option HQ} {a9 : Int32} {w9 : HS}, relS o9 a9 w9 → ∀ q, o9 = some q → OkH q.2 := fun h q h2 => ⟨_, rst_x h h2⟩
  have ht1 : z ≤ 120 := ht.1
  have hc1 : ct ≤ L.length := hc1
  have hc2 : L.length ≤ 14 := hc2
  have hRn : RelN n x yn := hRn
  refine lv_aload_n hx hb dL_law_610 rfl (lv_at hl 1 rfl) ?_
  refine lv_aload_n hx hb dL_law_611 rfl (lv_at hl 0 rfl) ?_
  refine lv_iload hx hb dL_law_612 (lv_at hl 4 rfl) ?_
  refine lv_iconst (v := 1) hx hb dL_law_614 (by decide) ?_
  refine lv_iadd hx hb dL_law_615 ?_
  refine va_sld hx hb hXs hbl hbA hS (sc_in (k := 1) hi hLs (by decide)) dL_law_616 ?_
  refine lv_aload_n hx hb dL_law_617 rfl (lv_at hl 3 rfl) ?_
  refine wr_i (fun u => allW cy o b t pa se th tr mb u ((rf, nI z, nI ct, sp, ou), f, (yn, yt, y3), di, ke, ik)) (vx_runSW (As := [.ref (b 0), .int (xs (nI i + 1).toNatClampNeg), .ref o]) (rest := []) hF (c_L_leave l D cy hl0 b t pa se th tr nw z ht1 f ct L hc1 hc2 sc pf bf y0 y1 x o0 o1 n hn hRn.1 hRn.2.2.1 (xs (nI i + 1).toNatClampNeg) o fo H.size) (vx_cwSW 3 hts gL_law_L_leave rfl rfl rfl (by decide +kernel) ⟨Nat.le_of_ble_eq_true rfl, Nat.le_of_ble_eq_true rfl⟩) (wrX_preS hK hP hD (List.Perm.refl _) Xok_l (fun U hU hW => Gl.at hX hS (zz_free hD (List.Perm.refl _) hS hA) hU hW)) rfl rfl hl.1 rfl (lv_room (Nat.le_of_ble_eq_true rfl)) dL_law_618 ⟨by have := hcs.1; omega, by have := hcs.2; omega⟩) hP hD hS hA (List.Perm.refl _) (fun _ => List.Perm.refl _) (fun k u1 H locs h1 hP hD hS => ?_)
  refine lv_istore (lv' := [(5, .int k), (0, .ref sb), (1, .ref (b 0)), (2, .ref (mb 0)), (3, .ref o), (4, .int (nI i))]) hx hb dL_law_621 hl (by decide) rfl (fun ls hl => ?_)
  refine lv_aload_n hx hb dL_law_623 rfl (lv_at hl 3 rfl) ?_
  refine lv_aload_n hx hb dL_law_624 rfl (lv_at hl 1 rfl) ?_
  refine lv_iload hx hb dL_law_625 (lv_at hl 5 rfl) ?_
  refine lv_iconst (v := 1) hx hb dL_law_627 (by decide) ?_
  refine lv_iadd hx hb dL_law_628 ?_
  refine va_sld hx hb hXs hbl hbA hS (sc_in (k := 1) hi hLs (by decide)) dL_law_629 ?_
  refine wr_i (fun U => allW cy o b t pa se th tr mb u1 U) (va_runV (As := [.int (xs (nI i + 1).toNatClampNeg)]) (rest := []) hF (c_X8_leave l D cy mb rf (nI z) (nI ct) sp ou f yn yt y3 di ke ik n hn hRn.gy ct (Nat.le_trans hc1 hc2) (xs (nI i + 1).toNatClampNeg) H.size) (cwV 1 hts gL_law_X8_leave rfl rfl rfl (by decide +kernel) ⟨Nat.le_of_ble_eq_true rfl, Nat.le_of_ble_eq_true rfl⟩) (wr_preV hK hP hD List.perm_append_comm 0 5 rfl rfl rfl) rfl rfl hl.1 rfl (lv_room (Nat.le_of_ble_eq_true rfl)) dL_law_630 ⟨by have := hcs.1; omega, by have := hcs.2; omega⟩) hP hD hS hA List.perm_append_comm (fun _ => List.perm_append_comm) (fun r u2 H locs h2 hP hD hS => ?_)
  obtain ⟨e1, e2, e3⟩ := cmd_leave (xs (nI i + 1).toNatClampNeg) hn hRn hR h1 h2
  refine lv_istore (lv' := [(6, .int r), (5, .int k), (0, .ref sb), (1, .ref (b 0)), (2, .ref (mb 0)), (3, .ref o), (4, .int (nI i))]) hx hb dL_law_633 hl (by decide) rfl (fun ls hl => ?_)
  refine lv_aload_n hx hb dL_law_635 rfl (lv_at hl 4 rfl) ?_
  refine rd_V (As := []) (rest := []) hF (c_X8_thrown l D cy mb u2.1.1 u2.1.2.1 u2.1.2.2.1 u2.1.2.2.2.1 u2.1.2.2.2.2) (cwV 0 hts gL_law_X8_thrown rfl rfl rfl (by decide +kernel) ⟨Nat.le_of_ble_eq_true rfl, Nat.le_of_ble_eq_true rfl⟩) hK ((zz_Pp hP List.perm_append_comm).sub [0] rfl) 0 5 rfl rfl rfl rfl hl.1 rfl (Nat.le_of_ble_eq_true rfl) dL_law_636 ⟨by have := hcs.1; omega, by have := hcs.2; omega⟩ ?_
  refine lv_iload hx hb dL_law_639 (lv_at hl 1 rfl) ?_
  refine lv_icmp_eq (tgt := 646) hx hb dL_law_641 (by decide) (fun _ => ?_) (fun c_1 => absurd e1 c_1)
  refine lv_iload hx hb dL_law_646 (lv_at hl 1 rfl) ?_
  refine lv_if_ne (tgt := 663) hx hb dL_law_648 (by decide) (fun c_2 => ?_) (fun c_2 => ?_)
  · refine lv_goto (tgt := 1420) hx hb dL_law_663 (by decide) ?_
    refine W.widen (k := cells + 11) (n := slots + 57) (by omega) (by omega) ?_
    exact kk u1 u2 _ _ _ e3 hP hD hS (lv_sub hl [2, 3, 4, 5, 6] rfl)
  · refine lv_aload_n hx hb dL_law_651 rfl (lv_at hl 5 rfl) ?_
    refine lv_iconst (v := 0) hx hb dL_law_652 (by decide) ?_
    refine va_lald hx hb hK hP 0 4 rfl rfl (show vp_in (nI 0) 1 from vp_in_nI (by decide) (by decide)) dL_law_653 ?_
    refine lv_iload hx hb dL_law_654 (lv_at hl 0 rfl) ?_
    refine lv_i2l hx hb dL_law_656 rfl ?_
    refine W.lcmp hx hb dL_law_657 ?_
    refine lv_if_eq (tgt := 663) hx hb dL_law_658 (by decide) (fun _ => ?_) (fun c_3 => absurd (show u1.1 (0 : Int32).toNatClampNeg = r.toInt64 from e2 c_2) (fun q => c_3 ((lg_cmp_eq _ _).mpr q)))
    refine lv_goto (tgt := 1420) hx hb dL_law_663 (by decide) ?_
    refine W.widen (k := cells + 11) (n := slots + 57) (by omega) (by omega) ?_
    exact kk u1 u2 _ _ _ e3 hP hD hS (lv_sub hl [2, 3, 4, 5, 6] rfl)
set_option maxHeartbeats 4000000 in
set_option maxRecDepth 100000 in
theorem law_press (C0 : lw_At p s m meth c sb Ls xs) (hl0 : l.stackTraces = false) (hK : va_K D vwCl (tyL cy) s) (hX : Gl (lwA s) s) (hi : i + 5 ≤ Ls) (hLs : Ls ≤ 2560) (hR : RelL S U) (hP : va_P D vwCl (allW cy o b t pa se th tr mb (fo, S) U) H) (hD : va_D (lwA s) (allW cy o b t pa se th tr mb (fo, S) U)) (hS : va_S (lwA s) s.heap H locs) (hl : lv_has ls 7 (lvL sb b mb o i)) (hcs : cells + 11 ≤ room_1.cells ∧ slots + 57 ≤ room_1.slots) (kk : lawNext p l e s m below meth c Q D cy sb o b t pa se th tr mb i (cells + 11) (slots + 57)) : W p l e room_1 s m #[.ref sb] below meth c H locs cells slots Q (F0 m 666 ls []) := by
  obtain ⟨hx, hb, hr, hml, hown, hts0, hXs, hbl, hlocks, hgv⟩ := id C0
  have hts : ∀ w ∈ wsL_law, w.before #[.ref sb] s = true := fun w h => hts0 w (wsL_law_in w h)
  have hF : CallFix p m c cL_law 7 s #[.ref sb] wsL_law RL := ⟨hx, hb, hml, hown, hts⟩
  have hb : c.code = cL_law := hb
  have hA : ∀ q, s.heap.size ≤ q → lwA s q := fun _ h => h
  have hbA : ¬ lwA s sb := Nat.not_le.mpr hbl
  obtain ⟨⟨z, f⟩, ⟨ct, L⟩, ⟨⟨sc, pf, bf⟩, y0⟩, y1, ⟨nw, x⟩, o0, o1⟩ := S
  obtain ⟨⟨rf, sn, ac, sp, ou⟩, tx, ⟨yn, yt, y3⟩, di, ke, ik⟩ := U
  obtain ⟨⟨n, hn, hRn⟩, ⟨ef, es, ht⟩, ⟨hc1, hc2, ea, -⟩, hs0, hs1⟩ := id hR
  obtain rfl : f = tx := ef
  obtain rfl : sn = nI z := es
  obtain rfl : ac = nI ct := ea
  have hOk : ∀ {o9 : Option HQ} {a9 : Int32} {w9 : HS}, relS o9 a9 w9 → ∀ q, o9 = some q → OkH q.2 := fun h q h2 => ⟨_, rst_x h h2⟩
  have ht1 : z ≤ 120 := ht.1
  have hc1 : ct ≤ L.length := hc1
  have hc2 : L.length ≤ 14 := hc2
  have hRn : RelN n x yn := hRn
  refine lv_aload_n hx hb dL_law_666 rfl (lv_at hl 1 rfl) ?_
  refine lv_aload_n hx hb dL_law_667 rfl (lv_at hl 0 rfl) ?_
  refine lv_iload hx hb dL_law_668 (lv_at hl 4 rfl) ?_
  refine lv_iconst (v := 1) hx hb dL_law_670 (by decide) ?_
  refine lv_iadd hx hb dL_law_671 ?_
  refine va_sld hx hb hXs hbl hbA hS (sc_in (k := 1) hi hLs (by decide)) dL_law_672 ?_
  refine lv_aload_n hx hb dL_law_673 rfl (lv_at hl 3 rfl) ?_
  refine wr_i (fun u => allW cy o b t pa se th tr mb u ((rf, nI z, nI ct, sp, ou), f, (yn, yt, y3), di, ke, ik)) (vx_runSW (As := [.ref (b 0), .int (xs (nI i + 1).toNatClampNeg), .ref o]) (rest := []) hF (c_L_press l D cy hl0 b t pa se th tr nw z ht1 f ct L hc1 hc2 sc pf bf y0 y1 x o0 o1 n hn hRn.1 hRn.2.2.1 (xs (nI i + 1).toNatClampNeg) o fo H.size) (vx_cwSW 3 hts gL_law_L_press rfl rfl rfl (by decide +kernel) ⟨Nat.le_of_ble_eq_true rfl, Nat.le_of_ble_eq_true rfl⟩) (wrX_preS hK hP hD (List.Perm.refl _) Xok_l (fun U hU hW => Gl.at hX hS (zz_free hD (List.Perm.refl _) hS hA) hU hW)) rfl rfl hl.1 rfl (lv_room (Nat.le_of_ble_eq_true rfl)) dL_law_674 ⟨by have := hcs.1; omega, by have := hcs.2; omega⟩) hP hD hS hA (List.Perm.refl _) (fun _ => List.Perm.refl _) (fun k u1 H locs h1 hP hD hS => ?_)
  refine lv_istore (lv' := [(5, .int k), (0, .ref sb), (1, .ref (b 0)), (2, .ref (mb 0)), (3, .ref o), (4, .int (nI i))]) hx hb dL_law_677 hl (by decide) rfl (fun ls hl => ?_)
  refine lv_aload_n hx hb dL_law_679 rfl (lv_at hl 3 rfl) ?_
  refine lv_aload_n hx hb dL_law_680 rfl (lv_at hl 1 rfl) ?_
  refine lv_iload hx hb dL_law_681 (lv_at hl 5 rfl) ?_
  refine lv_iconst (v := 1) hx hb dL_law_683 (by decide) ?_
  refine lv_iadd hx hb dL_law_684 ?_
  refine va_sld hx hb hXs hbl hbA hS (sc_in (k := 1) hi hLs (by decide)) dL_law_685 ?_
  refine wr_i (fun U => allW cy o b t pa se th tr mb u1 U) (va_runV (As := [.int (xs (nI i + 1).toNatClampNeg)]) (rest := []) hF (c_X8_press l D cy mb rf (nI z) (nI ct) sp ou f yn yt y3 di ke ik n hn hRn.gy ct (Nat.le_trans hc1 hc2) (fun _ h => hRn.bu h) hRn.fl (xs (nI i + 1).toNatClampNeg) H.size) (cwV 1 hts gL_law_X8_press rfl rfl rfl (by decide +kernel) ⟨Nat.le_of_ble_eq_true rfl, Nat.le_of_ble_eq_true rfl⟩) (wr_preV hK hP hD List.perm_append_comm 0 5 rfl rfl rfl) rfl rfl hl.1 rfl (lv_room (Nat.le_of_ble_eq_true rfl)) dL_law_686 ⟨by have := hcs.1; omega, by have := hcs.2; omega⟩) hP hD hS hA List.perm_append_comm (fun _ => List.perm_append_comm) (fun r u2 H locs h2 hP hD hS => ?_)
  obtain ⟨e1, e2, e3⟩ := cmd_press (xs (nI i + 1).toNatClampNeg) hn hRn hR h1 h2
  refine lv_istore (lv' := [(6, .int r), (5, .int k), (0, .ref sb), (1, .ref (b 0)), (2, .ref (mb 0)), (3, .ref o), (4, .int (nI i))]) hx hb dL_law_689 hl (by decide) rfl (fun ls hl => ?_)
  refine lv_aload_n hx hb dL_law_691 rfl (lv_at hl 4 rfl) ?_
  refine rd_V (As := []) (rest := []) hF (c_X8_thrown l D cy mb u2.1.1 u2.1.2.1 u2.1.2.2.1 u2.1.2.2.2.1 u2.1.2.2.2.2) (cwV 0 hts gL_law_X8_thrown rfl rfl rfl (by decide +kernel) ⟨Nat.le_of_ble_eq_true rfl, Nat.le_of_ble_eq_true rfl⟩) hK ((zz_Pp hP List.perm_append_comm).sub [0] rfl) 0 5 rfl rfl rfl rfl hl.1 rfl (Nat.le_of_ble_eq_true rfl) dL_law_692 ⟨by have := hcs.1; omega, by have := hcs.2; omega⟩ ?_
  refine lv_iload hx hb dL_law_695 (lv_at hl 1 rfl) ?_
  refine lv_icmp_eq (tgt := 702) hx hb dL_law_697 (by decide) (fun _ => ?_) (fun c_1 => absurd e1 c_1)
  refine lv_iload hx hb dL_law_702 (lv_at hl 1 rfl) ?_
  refine lv_if_ne (tgt := 719) hx hb dL_law_704 (by decide) (fun c_2 => ?_) (fun c_2 => ?_)
  · refine lv_goto (tgt := 1420) hx hb dL_law_719 (by decide) ?_
    refine W.widen (k := cells + 11) (n := slots + 57) (by omega) (by omega) ?_
    exact kk u1 u2 _ _ _ e3 hP hD hS (lv_sub hl [2, 3, 4, 5, 6] rfl)
  · refine lv_aload_n hx hb dL_law_707 rfl (lv_at hl 5 rfl) ?_
    refine lv_iconst (v := 0) hx hb dL_law_708 (by decide) ?_
    refine va_lald hx hb hK hP 0 4 rfl rfl (show vp_in (nI 0) 1 from vp_in_nI (by decide) (by decide)) dL_law_709 ?_
    refine lv_iload hx hb dL_law_710 (lv_at hl 0 rfl) ?_
    refine lv_i2l hx hb dL_law_712 rfl ?_
    refine W.lcmp hx hb dL_law_713 ?_
    refine lv_if_eq (tgt := 719) hx hb dL_law_714 (by decide) (fun _ => ?_) (fun c_3 => absurd (show u1.1 (0 : Int32).toNatClampNeg = r.toInt64 from e2 c_2) (fun q => c_3 ((lg_cmp_eq _ _).mpr q)))
    refine lv_goto (tgt := 1420) hx hb dL_law_719 (by decide) ?_
    refine W.widen (k := cells + 11) (n := slots + 57) (by omega) (by omega) ?_
    exact kk u1 u2 _ _ _ e3 hP hD hS (lv_sub hl [2, 3, 4, 5, 6] rfl)
set_option maxHeartbeats 4000000 in
set_option maxRecDepth 100000 in
theorem law_rest (C0 : lw_At p s m meth c sb Ls xs) (hl0 : l.stackTraces = false) (hK : va_K D vwCl (tyL cy) s) (hX : Gl (lwA s) s) (hi : i + 5 ≤ Ls) (hLs : Ls ≤ 2560) (hR : RelL S U) (hP : va_P D vwCl (allW cy o b t pa se th tr mb (fo, S) U) H) (hD : va_D (lwA s) (allW cy o b t pa se th tr mb (fo, S) U)) (hS : va_S (lwA s) s.heap H locs) (hl : lv_has ls 7 (lvL sb b mb o i)) (hcs : cells + 11 ≤ room_1.cells ∧ slots + 57 ≤ room_1.slots) (kk : lawNext p l e s m below meth c Q D cy sb o b t pa se th tr mb i (cells + 11) (slots + 57)) : W p l e room_1 s m #[.ref sb] below meth c H locs cells slots Q (F0 m 722 ls []) := by
  obtain ⟨hx, hb, hr, hml, hown, hts0, hXs, hbl, hlocks, hgv⟩ := id C0
  have hts : ∀ w ∈ wsL_law, w.before #[.ref sb] s = true := fun w h => hts0 w (wsL_law_in w h)
  have hF : CallFix p m c cL_law 7 s #[.ref sb] wsL_law RL := ⟨hx, hb, hml, hown, hts⟩
  have hb : c.code = cL_law := hb
  have hA : ∀ q, s.heap.size ≤ q → lwA s q := fun _ h => h
  have hbA : ¬ lwA s sb := Nat.not_le.mpr hbl
  obtain ⟨⟨z, f⟩, ⟨ct, L⟩, ⟨⟨sc, pf, bf⟩, y0⟩, y1, ⟨nw, x⟩, o0, o1⟩ := S
  obtain ⟨⟨rf, sn, ac, sp, ou⟩, tx, ⟨yn, yt, y3⟩, di, ke, ik⟩ := U
  obtain ⟨⟨n, hn, hRn⟩, ⟨ef, es, ht⟩, ⟨hc1, hc2, ea, -⟩, hs0, hs1⟩ := id hR
  obtain rfl : f = tx := ef
  obtain rfl : sn = nI z := es
  obtain rfl : ac = nI ct := ea
  have hOk : ∀ {o9 : Option HQ} {a9 : Int32} {w9 : HS}, relS o9 a9 w9 → ∀ q, o9 = some q → OkH q.2 := fun h q h2 => ⟨_, rst_x h h2⟩
  have ht1 : z ≤ 120 := ht.1
  have hc1 : ct ≤ L.length := hc1
  have hc2 : L.length ≤ 14 := hc2
  have hRn : RelN n x yn := hRn
  refine lv_aload_n hx hb dL_law_722 rfl (lv_at hl 1 rfl) ?_
  refine wr_i (fun u => allW cy o b t pa se th tr mb (fo, u) ((rf, nI z, nI ct, sp, ou), f, (yn, yt, y3), di, ke, ik)) (va_runV (As := []) (rest := []) hF (c_X7_rest l D cy b t pa se th tr nw z ht1 f ct L hc1 hc2 sc pf bf y0 y1 x o0 o1 n hn hRn.1 hRn.2.2.1 H.size) (cwV 0 hts gL_law_X7_rest rfl rfl rfl (by decide +kernel) ⟨Nat.le_of_ble_eq_true rfl, Nat.le_of_ble_eq_true rfl⟩) (wrX_preV hK hP hD pm3 0 4 rfl rfl rfl Xok_x (fun U hU hW => Gx.at hX.1 hS (zz_free hD pm3 hS hA) hU hW)) rfl rfl hl.1 rfl (lv_room (Nat.le_of_ble_eq_true rfl)) dL_law_723 ⟨by have := hcs.1; omega, by have := hcs.2; omega⟩) hP hD hS hA pm3 (fun _ => pm3) (fun r1 u H locs h1 hP hD hS => ?_)
  refine lv_aload_n hx hb dL_law_726 rfl (lv_at hl 2 rfl) ?_
  refine wr_i (fun U => allW cy o b t pa se th tr mb (fo, u) U) (va_runV (As := []) (rest := [.int r1]) hF (c_X8_rest l D cy mb rf (nI z) (nI ct) sp ou f yn yt y3 di ke ik n hn hRn.gy ct (Nat.le_trans hc1 hc2) H.size) (cwV 0 hts gL_law_X8_rest rfl rfl rfl (by decide +kernel) ⟨Nat.le_of_ble_eq_true rfl, Nat.le_of_ble_eq_true rfl⟩) (wr_preV hK hP hD List.perm_append_comm 0 5 rfl rfl rfl) rfl rfl hl.1 rfl (lv_room (Nat.le_of_ble_eq_true rfl)) dL_law_727 ⟨by have := hcs.1; omega, by have := hcs.2; omega⟩) hP hD hS hA List.perm_append_comm (fun _ => List.perm_append_comm) (fun r u2 H locs h2 hP hD hS => ?_)
  obtain ⟨e1, e3⟩ := cmd_rest hn hRn hR h1 h2
  refine lv_icmp_eq (tgt := 1420) hx hb dL_law_730 (by decide) (fun _ => ?_) (fun c_1 => absurd e1 c_1)
  refine W.widen (k := cells + 11) (n := slots + 57) (by omega) (by omega) ?_
  exact kk (fo, u) u2 _ _ _ e3 hP hD hS hl
end CASE
