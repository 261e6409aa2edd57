section CASE
variable {p : Program} {l : Launch} {e : Env} {s : State} {m : MethodId} {below : List Frame} {meth : Method} {c : Code} {Q : State → Prop} {D : va_G} {cy : Nat → ClassId} {sb o Ls i cells slots : Nat} {xs : Nat → Int32} {b t pa se th tr mb : Nat → Nat} {S : BS} {U : MS} {fo : Nat → Int64} {H : Heap} {locs : List Loc} {ls : Array Slot}
set_option maxHeartbeats 4000000 in
set_option maxRecDepth 100000 in
theorem law_leftStanding (C0 : lw_At p s m meth c sb Ls xs) (hl0 : l.stackTraces = false) (hK : va_K D vwCl (tyL cy) s) (hX : Gl (lwA s) s) (hi : i + 5 ≤ Ls) (hLs : Ls ≤ 2560) (hR : RelL S U) (hP : va_P D vwCl (allW cy o b t pa se th tr mb (fo, S) U) H) (hD : va_D (lwA s) (allW cy o b t pa se th tr mb (fo, S) U)) (hS : va_S (lwA s) s.heap H locs) (hl : lv_has ls 7 (lvL sb b mb o i)) (hcs : cells + 11 ≤ room_1.cells ∧ slots + 57 ≤ room_1.slots) (kk : lawNext p l e s m below meth c Q D cy sb o b t pa se th tr mb i (cells + 11) (slots + 57)) : W p l e room_1 s m #[.ref sb] below meth c H locs cells slots Q (F0 m 1052 ls []) := by
  obtain ⟨hx, hb, hr, hml, hown, hts0, hXs, hbl, hlocks, hgv⟩ := id C0
  have hts : ∀ w ∈ wsL_law, w.before #[.ref sb] s = true := fun w h => hts0 w (wsL_law_in w h)
  have hF : CallFix p m c cL_law 7 s #[.ref sb] wsL_law RL := ⟨hx, hb, hml, hown, hts⟩
  have hb : c.code = cL_law := hb
  have hA : ∀ q, s.heap.size ≤ q → lwA s q := fun _ h => h
  have hbA : ¬ lwA s sb := Nat.not_le.mpr hbl
  obtain ⟨⟨z, f⟩, ⟨ct, L⟩, ⟨⟨sc, pf, bf⟩, y0⟩, y1, ⟨nw, x⟩, o0, o1⟩ := S
  obtain ⟨⟨rf, sn, ac, sp, ou⟩, tx, ⟨yn, yt, y3⟩, di, ke, ik⟩ := U
  obtain ⟨⟨n, hn, hRn⟩, ⟨ef, es, ht⟩, ⟨hc1, hc2, ea, -⟩, hs0, hs1⟩ := id hR
  obtain rfl : f = tx := ef
  obtain rfl : sn = nI z := es
  obtain rfl : ac = nI ct := ea
  have hOk : ∀ {o9 : Option HQ} {a9 : Int32} {w9 : HS}, relS o9 a9 w9 → ∀ q, o9 = some q → OkH q.2 := fun h q h2 => ⟨_, rst_x h h2⟩
  have ht1 : z ≤ 120 := ht.1
  have hc1 : ct ≤ L.length := hc1
  have hc2 : L.length ≤ 14 := hc2
  have hRn : RelN n x yn := hRn
  refine lv_aload_n hx hb dL_law_1052 rfl (lv_at hl 1 rfl) ?_
  refine lv_aload_n hx hb dL_law_1053 rfl (lv_at hl 0 rfl) ?_
  refine lv_iload hx hb dL_law_1054 (lv_at hl 4 rfl) ?_
  refine lv_iconst (v := 1) hx hb dL_law_1056 (by decide) ?_
  refine lv_iadd hx hb dL_law_1057 ?_
  refine va_sld hx hb hXs hbl hbA hS (sc_in (k := 1) hi hLs (by decide)) dL_law_1058 ?_
  refine lv_aload_n hx hb dL_law_1059 rfl (lv_at hl 3 rfl) ?_
  refine wr_i (fun u => allW cy o b t pa se th tr mb u ((rf, nI z, nI ct, sp, ou), f, (yn, yt, y3), di, ke, ik)) (vx_runSW (As := [.ref (b 0), .int (xs (nI i + 1).toNatClampNeg), .ref o]) (rest := []) hF (c_L_leftStanding l D cy hl0 b t pa se th tr nw z ht1 f ct L hc1 hc2 sc pf bf y0 y1 x o0 o1 n hn hRn.1 hRn.2.2.1 (xs (nI i + 1).toNatClampNeg) o fo H.size) (vx_cwSW 3 hts gL_law_L_leftStanding rfl rfl rfl (by decide +kernel) ⟨Nat.le_of_ble_eq_true rfl, Nat.le_of_ble_eq_true rfl⟩) (wrX_preS hK hP hD (List.Perm.refl _) Xok_l (fun U hU hW => Gl.at hX hS (zz_free hD (List.Perm.refl _) hS hA) hU hW)) rfl rfl hl.1 rfl (lv_room (Nat.le_of_ble_eq_true rfl)) dL_law_1060 ⟨by have := hcs.1; omega, by have := hcs.2; omega⟩) hP hD hS hA (List.Perm.refl _) (fun _ => List.Perm.refl _) (fun k u1 H locs h1 hP hD hS => ?_)
  refine lv_istore (lv' := [(5, .int k), (0, .ref sb), (1, .ref (b 0)), (2, .ref (mb 0)), (3, .ref o), (4, .int (nI i))]) hx hb dL_law_1063 hl (by decide) rfl (fun ls hl => ?_)
  refine lv_aload_n hx hb dL_law_1065 rfl (lv_at hl 3 rfl) ?_
  refine lv_aload_n hx hb dL_law_1066 rfl (lv_at hl 1 rfl) ?_
  refine lv_iload hx hb dL_law_1067 (lv_at hl 5 rfl) ?_
  refine lv_iconst (v := 1) hx hb dL_law_1069 (by decide) ?_
  refine lv_iadd hx hb dL_law_1070 ?_
  refine va_sld hx hb hXs hbl hbA hS (sc_in (k := 1) hi hLs (by decide)) dL_law_1071 ?_
  refine wr_i (fun U => allW cy o b t pa se th tr mb u1 U) (va_runV (As := [.int (xs (nI i + 1).toNatClampNeg)]) (rest := []) hF (c_X8_leftStanding l D cy mb rf (nI z) (nI ct) sp ou f yn yt y3 di ke ik n hn x hRn (xs (nI i + 1).toNatClampNeg) H.size) (cwV 1 hts gL_law_X8_leftStanding rfl rfl rfl (by decide +kernel) ⟨Nat.le_of_ble_eq_true rfl, Nat.le_of_ble_eq_true rfl⟩) (wr_preV hK hP hD List.perm_append_comm 0 5 rfl rfl rfl) rfl rfl hl.1 rfl (lv_room (Nat.le_of_ble_eq_true rfl)) dL_law_1072 ⟨by have := hcs.1; omega, by have := hcs.2; omega⟩) hP hD hS hA List.perm_append_comm (fun _ => List.perm_append_comm) (fun r u2 H locs h2 hP hD hS => ?_)
  obtain ⟨e1, e2, e3⟩ := cmd_leftStanding (xs (nI i + 1).toNatClampNeg) hn hRn hR h1 h2
  refine lv_istore (lv' := [(6, .int r), (5, .int k), (0, .ref sb), (1, .ref (b 0)), (2, .ref (mb 0)), (3, .ref o), (4, .int (nI i))]) hx hb dL_law_1075 hl (by decide) rfl (fun ls hl => ?_)
  refine lv_aload_n hx hb dL_law_1077 rfl (lv_at hl 4 rfl) ?_
  refine rd_V (As := []) (rest := []) hF (c_X8_thrown l D cy mb u2.1.1 u2.1.2.1 u2.1.2.2.1 u2.1.2.2.2.1 u2.1.2.2.2.2) (cwV 0 hts gL_law_X8_thrown rfl rfl rfl (by decide +kernel) ⟨Nat.le_of_ble_eq_true rfl, Nat.le_of_ble_eq_true rfl⟩) hK ((zz_Pp hP List.perm_append_comm).sub [0] rfl) 0 5 rfl rfl rfl rfl hl.1 rfl (Nat.le_of_ble_eq_true rfl) dL_law_1078 ⟨by have := hcs.1; omega, by have := hcs.2; omega⟩ ?_
  refine lv_iload hx hb dL_law_1081 (lv_at hl 1 rfl) ?_
  refine lv_icmp_eq (tgt := 1088) hx hb dL_law_1083 (by decide) (fun _ => ?_) (fun c_1 => absurd e1 c_1)
  refine lv_iload hx hb dL_law_1088 (lv_at hl 1 rfl) ?_
  refine lv_if_ne (tgt := 1105) hx hb dL_law_1090 (by decide) (fun c_2 => ?_) (fun c_2 => ?_)
  · refine lv_goto (tgt := 1420) hx hb dL_law_1105 (by decide) ?_
    refine W.widen (k := cells + 11) (n := slots + 57) (by omega) (by omega) ?_
    exact kk u1 u2 _ _ _ e3 hP hD hS (lv_sub hl [2, 3, 4, 5, 6] rfl)
  · refine lv_aload_n hx hb dL_law_1093 rfl (lv_at hl 5 rfl) ?_
    refine lv_iconst (v := 0) hx hb dL_law_1094 (by decide) ?_
    refine va_lald hx hb hK hP 0 4 rfl rfl (show vp_in (nI 0) 1 from vp_in_nI (by decide) (by decide)) dL_law_1095 ?_
    refine lv_iload hx hb dL_law_1096 (lv_at hl 0 rfl) ?_
    refine lv_i2l hx hb dL_law_1098 rfl ?_
    refine W.lcmp hx hb dL_law_1099 ?_
    refine lv_if_eq (tgt := 1105) hx hb dL_law_1100 (by decide) (fun _ => ?_) (fun c_3 => absurd (show u1.1 (0 : Int32).toNatClampNeg = r.toInt64 from e2 c_2) (fun q => c_3 ((lg_cmp_eq _ _).mpr q)))
    refine lv_goto (tgt := 1420) hx hb dL_law_1105 (by decide) ?_
    refine W.widen (k := cells + 11) (n := slots + 57) (by omega) (by omega) ?_
    exact kk u1 u2 _ _ _ e3 hP hD hS (lv_sub hl [2, 3, 4, 5, 6] rfl)
set_option maxHeartbeats 4000000 in
set_option maxRecDepth 100000 in
theorem law_runScript (C0 : lw_At p s m meth c sb Ls xs) (hl0 : l.stackTraces = false) (hK : va_K D vwCl (tyL cy) s) (hX : Gl (lwA s) s) (hi : i + 5 ≤ Ls) (hLs : Ls ≤ 2560) (hR : RelL S U) (hP : va_P D vwCl (allW cy o b t pa se th tr mb (fo, S) U) H) (hD : va_D (lwA s) (allW cy o b t pa se th tr mb (fo, S) U)) (hS : va_S (lwA s) s.heap H locs) (hl : lv_has ls 7 (lvL sb b mb o i)) (hcs : cells + 11 ≤ room_1.cells ∧ slots + 57 ≤ room_1.slots) (kk : lawNext p l e s m below meth c Q D cy sb o b t pa se th tr mb i (cells + 11) (slots + 57)) : W p l e room_1 s m #[.ref sb] below meth c H locs cells slots Q (F0 m 1108 ls []) := by
  obtain ⟨hx, hb, hr, hml, hown, hts0, hXs, hbl, hlocks, hgv⟩ := id C0
  have hts : ∀ w ∈ wsL_law, w.before #[.ref sb] s = true := fun w h => hts0 w (wsL_law_in w h)
  have hF : CallFix p m c cL_law 7 s #[.ref sb] wsL_law RL := ⟨hx, hb, hml, hown, hts⟩
  have hb : c.code = cL_law := hb
  have hA : ∀ q, s.heap.size ≤ q → lwA s q := fun _ h => h
  have hbA : ¬ lwA s sb := Nat.not_le.mpr hbl
  obtain ⟨⟨z, f⟩, ⟨ct, L⟩, ⟨⟨sc, pf, bf⟩, y0⟩, y1, ⟨nw, x⟩, o0, o1⟩ := S
  obtain ⟨⟨rf, sn, ac, sp, ou⟩, tx, ⟨yn, yt, y3⟩, di, ke, ik⟩ := U
  obtain ⟨⟨n, hn, hRn⟩, ⟨ef, es, ht⟩, ⟨hc1, hc2, ea, -⟩, hs0, hs1⟩ := id hR
  obtain rfl : f = tx := ef
  obtain rfl : sn = nI z := es
  obtain rfl : ac = nI ct := ea
  have hOk : ∀ {o9 : Option HQ} {a9 : Int32} {w9 : HS}, relS o9 a9 w9 → ∀ q, o9 = some q → OkH q.2 := fun h q h2 => ⟨_, rst_x h h2⟩
  have ht1 : z ≤ 120 := ht.1
  have hc1 : ct ≤ L.length := hc1
  have hc2 : L.length ≤ 14 := hc2
  have hRn : RelN n x yn := hRn
  refine lv_aload_n hx hb dL_law_1108 rfl (lv_at hl 1 rfl) ?_
  refine lv_aload_n hx hb dL_law_1109 rfl (lv_at hl 0 rfl) ?_
  refine lv_iload hx hb dL_law_1110 (lv_at hl 4 rfl) ?_
  refine lv_iconst (v := 1) hx hb dL_law_1112 (by decide) ?_
  refine lv_iadd hx hb dL_law_1113 ?_
  refine va_sld hx hb hXs hbl hbA hS (sc_in (k := 1) hi hLs (by decide)) dL_law_1114 ?_
  refine lv_aload_n hx hb dL_law_1115 rfl (lv_at hl 0 rfl) ?_
  refine lv_iload hx hb dL_law_1116 (lv_at hl 4 rfl) ?_
  refine lv_iconst (v := 2) hx hb dL_law_1118 (by decide) ?_
  refine lv_iadd hx hb dL_law_1119 ?_
  refine va_sld hx hb hXs hbl hbA hS (sc_in (k := 2) hi hLs (by decide)) dL_law_1120 ?_
  refine lv_i2l hx hb dL_law_1121 rfl ?_
  refine lv_bipush (v := 32) hx hb dL_law_1122 (by decide) ?_
  refine lv_lshl hx hb dL_law_1124 rfl ?_
  refine lv_aload_n hx hb dL_law_1125 rfl (lv_at hl 0 rfl) ?_
  refine lv_iload hx hb dL_law_1126 (lv_at hl 4 rfl) ?_
  refine lv_iconst (v := 3) hx hb dL_law_1128 (by decide) ?_
  refine lv_iadd hx hb dL_law_1129 ?_
  refine va_sld hx hb hXs hbl hbA hS (sc_in (k := 3) hi hLs (by decide)) dL_law_1130 ?_
  refine lv_i2l hx hb dL_law_1131 rfl ?_
  refine lv_ldc2 (v := 4294967295) hx hb hown (hts (.constantLong RL 154 (4294967295)) (wsL_has _ (by decide +kernel))) dL_law_1132 ?_
  refine lv_land hx hb dL_law_1135 ?_
  refine lv_lor hx hb dL_law_1136 ?_
  refine lv_aload_n hx hb dL_law_1137 rfl (lv_at hl 3 rfl) ?_
  refine wr_i (fun u => allW cy o b t pa se th tr mb u ((rf, nI z, nI ct, sp, ou), f, (yn, yt, y3), di, ke, ik)) (vx_runSW (As := [.ref (b 0), .int (xs (nI i + 1).toNatClampNeg), .long (((xs (nI i + 2).toNatClampNeg).toInt64 <<< ((32 : Int32).toInt64 &&& 63)) ||| ((xs (nI i + 3).toNatClampNeg).toInt64 &&& 4294967295)), .ref o]) (rest := []) hF (c_L_runScript l D cy hl0 b t pa se th tr nw z ht1 f ct L hc1 hc2 sc pf bf y0 y1 x o0 o1 n hn hRn.1 hRn.2.2.1 ⟨yn, n, hn, hRn⟩ (xs (nI i + 1).toNatClampNeg) (((xs (nI i + 2).toNatClampNeg).toInt64 <<< ((32 : Int32).toInt64 &&& 63)) ||| ((xs (nI i + 3).toNatClampNeg).toInt64 &&& 4294967295)) o fo H.size) (vx_cwSW 4 hts gL_law_L_runScript rfl rfl rfl (by decide +kernel) ⟨Nat.le_of_ble_eq_true rfl, Nat.le_of_ble_eq_true rfl⟩) (wrX_preS hK hP hD (List.Perm.refl _) Xok_l (fun U hU hW => Gl.at hX hS (zz_free hD (List.Perm.refl _) hS hA) hU hW)) rfl rfl hl.1 rfl (lv_room (Nat.le_of_ble_eq_true rfl)) dL_law_1138 ⟨by have := hcs.1; omega, by have := hcs.2; omega⟩) hP hD hS hA (List.Perm.refl _) (fun _ => List.Perm.refl _) (fun k u1 H locs h1 hP hD hS => ?_)
  refine lv_istore (lv' := [(5, .int k), (0, .ref sb), (1, .ref (b 0)), (2, .ref (mb 0)), (3, .ref o), (4, .int (nI i))]) hx hb dL_law_1141 hl (by decide) rfl (fun ls hl => ?_)
  refine lv_aload_n hx hb dL_law_1143 rfl (lv_at hl 3 rfl) ?_
  refine lv_aload_n hx hb dL_law_1144 rfl (lv_at hl 1 rfl) ?_
  refine lv_iload hx hb dL_law_1145 (lv_at hl 5 rfl) ?_
  refine lv_iconst (v := 1) hx hb dL_law_1147 (by decide) ?_
  refine lv_iadd hx hb dL_law_1148 ?_
  refine va_sld hx hb hXs hbl hbA hS (sc_in (k := 1) hi hLs (by decide)) dL_law_1149 ?_
  refine lv_aload_n hx hb dL_law_1150 rfl (lv_at hl 1 rfl) ?_
  refine lv_iload hx hb dL_law_1151 (lv_at hl 5 rfl) ?_
  refine lv_iconst (v := 2) hx hb dL_law_1153 (by decide) ?_
  refine lv_iadd hx hb dL_law_1154 ?_
  refine va_sld hx hb hXs hbl hbA hS (sc_in (k := 2) hi hLs (by decide)) dL_law_1155 ?_
  refine lv_i2l hx hb dL_law_1156 rfl ?_
  refine lv_bipush (v := 32) hx hb dL_law_1157 (by decide) ?_
  refine lv_lshl hx hb dL_law_1159 rfl ?_
  refine lv_aload_n hx hb dL_law_1160 rfl (lv_at hl 1 rfl) ?_
  refine lv_iload hx hb dL_law_1161 (lv_at hl 5 rfl) ?_
  refine lv_iconst (v := 3) hx hb dL_law_1163 (by decide) ?_
  refine lv_iadd hx hb dL_law_1164 ?_
  refine va_sld hx hb hXs hbl hbA hS (sc_in (k := 3) hi hLs (by decide)) dL_law_1165 ?_
  refine lv_i2l hx hb dL_law_1166 rfl ?_
  refine lv_ldc2 (v := 4294967295) hx hb hown (hts (.constantLong RL 154 (4294967295)) (wsL_has _ (by decide +kernel))) dL_law_1167 ?_
  refine lv_land hx hb dL_law_1170 ?_
  refine lv_lor hx hb dL_law_1171 ?_
  refine wr_i (fun U => allW cy o b t pa se th tr mb u1 U) (va_runV (As := [.int (xs (nI i + 1).toNatClampNeg), .long (((xs (nI i + 2).toNatClampNeg).toInt64 <<< ((32 : Int32).toInt64 &&& 63)) ||| ((xs (nI i + 3).toNatClampNeg).toInt64 &&& 4294967295))]) (rest := []) hF (c_X8_runScript l D cy mb rf (nI z) (nI ct) sp ou f yn yt y3 di ke ik n hn x hRn (xs (nI i + 1).toNatClampNeg) (((xs (nI i + 2).toNatClampNeg).toInt64 <<< ((32 : Int32).toInt64 &&& 63)) ||| ((xs (nI i + 3).toNatClampNeg).toInt64 &&& 4294967295)) H.size) (cwV 2 hts gL_law_X8_runScript rfl rfl rfl (by decide +kernel) ⟨Nat.le_of_ble_eq_true rfl, Nat.le_of_ble_eq_true rfl⟩) (wr_preV hK hP hD List.perm_append_comm 0 5 rfl rfl rfl) rfl rfl hl.1 rfl (lv_room (Nat.le_of_ble_eq_true rfl)) dL_law_1172 ⟨by have := hcs.1; omega, by have := hcs.2; omega⟩) hP hD hS hA List.perm_append_comm (fun _ => List.perm_append_comm) (fun r u2 H locs h2 hP hD hS => ?_)
  obtain ⟨e1, e2, e3⟩ := cmd_runScript (xs (nI i + 1).toNatClampNeg) (((xs (nI i + 2).toNatClampNeg).toInt64 <<< ((32 : Int32).toInt64 &&& 63)) ||| ((xs (nI i + 3).toNatClampNeg).toInt64 &&& 4294967295)) hn hRn hR h1 h2
  refine lv_istore (lv' := [(6, .int r), (5, .int k), (0, .ref sb), (1, .ref (b 0)), (2, .ref (mb 0)), (3, .ref o), (4, .int (nI i))]) hx hb dL_law_1175 hl (by decide) rfl (fun ls hl => ?_)
  refine lv_aload_n hx hb dL_law_1177 rfl (lv_at hl 4 rfl) ?_
  refine rd_V (As := []) (rest := []) hF (c_X8_thrown l D cy mb u2.1.1 u2.1.2.1 u2.1.2.2.1 u2.1.2.2.2.1 u2.1.2.2.2.2) (cwV 0 hts gL_law_X8_thrown rfl rfl rfl (by decide +kernel) ⟨Nat.le_of_ble_eq_true rfl, Nat.le_of_ble_eq_true rfl⟩) hK ((zz_Pp hP List.perm_append_comm).sub [0] rfl) 0 5 rfl rfl rfl rfl hl.1 rfl (Nat.le_of_ble_eq_true rfl) dL_law_1178 ⟨by have := hcs.1; omega, by have := hcs.2; omega⟩ ?_
  refine lv_iload hx hb dL_law_1181 (lv_at hl 1 rfl) ?_
  refine lv_icmp_eq (tgt := 1188) hx hb dL_law_1183 (by decide) (fun _ => ?_) (fun c_1 => absurd e1 c_1)
  refine lv_iload hx hb dL_law_1188 (lv_at hl 1 rfl) ?_
  refine lv_if_ne (tgt := 1205) hx hb dL_law_1190 (by decide) (fun c_2 => ?_) (fun c_2 => ?_)
  · refine lv_goto (tgt := 1420) hx hb dL_law_1205 (by decide) ?_
    refine W.widen (k := cells + 11) (n := slots + 57) (by omega) (by omega) ?_
    exact kk u1 u2 _ _ _ e3 hP hD hS (lv_sub hl [2, 3, 4, 5, 6] rfl)
  · refine lv_aload_n hx hb dL_law_1193 rfl (lv_at hl 5 rfl) ?_
    refine lv_iconst (v := 0) hx hb dL_law_1194 (by decide) ?_
    refine va_lald hx hb hK hP 0 4 rfl rfl (show vp_in (nI 0) 1 from vp_in_nI (by decide) (by decide)) dL_law_1195 ?_
    refine lv_iload hx hb dL_law_1196 (lv_at hl 0 rfl) ?_
    refine lv_i2l hx hb dL_law_1198 rfl ?_
    refine W.lcmp hx hb dL_law_1199 ?_
    refine lv_if_eq (tgt := 1205) hx hb dL_law_1200 (by decide) (fun _ => ?_) (fun c_3 => absurd (show u1.1 (0 : Int32).toNatClampNeg = r.toInt64 from e2 c_2) (fun q => c_3 ((lg_cmp_eq _ _).mpr q)))
    refine lv_goto (tgt := 1420) hx hb dL_law_1205 (by decide) ?_
    refine W.widen (k := cells + 11) (n := slots + 57) (by omega) (by omega) ?_
    exact kk u1 u2 _ _ _ e3 hP hD hS (lv_sub hl [2, 3, 4, 5, 6] rfl)
set_option maxHeartbeats 4000000 in
set_option maxRecDepth 100000 in
theorem law_simulate (C0 : lw_At p s m meth c sb Ls xs) (hl0 : l.stackTraces = false) (hK : va_K D vwCl (tyL cy) s) (hX : Gl (lwA s) s) (hi : i + 5 ≤ Ls) (hLs : Ls ≤ 2560) (hR : RelL S U) (hP : va_P D vwCl (allW cy o b t pa se th tr mb (fo, S) U) H) (hD : va_D (lwA s) (allW cy o b t pa se th tr mb (fo, S) U)) (hS : va_S (lwA s) s.heap H locs) (hl : lv_has ls 7 (lvL sb b mb o i)) (hcs : cells + 11 ≤ room_1.cells ∧ slots + 57 ≤ room_1.slots) (kk : lawNext p l e s m below meth c Q D cy sb o b t pa se th tr mb i (cells + 11) (slots + 57)) : W p l e room_1 s m #[.ref sb] below meth c H locs cells slots Q (F0 m 1208 ls []) := by
  obtain ⟨hx, hb, hr, hml, hown, hts0, hXs, hbl, hlocks, hgv⟩ := id C0
  have hts : ∀ w ∈ wsL_law, w.before #[.ref sb] s = true := fun w h => hts0 w (wsL_law_in w h)
  have hF : CallFix p m c cL_law 7 s #[.ref sb] wsL_law RL := ⟨hx, hb, hml, hown, hts⟩
  have hb : c.code = cL_law := hb
  have hA : ∀ q, s.heap.size ≤ q → lwA s q := fun _ h => h
  have hbA : ¬ lwA s sb := Nat.not_le.mpr hbl
  obtain ⟨⟨z, f⟩, ⟨ct, L⟩, ⟨⟨sc, pf, bf⟩, y0⟩, y1, ⟨nw, x⟩, o0, o1⟩ := S
  obtain ⟨⟨rf, sn, ac, sp, ou⟩, tx, ⟨yn, yt, y3⟩, di, ke, ik⟩ := U
  obtain ⟨⟨n, hn, hRn⟩, ⟨ef, es, ht⟩, ⟨hc1, hc2, ea, -⟩, hs0, hs1⟩ := id hR
  obtain rfl : f = tx := ef
  obtain rfl : sn = nI z := es
  obtain rfl : ac = nI ct := ea
  have hOk : ∀ {o9 : Option HQ} {a9 : Int32} {w9 : HS}, relS o9 a9 w9 → ∀ q, o9 = some q → OkH q.2 := fun h q h2 => ⟨_, rst_x h h2⟩
  have ht1 : z ≤ 120 := ht.1
  have hc1 : ct ≤ L.length := hc1
  have hc2 : L.length ≤ 14 := hc2
  have hRn : RelN n x yn := hRn
  refine lv_aload_n hx hb dL_law_1208 rfl (lv_at hl 1 rfl) ?_
  refine lv_aload_n hx hb dL_law_1209 rfl (lv_at hl 0 rfl) ?_
  refine lv_iload hx hb dL_law_1210 (lv_at hl 4 rfl) ?_
  refine lv_iconst (v := 1) hx hb dL_law_1212 (by decide) ?_
  refine lv_iadd hx hb dL_law_1213 ?_
  refine va_sld hx hb hXs hbl hbA hS (sc_in (k := 1) hi hLs (by decide)) dL_law_1214 ?_
  refine lv_i2l hx hb dL_law_1215 rfl ?_
  refine lv_bipush (v := 32) hx hb dL_law_1216 (by decide) ?_
  refine lv_lshl hx hb dL_law_1218 rfl ?_
  refine lv_aload_n hx hb dL_law_1219 rfl (lv_at hl 0 rfl) ?_
  refine lv_iload hx hb dL_law_1220 (lv_at hl 4 rfl) ?_
  refine lv_iconst (v := 2) hx hb dL_law_1222 (by decide) ?_
  refine lv_iadd hx hb dL_law_1223 ?_
  refine va_sld hx hb hXs hbl hbA hS (sc_in (k := 2) hi hLs (by decide)) dL_law_1224 ?_
  refine lv_i2l hx hb dL_law_1225 rfl ?_
  refine lv_ldc2 (v := 4294967295) hx hb hown (hts (.constantLong RL 154 (4294967295)) (wsL_has _ (by decide +kernel))) dL_law_1226 ?_
  refine lv_land hx hb dL_law_1229 ?_
  refine lv_lor hx hb dL_law_1230 ?_
  refine lv_aload_n hx hb dL_law_1231 rfl (lv_at hl 0 rfl) ?_
  refine lv_iload hx hb dL_law_1232 (lv_at hl 4 rfl) ?_
  refine lv_iconst (v := 3) hx hb dL_law_1234 (by decide) ?_
  refine lv_iadd hx hb dL_law_1235 ?_
  refine va_sld hx hb hXs hbl hbA hS (sc_in (k := 3) hi hLs (by decide)) dL_law_1236 ?_
  refine lv_aload_n hx hb dL_law_1237 rfl (lv_at hl 3 rfl) ?_
  refine wr_i (fun u => allW cy o b t pa se th tr mb u ((rf, nI z, nI ct, sp, ou), f, (yn, yt, y3), di, ke, ik)) (vx_runSW (As := [.ref (b 0), .long (((xs (nI i + 1).toNatClampNeg).toInt64 <<< ((32 : Int32).toInt64 &&& 63)) ||| ((xs (nI i + 2).toNatClampNeg).toInt64 &&& 4294967295)), .int (xs (nI i + 3).toNatClampNeg), .ref o]) (rest := []) hF (c_L_simulate l D cy hl0 b t pa se th tr nw z ht1 f ct L hc1 hc2 sc pf bf y0 y1 x o0 o1 n hn hRn.1 hRn.2.2.1 ⟨yn, n, hn, hRn⟩ (((xs (nI i + 1).toNatClampNeg).toInt64 <<< ((32 : Int32).toInt64 &&& 63)) ||| ((xs (nI i + 2).toNatClampNeg).toInt64 &&& 4294967295)) (xs (nI i + 3).toNatClampNeg) o fo H.size) (vx_cwSW 4 hts gL_law_L_simulate rfl rfl rfl (by decide +kernel) ⟨Nat.le_of_ble_eq_true rfl, Nat.le_of_ble_eq_true rfl⟩) (wrX_preS hK hP hD (List.Perm.refl _) Xok_l (fun U hU hW => Gl.at hX hS (zz_free hD (List.Perm.refl _) hS hA) hU hW)) rfl rfl hl.1 rfl (lv_room (Nat.le_of_ble_eq_true rfl)) dL_law_1238 ⟨by have := hcs.1; omega, by have := hcs.2; omega⟩) hP hD hS hA (List.Perm.refl _) (fun _ => List.Perm.refl _) (fun k u1 H locs h1 hP hD hS => ?_)
  refine lv_istore (lv' := [(5, .int k), (0, .ref sb), (1, .ref (b 0)), (2, .ref (mb 0)), (3, .ref o), (4, .int (nI i))]) hx hb dL_law_1241 hl (by decide) rfl (fun ls hl => ?_)
  refine lv_aload_n hx hb dL_law_1243 rfl (lv_at hl 3 rfl) ?_
  refine lv_aload_n hx hb dL_law_1244 rfl (lv_at hl 1 rfl) ?_
  refine lv_iload hx hb dL_law_1245 (lv_at hl 5 rfl) ?_
  refine lv_iconst (v := 1) hx hb dL_law_1247 (by decide) ?_
  refine lv_iadd hx hb dL_law_1248 ?_
  refine va_sld hx hb hXs hbl hbA hS (sc_in (k := 1) hi hLs (by decide)) dL_law_1249 ?_
  refine lv_i2l hx hb dL_law_1250 rfl ?_
  refine lv_bipush (v := 32) hx hb dL_law_1251 (by decide) ?_
  refine lv_lshl hx hb dL_law_1253 rfl ?_
  refine lv_aload_n hx hb dL_law_1254 rfl (lv_at hl 1 rfl) ?_
  refine lv_iload hx hb dL_law_1255 (lv_at hl 5 rfl) ?_
  refine lv_iconst (v := 2) hx hb dL_law_1257 (by decide) ?_
  refine lv_iadd hx hb dL_law_1258 ?_
  refine va_sld hx hb hXs hbl hbA hS (sc_in (k := 2) hi hLs (by decide)) dL_law_1259 ?_
  refine lv_i2l hx hb dL_law_1260 rfl ?_
  refine lv_ldc2 (v := 4294967295) hx hb hown (hts (.constantLong RL 154 (4294967295)) (wsL_has _ (by decide +kernel))) dL_law_1261 ?_
  refine lv_land hx hb dL_law_1264 ?_
  refine lv_lor hx hb dL_law_1265 ?_
  refine lv_aload_n hx hb dL_law_1266 rfl (lv_at hl 1 rfl) ?_
  refine lv_iload hx hb dL_law_1267 (lv_at hl 5 rfl) ?_
  refine lv_iconst (v := 3) hx hb dL_law_1269 (by decide) ?_
  refine lv_iadd hx hb dL_law_1270 ?_
  refine va_sld hx hb hXs hbl hbA hS (sc_in (k := 3) hi hLs (by decide)) dL_law_1271 ?_
  refine wr_i (fun U => allW cy o b t pa se th tr mb u1 U) (va_runV (As := [.long (((xs (nI i + 1).toNatClampNeg).toInt64 <<< ((32 : Int32).toInt64 &&& 63)) ||| ((xs (nI i + 2).toNatClampNeg).toInt64 &&& 4294967295)), .int (xs (nI i + 3).toNatClampNeg)]) (rest := []) hF (c_X8_simulate l D cy mb rf (nI z) (nI ct) sp ou f yn yt y3 di ke ik n hn x hRn (((xs (nI i + 1).toNatClampNeg).toInt64 <<< ((32 : Int32).toInt64 &&& 63)) ||| ((xs (nI i + 2).toNatClampNeg).toInt64 &&& 4294967295)) (xs (nI i + 3).toNatClampNeg) H.size) (cwV 2 hts gL_law_X8_simulate rfl rfl rfl (by decide +kernel) ⟨Nat.le_of_ble_eq_true rfl, Nat.le_of_ble_eq_true rfl⟩) (wr_preV hK hP hD List.perm_append_comm 0 5 rfl rfl rfl) rfl rfl hl.1 rfl (lv_room (Nat.le_of_ble_eq_true rfl)) dL_law_1272 ⟨by have := hcs.1; omega, by have := hcs.2; omega⟩) hP hD hS hA List.perm_append_comm (fun _ => List.perm_append_comm) (fun r u2 H locs h2 hP hD hS => ?_)
  obtain ⟨e1, e2, e3⟩ := cmd_simulate (((xs (nI i + 1).toNatClampNeg).toInt64 <<< ((32 : Int32).toInt64 &&& 63)) ||| ((xs (nI i + 2).toNatClampNeg).toInt64 &&& 4294967295)) (xs (nI i + 3).toNatClampNeg) hn hRn hR h1 h2
  refine lv_istore (lv' := [(6, .int r), (5, .int k), (0, .ref sb), (1, .ref (b 0)), (2, .ref (mb 0)), (3, .ref o), (4, .int (nI i))]) hx hb dL_law_1275 hl (by decide) rfl (fun ls hl => ?_)
  refine lv_aload_n hx hb dL_law_1277 rfl (lv_at hl 4 rfl) ?_
  refine rd_V (As := []) (rest := []) hF (c_X8_thrown l D cy mb u2.1.1 u2.1.2.1 u2.1.2.2.1 u2.1.2.2.2.1 u2.1.2.2.2.2) (cwV 0 hts gL_law_X8_thrown rfl rfl rfl (by decide +kernel) ⟨Nat.le_of_ble_eq_true rfl, Nat.le_of_ble_eq_true rfl⟩) hK ((zz_Pp hP List.perm_append_comm).sub [0] rfl) 0 5 rfl rfl rfl rfl hl.1 rfl (Nat.le_of_ble_eq_true rfl) dL_law_1278 ⟨by have := hcs.1; omega, by have := hcs.2; omega⟩ ?_
  refine lv_iload hx hb dL_law_1281 (lv_at hl 1 rfl) ?_
  refine lv_icmp_eq (tgt := 1288) hx hb dL_law_1283 (by decide) (fun _ => ?_) (fun c_1 => absurd e1 c_1)
  refine lv_iload hx hb dL_law_1288 (lv_at hl 1 rfl) ?_
  refine lv_if_ne (tgt := 1305) hx hb dL_law_1290 (by decide) (fun c_2 => ?_) (fun c_2 => ?_)
  · refine lv_goto (tgt := 1420) hx hb dL_law_1305 (by decide) ?_
    refine W.widen (k := cells + 11) (n := slots + 57) (by omega) (by omega) ?_
    exact kk u1 u2 _ _ _ e3 hP hD hS (lv_sub hl [2, 3, 4, 5, 6] rfl)
  · refine lv_aload_n hx hb dL_law_1293 rfl (lv_at hl 5 rfl) ?_
    refine lv_iconst (v := 0) hx hb dL_law_1294 (by decide) ?_
    refine va_lald hx hb hK hP 0 4 rfl rfl (show vp_in (nI 0) 1 from vp_in_nI (by decide) (by decide)) dL_law_1295 ?_
    refine lv_iload hx hb dL_law_1296 (lv_at hl 0 rfl) ?_
    refine lv_i2l hx hb dL_law_1298 rfl ?_
    refine W.lcmp hx hb dL_law_1299 ?_
    refine lv_if_eq (tgt := 1305) hx hb dL_law_1300 (by decide) (fun _ => ?_) (fun c_3 => absurd (show u1.1 (0 : Int32).toNatClampNeg = r.toInt64 from e2 c_2) (fun q => c_3 ((lg_cmp_eq _ _).mpr q)))
    refine lv_goto (tgt := 1420) hx hb dL_law_1305 (by decide) ?_
    refine W.widen (k := cells + 11) (n := slots + 57) (by omega) (by omega) ?_
    exact kk u1 u2 _ _ _ e3 hP hD hS (lv_sub hl [2, 3, 4, 5, 6] rfl)
set_option maxHeartbeats 4000000 in
set_option maxRecDepth 100000 in
theorem law_save (C0 : lw_At p s m meth c sb Ls xs) (hl0 : l.stackTraces = false) (hK : va_K D vwCl (tyL cy) s) (hX : Gl (lwA s) s) (hi : i + 5 ≤ Ls) (hLs : Ls ≤ 2560) (hR : RelL S U) (hP : va_P D vwCl (allW cy o b t pa se th tr mb (fo, S) U) H) (hD : va_D (lwA s) (allW cy o b t pa se th tr mb (fo, S) U)) (hS : va_S (lwA s) s.heap H locs) (hl : lv_has ls 7 (lvL sb b mb o i)) (hcs : cells + 11 ≤ room_1.cells ∧ slots + 57 ≤ room_1.slots) (kk : lawNext p l e s m below meth c Q D cy sb o b t pa se th tr mb i (cells + 11) (slots + 57)) : W p l e room_1 s m #[.ref sb] below meth c H locs cells slots Q (F0 m 1308 ls []) := by
  obtain ⟨hx, hb, hr, hml, hown, hts0, hXs, hbl, hlocks, hgv⟩ := id C0
  have hts : ∀ w ∈ wsL_law, w.before #[.ref sb] s = true := fun w h => hts0 w (wsL_law_in w h)
  have hF : CallFix p m c cL_law 7 s #[.ref sb] wsL_law RL := ⟨hx, hb, hml, hown, hts⟩
  have hb : c.code = cL_law := hb
  have hA : ∀ q, s.heap.size ≤ q → lwA s q := fun _ h => h
  have hbA : ¬ lwA s sb := Nat.not_le.mpr hbl
  obtain ⟨⟨z, f⟩, ⟨ct, L⟩, ⟨⟨sc, pf, bf⟩, y0⟩, y1, ⟨nw, x⟩, o0, o1⟩ := S
  obtain ⟨⟨rf, sn, ac, sp, ou⟩, tx, ⟨yn, yt, y3⟩, di, ke, ik⟩ := U
  obtain ⟨⟨n, hn, hRn⟩, ⟨ef, es, ht⟩, ⟨hc1, hc2, ea, -⟩, hs0, hs1⟩ := id hR
  obtain rfl : f = tx := ef
  obtain rfl : sn = nI z := es
  obtain rfl : ac = nI ct := ea
  have hOk : ∀ {o9 : Option HQ} {a9 : Int32} {w9 : HS}, relS o9 a9 w9 → ∀ q, o9 = some q → OkH q.2 := fun h q h2 => ⟨_, rst_x h h2⟩
  have ht1 : z ≤ 120 := ht.1
  have hc1 : ct ≤ L.length := hc1
  have hc2 : L.length ≤ 14 := hc2
  have hRn : RelN n x yn := hRn
  refine lv_aload_n hx hb dL_law_1308 rfl (lv_at hl 1 rfl) ?_
  refine lv_aload_n hx hb dL_law_1309 rfl (lv_at hl 0 rfl) ?_
  refine lv_iload hx hb dL_law_1310 (lv_at hl 4 rfl) ?_
  refine lv_iconst (v := 1) hx hb dL_law_1312 (by decide) ?_
  refine lv_iadd hx hb dL_law_1313 ?_
  refine va_sld hx hb hXs hbl hbA hS (sc_in (k := 1) hi hLs (by decide)) dL_law_1314 ?_
  refine lv_aload_n hx hb dL_law_1315 rfl (lv_at hl 3 rfl) ?_
  refine wr_i (fun u => allW cy o b t pa se th tr mb u ((rf, nI z, nI ct, sp, ou), f, (yn, yt, y3), di, ke, ik)) (vx_runSW (As := [.ref (b 0), .int (xs (nI i + 1).toNatClampNeg), .ref o]) (rest := []) hF (c_L_save l D cy hl0 b t pa se th tr nw z ht1 f ct L hc1 hc2 sc pf bf y0 y1 x o0 o1 n hn hRn.1 hRn.2.2.1 (xs (nI i + 1).toNatClampNeg) o fo H.size) (vx_cwSW 3 hts gL_law_L_save rfl rfl rfl (by decide +kernel) ⟨Nat.le_of_ble_eq_true rfl, Nat.le_of_ble_eq_true rfl⟩) (wrX_preS hK hP hD (List.Perm.refl _) Xok_l (fun U hU hW => Gl.at hX hS (zz_free hD (List.Perm.refl _) hS hA) hU hW)) rfl rfl hl.1 rfl (lv_room (Nat.le_of_ble_eq_true rfl)) dL_law_1316 ⟨by have := hcs.1; omega, by have := hcs.2; omega⟩) hP hD hS hA (List.Perm.refl _) (fun _ => List.Perm.refl _) (fun k u1 H locs h1 hP hD hS => ?_)
  refine lv_istore (lv' := [(5, .int k), (0, .ref sb), (1, .ref (b 0)), (2, .ref (mb 0)), (3, .ref o), (4, .int (nI i))]) hx hb dL_law_1319 hl (by decide) rfl (fun ls hl => ?_)
  refine lv_aload_n hx hb dL_law_1321 rfl (lv_at hl 3 rfl) ?_
  refine lv_aload_n hx hb dL_law_1322 rfl (lv_at hl 1 rfl) ?_
  refine lv_iload hx hb dL_law_1323 (lv_at hl 5 rfl) ?_
  refine lv_iconst (v := 1) hx hb dL_law_1325 (by decide) ?_
  refine lv_iadd hx hb dL_law_1326 ?_
  refine va_sld hx hb hXs hbl hbA hS (sc_in (k := 1) hi hLs (by decide)) dL_law_1327 ?_
  refine wr_i (fun U => allW cy o b t pa se th tr mb u1 U) (va_runV (As := [.int (xs (nI i + 1).toNatClampNeg)]) (rest := []) hF (c_X8_save l D cy mb rf (nI z) (nI ct) sp ou f yn yt y3 di ke ik n hn hRn.gy (xs (nI i + 1).toNatClampNeg) H.size) (cwV 1 hts gL_law_X8_save rfl rfl rfl (by decide +kernel) ⟨Nat.le_of_ble_eq_true rfl, Nat.le_of_ble_eq_true rfl⟩) (wr_preV hK hP hD List.perm_append_comm 0 5 rfl rfl rfl) rfl rfl hl.1 rfl (lv_room (Nat.le_of_ble_eq_true rfl)) dL_law_1328 ⟨by have := hcs.1; omega, by have := hcs.2; omega⟩) hP hD hS hA List.perm_append_comm (fun _ => List.perm_append_comm) (fun r u2 H locs h2 hP hD hS => ?_)
  obtain ⟨e1, e2, e3⟩ := cmd_save (xs (nI i + 1).toNatClampNeg) hn hRn hR h1 h2
  refine lv_istore (lv' := [(6, .int r), (5, .int k), (0, .ref sb), (1, .ref (b 0)), (2, .ref (mb 0)), (3, .ref o), (4, .int (nI i))]) hx hb dL_law_1331 hl (by decide) rfl (fun ls hl => ?_)
  refine lv_aload_n hx hb dL_law_1333 rfl (lv_at hl 4 rfl) ?_
  refine rd_V (As := []) (rest := []) hF (c_X8_thrown l D cy mb u2.1.1 u2.1.2.1 u2.1.2.2.1 u2.1.2.2.2.1 u2.1.2.2.2.2) (cwV 0 hts gL_law_X8_thrown rfl rfl rfl (by decide +kernel) ⟨Nat.le_of_ble_eq_true rfl, Nat.le_of_ble_eq_true rfl⟩) hK ((zz_Pp hP List.perm_append_comm).sub [0] rfl) 0 5 rfl rfl rfl rfl hl.1 rfl (Nat.le_of_ble_eq_true rfl) dL_law_1334 ⟨by have := hcs.1; omega, by have := hcs.2; omega⟩ ?_
  refine lv_iload hx hb dL_law_1337 (lv_at hl 1 rfl) ?_
  refine lv_icmp_eq (tgt := 1344) hx hb dL_law_1339 (by decide) (fun _ => ?_) (fun c_1 => absurd e1 c_1)
  refine lv_iload hx hb dL_law_1344 (lv_at hl 1 rfl) ?_
  refine lv_if_ne (tgt := 1361) hx hb dL_law_1346 (by decide) (fun c_2 => ?_) (fun c_2 => ?_)
  · refine lv_goto (tgt := 1420) hx hb dL_law_1361 (by decide) ?_
    refine W.widen (k := cells + 11) (n := slots + 57) (by omega) (by omega) ?_
    exact kk u1 u2 _ _ _ e3 hP hD hS (lv_sub hl [2, 3, 4, 5, 6] rfl)
  · refine lv_aload_n hx hb dL_law_1349 rfl (lv_at hl 5 rfl) ?_
    refine lv_iconst (v := 0) hx hb dL_law_1350 (by decide) ?_
    refine va_lald hx hb hK hP 0 4 rfl rfl (show vp_in (nI 0) 1 from vp_in_nI (by decide) (by decide)) dL_law_1351 ?_
    refine lv_iload hx hb dL_law_1352 (lv_at hl 0 rfl) ?_
    refine lv_i2l hx hb dL_law_1354 rfl ?_
    refine W.lcmp hx hb dL_law_1355 ?_
    refine lv_if_eq (tgt := 1361) hx hb dL_law_1356 (by decide) (fun _ => ?_) (fun c_3 => absurd (show u1.1 (0 : Int32).toNatClampNeg = r.toInt64 from e2 c_2) (fun q => c_3 ((lg_cmp_eq _ _).mpr q)))
    refine lv_goto (tgt := 1420) hx hb dL_law_1361 (by decide) ?_
    refine W.widen (k := cells + 11) (n := slots + 57) (by omega) (by omega) ?_
    exact kk u1 u2 _ _ _ e3 hP hD hS (lv_sub hl [2, 3, 4, 5, 6] rfl)
set_option maxHeartbeats 4000000 in
set_option maxRecDepth 100000 in
theorem law_restore (C0 : lw_At p s m meth c sb Ls xs) (hl0 : l.stackTraces = false) (hK : va_K D vwCl (tyL cy) s) (hX : Gl (lwA s) s) (hi : i + 5 ≤ Ls) (hLs : Ls ≤ 2560) (hR : RelL S U) (hP : va_P D vwCl (allW cy o b t pa se th tr mb (fo, S) U) H) (hD : va_D (lwA s) (allW cy o b t pa se th tr mb (fo, S) U)) (hS : va_S (lwA s) s.heap H locs) (hl : lv_has ls 7 (lvL sb b mb o i)) (hcs : cells + 11 ≤ room_1.cells ∧ slots + 57 ≤ room_1.slots) (kk : lawNext p l e s m below meth c Q D cy sb o b t pa se th tr mb i (cells + 11) (slots + 57)) : W p l e room_1 s m #[.ref sb] below meth c H locs cells slots Q (F0 m 1364 ls []) := by
  obtain ⟨hx, hb, hr, hml, hown, hts0, hXs, hbl, hlocks, hgv⟩ := id C0
  have hts : ∀ w ∈ wsL_law, w.before #[.ref sb] s = true := fun w h => hts0 w (wsL_law_in w h)
  have hF : CallFix p m c cL_law 7 s #[.ref sb] wsL_law RL := ⟨hx, hb, hml, hown, hts⟩
  have hb : c.code = cL_law := hb
  have hA : ∀ q, s.heap.size ≤ q → lwA s q := fun _ h => h
  have hbA : ¬ lwA s sb := Nat.not_le.mpr hbl
  obtain ⟨⟨z, f⟩, ⟨ct, L⟩, ⟨⟨sc, pf, bf⟩, y0⟩, y1, ⟨nw, x⟩, o0, o1⟩ := S
  obtain ⟨⟨rf, sn, ac, sp, ou⟩, tx, ⟨yn, yt, y3⟩, di, ke, ik⟩ := U
  obtain ⟨⟨n, hn, hRn⟩, ⟨ef, es, ht⟩, ⟨hc1, hc2, ea, -⟩, hs0, hs1⟩ := id hR
  obtain rfl : f = tx := ef
  obtain rfl : sn = nI z := es
  obtain rfl : ac = nI ct := ea
  have hOk : ∀ {o9 : Option HQ} {a9 : Int32} {w9 : HS}, relS o9 a9 w9 → ∀ q, o9 = some q → OkH q.2 := fun h q h2 => ⟨_, rst_x h h2⟩
  have ht1 : z ≤ 120 := ht.1
  have hc1 : ct ≤ L.length := hc1
  have hc2 : L.length ≤ 14 := hc2
  have hRn : RelN n x yn := hRn
  refine lv_aload_n hx hb dL_law_1364 rfl (lv_at hl 1 rfl) ?_
  refine lv_aload_n hx hb dL_law_1365 rfl (lv_at hl 0 rfl) ?_
  refine lv_iload hx hb dL_law_1366 (lv_at hl 4 rfl) ?_
  refine lv_iconst (v := 1) hx hb dL_law_1368 (by decide) ?_
  refine lv_iadd hx hb dL_law_1369 ?_
  refine va_sld hx hb hXs hbl hbA hS (sc_in (k := 1) hi hLs (by decide)) dL_law_1370 ?_
  refine lv_aload_n hx hb dL_law_1371 rfl (lv_at hl 3 rfl) ?_
  refine wr_i (fun u => allW cy o b t pa se th tr mb u ((rf, nI z, nI ct, sp, ou), f, (yn, yt, y3), di, ke, ik)) (vx_runSW (As := [.ref (b 0), .int (xs (nI i + 1).toNatClampNeg), .ref o]) (rest := []) hF (c_L_restore l D cy hl0 b t pa se th tr nw z ht1 f ct L hc1 hc2 sc pf bf y0 y1 x o0 o1 n hn hRn.1 hRn.2.2.1 (hOk hs0) (hOk hs1) (xs (nI i + 1).toNatClampNeg) o fo H.size) (vx_cwSW 3 hts gL_law_L_restore rfl rfl rfl (by decide +kernel) ⟨Nat.le_of_ble_eq_true rfl, Nat.le_of_ble_eq_true rfl⟩) (wrX_preS hK hP hD (List.Perm.refl _) Xok_l (fun U hU hW => Gl.at hX hS (zz_free hD (List.Perm.refl _) hS hA) hU hW)) rfl rfl hl.1 rfl (lv_room (Nat.le_of_ble_eq_true rfl)) dL_law_1372 ⟨by have := hcs.1; omega, by have := hcs.2; omega⟩) hP hD hS hA (List.Perm.refl _) (fun _ => List.Perm.refl _) (fun k u1 H locs h1 hP hD hS => ?_)
  refine lv_istore (lv' := [(5, .int k), (0, .ref sb), (1, .ref (b 0)), (2, .ref (mb 0)), (3, .ref o), (4, .int (nI i))]) hx hb dL_law_1375 hl (by decide) rfl (fun ls hl => ?_)
  refine lv_aload_n hx hb dL_law_1377 rfl (lv_at hl 3 rfl) ?_
  refine lv_aload_n hx hb dL_law_1378 rfl (lv_at hl 1 rfl) ?_
  refine lv_iload hx hb dL_law_1379 (lv_at hl 5 rfl) ?_
  refine lv_iconst (v := 1) hx hb dL_law_1381 (by decide) ?_
  refine lv_iadd hx hb dL_law_1382 ?_
  refine va_sld hx hb hXs hbl hbA hS (sc_in (k := 1) hi hLs (by decide)) dL_law_1383 ?_
  refine wr_i (fun U => allW cy o b t pa se th tr mb u1 U) (va_runV (As := [.int (xs (nI i + 1).toNatClampNeg)]) (rest := []) hF (c_X8_restore l D cy mb rf (nI z) (nI ct) sp ou f yn yt y3 di ke ik n hn hRn.gy (xs (nI i + 1).toNatClampNeg) H.size) (cwV 1 hts gL_law_X8_restore rfl rfl rfl (by decide +kernel) ⟨Nat.le_of_ble_eq_true rfl, Nat.le_of_ble_eq_true rfl⟩) (wr_preV hK hP hD List.perm_append_comm 0 5 rfl rfl rfl) rfl rfl hl.1 rfl (lv_room (Nat.le_of_ble_eq_true rfl)) dL_law_1384 ⟨by have := hcs.1; omega, by have := hcs.2; omega⟩) hP hD hS hA List.perm_append_comm (fun _ => List.perm_append_comm) (fun r u2 H locs h2 hP hD hS => ?_)
  obtain ⟨e1, e2, e3⟩ := cmd_restore (xs (nI i + 1).toNatClampNeg) hn hRn hR h1 h2
  refine lv_istore (lv' := [(6, .int r), (5, .int k), (0, .ref sb), (1, .ref (b 0)), (2, .ref (mb 0)), (3, .ref o), (4, .int (nI i))]) hx hb dL_law_1387 hl (by decide) rfl (fun ls hl => ?_)
  refine lv_aload_n hx hb dL_law_1389 rfl (lv_at hl 4 rfl) ?_
  refine rd_V (As := []) (rest := []) hF (c_X8_thrown l D cy mb u2.1.1 u2.1.2.1 u2.1.2.2.1 u2.1.2.2.2.1 u2.1.2.2.2.2) (cwV 0 hts gL_law_X8_thrown rfl rfl rfl (by decide +kernel) ⟨Nat.le_of_ble_eq_true rfl, Nat.le_of_ble_eq_true rfl⟩) hK ((zz_Pp hP List.perm_append_comm).sub [0] rfl) 0 5 rfl rfl rfl rfl hl.1 rfl (Nat.le_of_ble_eq_true rfl) dL_law_1390 ⟨by have := hcs.1; omega, by have := hcs.2; omega⟩ ?_
  refine lv_iload hx hb dL_law_1393 (lv_at hl 1 rfl) ?_
  refine lv_icmp_eq (tgt := 1400) hx hb dL_law_1395 (by decide) (fun _ => ?_) (fun c_1 => absurd e1 c_1)
  refine lv_iload hx hb dL_law_1400 (lv_at hl 1 rfl) ?_
  refine lv_if_ne (tgt := 1417) hx hb dL_law_1402 (by decide) (fun c_2 => ?_) (fun c_2 => ?_)
  · refine lv_goto (tgt := 1420) hx hb dL_law_1417 (by decide) ?_
    refine W.widen (k := cells + 11) (n := slots + 57) (by omega) (by omega) ?_
    exact kk u1 u2 _ _ _ e3 hP hD hS (lv_sub hl [2, 3, 4, 5, 6] rfl)
  · refine lv_aload_n hx hb dL_law_1405 rfl (lv_at hl 5 rfl) ?_
    refine lv_iconst (v := 0) hx hb dL_law_1406 (by decide) ?_
    refine va_lald hx hb hK hP 0 4 rfl rfl (show vp_in (nI 0) 1 from vp_in_nI (by decide) (by decide)) dL_law_1407 ?_
    refine lv_iload hx hb dL_law_1408 (lv_at hl 0 rfl) ?_
    refine lv_i2l hx hb dL_law_1410 rfl ?_
    refine W.lcmp hx hb dL_law_1411 ?_
    refine lv_if_eq (tgt := 1417) hx hb dL_law_1412 (by decide) (fun _ => ?_) (fun c_3 => absurd (show u1.1 (0 : Int32).toNatClampNeg = r.toInt64 from e2 c_2) (fun q => c_3 ((lg_cmp_eq _ _).mpr q)))
    refine lv_goto (tgt := 1420) hx hb dL_law_1417 (by decide) ?_
    refine W.widen (k := cells + 11) (n := slots + 57) (by omega) (by omega) ?_
    exact kk u1 u2 _ _ _ e3 hP hD hS (lv_sub hl [2, 3, 4, 5, 6] rfl)
end CASE
