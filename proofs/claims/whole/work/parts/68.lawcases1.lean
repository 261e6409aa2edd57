section CASE
variable {p : Program} {l : Launch} {e : Env} {s : State} {m : MethodId} {below : List Frame} {meth : Method} {c : Code} {Q : State → Prop} {D : va_G} {cy : Nat → ClassId} {sb o Ls i cells slots : Nat} {xs : Nat → Int32} {b t pa se th tr mb : Nat → Nat} {S : BS} {U : MS} {fo : Nat → Int64} {H : Heap} {locs : List Loc} {ls : Array Slot}
set_option maxHeartbeats 4000000 in
set_option maxRecDepth 100000 in
theorem law_append (C0 : lw_At p s m meth c sb Ls xs) (hl0 : l.stackTraces = false) (hK : va_K D vwCl (tyL cy) s) (hX : Gl (lwA s) s) (hi : i + 5 ≤ Ls) (hLs : Ls ≤ 2560) (hR : RelL S U) (hP : va_P D vwCl (allW cy o b t pa se th tr mb (fo, S) U) H) (hD : va_D (lwA s) (allW cy o b t pa se th tr mb (fo, S) U)) (hS : va_S (lwA s) s.heap H locs) (hl : lv_has ls 7 (lvL sb b mb o i)) (hcs : cells + 11 ≤ room_1.cells ∧ slots + 57 ≤ room_1.slots) (kk : lawNext p l e s m below meth c Q D cy sb o b t pa se th tr mb i (cells + 11) (slots + 57)) : W p l e room_1 s m #[.ref sb] below meth c H locs cells slots Q (F0 m 144 ls []) := by
  obtain ⟨hx, hb, hr, hml, hown, hts0, hXs, hbl, hlocks, hgv⟩ := id C0
  have hts : ∀ w ∈ wsL_law, w.before #[.ref sb] s = true := fun w h => hts0 w (wsL_law_in w h)
  have hF : CallFix p m c cL_law 7 s #[.ref sb] wsL_law RL := ⟨hx, hb, hml, hown, hts⟩
  have hb : c.code = cL_law := hb
  have hA : ∀ q, s.heap.size ≤ q → lwA s q := fun _ h => h
  have hbA : ¬ lwA s sb := Nat.not_le.mpr hbl
  obtain ⟨⟨z, f⟩, ⟨ct, L⟩, ⟨⟨sc, pf, bf⟩, y0⟩, y1, ⟨nw, x⟩, o0, o1⟩ := S
  obtain ⟨⟨rf, sn, ac, sp, ou⟩, tx, ⟨yn, yt, y3⟩, di, ke, ik⟩ := U
  obtain ⟨⟨n, hn, hRn⟩, ⟨ef, es, ht⟩, ⟨hc1, hc2, ea, -⟩, hs0, hs1⟩ := id hR
  obtain rfl : f = tx := ef
  obtain rfl : sn = nI z := es
  obtain rfl : ac = nI ct := ea
  have hOk : ∀ {o9 : Option HQ} {a9 : Int32} {w9 : HS}, relS o9 a9 w9 → ∀ q, o9 = some q → OkH q.2 := fun h q h2 => ⟨_, rst_x h h2⟩
  have ht1 : z ≤ 120 := ht.1
  have hc1 : ct ≤ L.length := hc1
  have hc2 : L.length ≤ 14 := hc2
  have hRn : RelN n x yn := hRn
  refine lv_aload_n hx hb dL_law_144 rfl (lv_at hl 1 rfl) ?_
  refine lv_aload_n hx hb dL_law_145 rfl (lv_at hl 0 rfl) ?_
  refine lv_iload hx hb dL_law_146 (lv_at hl 4 rfl) ?_
  refine lv_iconst (v := 1) hx hb dL_law_148 (by decide) ?_
  refine lv_iadd hx hb dL_law_149 ?_
  refine va_sld hx hb hXs hbl hbA hS (sc_in (k := 1) hi hLs (by decide)) dL_law_150 ?_
  refine lv_aload_n hx hb dL_law_151 rfl (lv_at hl 3 rfl) ?_
  refine wr_i (fun u => allW cy o b t pa se th tr mb u ((rf, nI z, nI ct, sp, ou), f, (yn, yt, y3), di, ke, ik)) (vx_runSW (As := [.ref (b 0), .int (xs (nI i + 1).toNatClampNeg), .ref o]) (rest := []) hF (c_L_append l D cy hl0 b t pa se th tr nw z ht1 f ct L hc1 hc2 sc pf bf y0 y1 x o0 o1 n hn hRn.1 hRn.2.2.1 (xs (nI i + 1).toNatClampNeg) o fo H.size) (vx_cwSW 3 hts gL_law_L_append rfl rfl rfl (by decide +kernel) ⟨Nat.le_of_ble_eq_true rfl, Nat.le_of_ble_eq_true rfl⟩) (wrX_preS hK hP hD (List.Perm.refl _) Xok_l (fun U hU hW => Gl.at hX hS (zz_free hD (List.Perm.refl _) hS hA) hU hW)) rfl rfl hl.1 rfl (lv_room (Nat.le_of_ble_eq_true rfl)) dL_law_152 ⟨by have := hcs.1; omega, by have := hcs.2; omega⟩) hP hD hS hA (List.Perm.refl _) (fun _ => List.Perm.refl _) (fun k u1 H locs h1 hP hD hS => ?_)
  refine lv_istore (lv' := [(5, .int k), (0, .ref sb), (1, .ref (b 0)), (2, .ref (mb 0)), (3, .ref o), (4, .int (nI i))]) hx hb dL_law_155 hl (by decide) rfl (fun ls hl => ?_)
  refine lv_aload_n hx hb dL_law_157 rfl (lv_at hl 3 rfl) ?_
  refine lv_aload_n hx hb dL_law_158 rfl (lv_at hl 1 rfl) ?_
  refine lv_iload hx hb dL_law_159 (lv_at hl 5 rfl) ?_
  refine lv_iconst (v := 1) hx hb dL_law_161 (by decide) ?_
  refine lv_iadd hx hb dL_law_162 ?_
  refine va_sld hx hb hXs hbl hbA hS (sc_in (k := 1) hi hLs (by decide)) dL_law_163 ?_
  refine wr_i (fun U => allW cy o b t pa se th tr mb u1 U) (va_runV (As := [.int (xs (nI i + 1).toNatClampNeg)]) (rest := []) hF (c_X8_append l D cy mb rf (nI z) (nI ct) sp ou f yn yt y3 di ke ik n hn hRn.gy z ht1 (xs (nI i + 1).toNatClampNeg) H.size) (cwV 1 hts gL_law_X8_append rfl rfl rfl (by decide +kernel) ⟨Nat.le_of_ble_eq_true rfl, Nat.le_of_ble_eq_true rfl⟩) (wr_preV hK hP hD List.perm_append_comm 0 5 rfl rfl rfl) rfl rfl hl.1 rfl (lv_room (Nat.le_of_ble_eq_true rfl)) dL_law_164 ⟨by have := hcs.1; omega, by have := hcs.2; omega⟩) hP hD hS hA List.perm_append_comm (fun _ => List.perm_append_comm) (fun r u2 H locs h2 hP hD hS => ?_)
  obtain ⟨e1, e2, e3⟩ := cmd_append (xs (nI i + 1).toNatClampNeg) hn hRn hR h1 h2
  refine lv_istore (lv' := [(6, .int r), (5, .int k), (0, .ref sb), (1, .ref (b 0)), (2, .ref (mb 0)), (3, .ref o), (4, .int (nI i))]) hx hb dL_law_167 hl (by decide) rfl (fun ls hl => ?_)
  refine lv_aload_n hx hb dL_law_169 rfl (lv_at hl 4 rfl) ?_
  refine rd_V (As := []) (rest := []) hF (c_X8_thrown l D cy mb u2.1.1 u2.1.2.1 u2.1.2.2.1 u2.1.2.2.2.1 u2.1.2.2.2.2) (cwV 0 hts gL_law_X8_thrown rfl rfl rfl (by decide +kernel) ⟨Nat.le_of_ble_eq_true rfl, Nat.le_of_ble_eq_true rfl⟩) hK ((zz_Pp hP List.perm_append_comm).sub [0] rfl) 0 5 rfl rfl rfl rfl hl.1 rfl (Nat.le_of_ble_eq_true rfl) dL_law_170 ⟨by have := hcs.1; omega, by have := hcs.2; omega⟩ ?_
  refine lv_iload hx hb dL_law_173 (lv_at hl 1 rfl) ?_
  refine lv_icmp_eq (tgt := 180) hx hb dL_law_175 (by decide) (fun _ => ?_) (fun c_1 => absurd e1 c_1)
  refine lv_iload hx hb dL_law_180 (lv_at hl 1 rfl) ?_
  refine lv_if_ne (tgt := 197) hx hb dL_law_182 (by decide) (fun c_2 => ?_) (fun c_2 => ?_)
  · refine lv_goto (tgt := 1420) hx hb dL_law_197 (by decide) ?_
    refine W.widen (k := cells + 11) (n := slots + 57) (by omega) (by omega) ?_
    exact kk u1 u2 _ _ _ e3 hP hD hS (lv_sub hl [2, 3, 4, 5, 6] rfl)
  · refine lv_aload_n hx hb dL_law_185 rfl (lv_at hl 5 rfl) ?_
    refine lv_iconst (v := 0) hx hb dL_law_186 (by decide) ?_
    refine va_lald hx hb hK hP 0 4 rfl rfl (show vp_in (nI 0) 1 from vp_in_nI (by decide) (by decide)) dL_law_187 ?_
    refine lv_iload hx hb dL_law_188 (lv_at hl 0 rfl) ?_
    refine lv_i2l hx hb dL_law_190 rfl ?_
    refine W.lcmp hx hb dL_law_191 ?_
    refine lv_if_eq (tgt := 197) hx hb dL_law_192 (by decide) (fun _ => ?_) (fun c_3 => absurd (show u1.1 (0 : Int32).toNatClampNeg = r.toInt64 from e2 c_2) (fun q => c_3 ((lg_cmp_eq _ _).mpr q)))
    refine lv_goto (tgt := 1420) hx hb dL_law_197 (by decide) ?_
    refine W.widen (k := cells + 11) (n := slots + 57) (by omega) (by omega) ?_
    exact kk u1 u2 _ _ _ e3 hP hD hS (lv_sub hl [2, 3, 4, 5, 6] rfl)
set_option maxHeartbeats 4000000 in
set_option maxRecDepth 100000 in
theorem law_clearText (C0 : lw_At p s m meth c sb Ls xs) (hl0 : l.stackTraces = false) (hK : va_K D vwCl (tyL cy) s) (hX : Gl (lwA s) s) (hi : i + 5 ≤ Ls) (hLs : Ls ≤ 2560) (hR : RelL S U) (hP : va_P D vwCl (allW cy o b t pa se th tr mb (fo, S) U) H) (hD : va_D (lwA s) (allW cy o b t pa se th tr mb (fo, S) U)) (hS : va_S (lwA s) s.heap H locs) (hl : lv_has ls 7 (lvL sb b mb o i)) (hcs : cells + 11 ≤ room_1.cells ∧ slots + 57 ≤ room_1.slots) (kk : lawNext p l e s m below meth c Q D cy sb o b t pa se th tr mb i (cells + 11) (slots + 57)) : W p l e room_1 s m #[.ref sb] below meth c H locs cells slots Q (F0 m 200 ls []) := by
  obtain ⟨hx, hb, hr, hml, hown, hts0, hXs, hbl, hlocks, hgv⟩ := id C0
  have hts : ∀ w ∈ wsL_law, w.before #[.ref sb] s = true := fun w h => hts0 w (wsL_law_in w h)
  have hF : CallFix p m c cL_law 7 s #[.ref sb] wsL_law RL := ⟨hx, hb, hml, hown, hts⟩
  have hb : c.code = cL_law := hb
  have hA : ∀ q, s.heap.size ≤ q → lwA s q := fun _ h => h
  have hbA : ¬ lwA s sb := Nat.not_le.mpr hbl
  obtain ⟨⟨z, f⟩, ⟨ct, L⟩, ⟨⟨sc, pf, bf⟩, y0⟩, y1, ⟨nw, x⟩, o0, o1⟩ := S
  obtain ⟨⟨rf, sn, ac, sp, ou⟩, tx, ⟨yn, yt, y3⟩, di, ke, ik⟩ := U
  obtain ⟨⟨n, hn, hRn⟩, ⟨ef, es, ht⟩, ⟨hc1, hc2, ea, -⟩, hs0, hs1⟩ := id hR
  obtain rfl : f = tx := ef
  obtain rfl : sn = nI z := es
  obtain rfl : ac = nI ct := ea
  have hOk : ∀ {o9 : Option HQ} {a9 : Int32} {w9 : HS}, relS o9 a9 w9 → ∀ q, o9 = some q → OkH q.2 := fun h q h2 => ⟨_, rst_x h h2⟩
  have ht1 : z ≤ 120 := ht.1
  have hc1 : ct ≤ L.length := hc1
  have hc2 : L.length ≤ 14 := hc2
  have hRn : RelN n x yn := hRn
  refine lv_aload_n hx hb dL_law_200 rfl (lv_at hl 1 rfl) ?_
  refine wr_i (fun u => allW cy o b t pa se th tr mb (fo, u) ((rf, nI z, nI ct, sp, ou), f, (yn, yt, y3), di, ke, ik)) (va_runV (As := []) (rest := []) hF (c_X7_clearText l D cy b t pa se th tr nw z ht1 f ct L hc1 hc2 sc pf bf y0 y1 x o0 o1 n hn hRn.1 hRn.2.2.1 H.size) (cwV 0 hts gL_law_X7_clearText rfl rfl rfl (by decide +kernel) ⟨Nat.le_of_ble_eq_true rfl, Nat.le_of_ble_eq_true rfl⟩) (wr_preV hK hP hD pm3 0 4 rfl rfl rfl) rfl rfl hl.1 rfl (lv_room (Nat.le_of_ble_eq_true rfl)) dL_law_201 ⟨by have := hcs.1; omega, by have := hcs.2; omega⟩) hP hD hS hA pm3 (fun _ => pm3) (fun r1 u H locs h1 hP hD hS => ?_)
  refine lv_aload_n hx hb dL_law_204 rfl (lv_at hl 2 rfl) ?_
  refine wr_i (fun U => allW cy o b t pa se th tr mb (fo, u) U) (va_runV (As := []) (rest := [.int r1]) hF (c_X8_clearText l D cy mb rf (nI z) (nI ct) sp ou f yn yt y3 di ke ik n hn hRn.gy H.size) (cwV 0 hts gL_law_X8_clearText rfl rfl rfl (by decide +kernel) ⟨Nat.le_of_ble_eq_true rfl, Nat.le_of_ble_eq_true rfl⟩) (wr_preV hK hP hD List.perm_append_comm 0 5 rfl rfl rfl) rfl rfl hl.1 rfl (lv_room (Nat.le_of_ble_eq_true rfl)) dL_law_205 ⟨by have := hcs.1; omega, by have := hcs.2; omega⟩) hP hD hS hA List.perm_append_comm (fun _ => List.perm_append_comm) (fun r u2 H locs h2 hP hD hS => ?_)
  obtain ⟨e1, e3⟩ := cmd_clearText hn hRn hR h1 h2
  refine lv_icmp_eq (tgt := 1420) hx hb dL_law_208 (by decide) (fun _ => ?_) (fun c_1 => absurd e1 c_1)
  refine W.widen (k := cells + 11) (n := slots + 57) (by omega) (by omega) ?_
  exact kk (fo, u) u2 _ _ _ e3 hP hD hS hl
set_option maxHeartbeats 4000000 in
set_option maxRecDepth 100000 in
theorem law_errorPosition (C0 : lw_At p s m meth c sb Ls xs) (hl0 : l.stackTraces = false) (hK : va_K D vwCl (tyL cy) s) (hX : Gl (lwA s) s) (hi : i + 5 ≤ Ls) (hLs : Ls ≤ 2560) (hR : RelL S U) (hP : va_P D vwCl (allW cy o b t pa se th tr mb (fo, S) U) H) (hD : va_D (lwA s) (allW cy o b t pa se th tr mb (fo, S) U)) (hS : va_S (lwA s) s.heap H locs) (hl : lv_has ls 7 (lvL sb b mb o i)) (hcs : cells + 11 ≤ room_1.cells ∧ slots + 57 ≤ room_1.slots) (kk : lawNext p l e s m below meth c Q D cy sb o b t pa se th tr mb i (cells + 11) (slots + 57)) : W p l e room_1 s m #[.ref sb] below meth c H locs cells slots Q (F0 m 213 ls []) := by
  obtain ⟨hx, hb, hr, hml, hown, hts0, hXs, hbl, hlocks, hgv⟩ := id C0
  have hts : ∀ w ∈ wsL_law, w.before #[.ref sb] s = true := fun w h => hts0 w (wsL_law_in w h)
  have hF : CallFix p m c cL_law 7 s #[.ref sb] wsL_law RL := ⟨hx, hb, hml, hown, hts⟩
  have hb : c.code = cL_law := hb
  have hA : ∀ q, s.heap.size ≤ q → lwA s q := fun _ h => h
  have hbA : ¬ lwA s sb := Nat.not_le.mpr hbl
  obtain ⟨⟨z, f⟩, ⟨ct, L⟩, ⟨⟨sc, pf, bf⟩, y0⟩, y1, ⟨nw, x⟩, o0, o1⟩ := S
  obtain ⟨⟨rf, sn, ac, sp, ou⟩, tx, ⟨yn, yt, y3⟩, di, ke, ik⟩ := U
  obtain ⟨⟨n, hn, hRn⟩, ⟨ef, es, ht⟩, ⟨hc1, hc2, ea, -⟩, hs0, hs1⟩ := id hR
  obtain rfl : f = tx := ef
  obtain rfl : sn = nI z := es
  obtain rfl : ac = nI ct := ea
  have hOk : ∀ {o9 : Option HQ} {a9 : Int32} {w9 : HS}, relS o9 a9 w9 → ∀ q, o9 = some q → OkH q.2 := fun h q h2 => ⟨_, rst_x h h2⟩
  have ht1 : z ≤ 120 := ht.1
  have hc1 : ct ≤ L.length := hc1
  have hc2 : L.length ≤ 14 := hc2
  have hRn : RelN n x yn := hRn
  refine lv_aload_n hx hb dL_law_213 rfl (lv_at hl 1 rfl) ?_
  refine wr_i (fun u => allW cy o b t pa se th tr mb (fo, u) ((rf, nI z, nI ct, sp, ou), f, (yn, yt, y3), di, ke, ik)) (va_runV (As := []) (rest := []) hF (c_X7_errorPosition l D cy b t pa se th tr nw z ht1 f ct L hc1 hc2 sc pf bf y0 y1 x o0 o1 n hn hRn.1 hRn.2.2.1 H.size) (cwV 0 hts gL_law_X7_errorPosition rfl rfl rfl (by decide +kernel) ⟨Nat.le_of_ble_eq_true rfl, Nat.le_of_ble_eq_true rfl⟩) (wr_preV hK hP hD pm3 0 4 rfl rfl rfl) rfl rfl hl.1 rfl (lv_room (Nat.le_of_ble_eq_true rfl)) dL_law_214 ⟨by have := hcs.1; omega, by have := hcs.2; omega⟩) hP hD hS hA pm3 (fun _ => pm3) (fun r1 u H locs h1 hP hD hS => ?_)
  refine lv_aload_n hx hb dL_law_217 rfl (lv_at hl 2 rfl) ?_
  refine wr_i (fun U => allW cy o b t pa se th tr mb (fo, u) U) (va_runV (As := []) (rest := [.int r1]) hF (c_X8_errorPosition l D cy mb rf (nI ct) sp ou z f yn yt y3 di ke ik n hn x hRn ht H.size) (cwV 0 hts gL_law_X8_errorPosition rfl rfl rfl (by decide +kernel) ⟨Nat.le_of_ble_eq_true rfl, Nat.le_of_ble_eq_true rfl⟩) (wr_preV hK hP hD List.perm_append_comm 0 5 rfl rfl rfl) rfl rfl hl.1 rfl (lv_room (Nat.le_of_ble_eq_true rfl)) dL_law_218 ⟨by have := hcs.1; omega, by have := hcs.2; omega⟩) hP hD hS hA List.perm_append_comm (fun _ => List.perm_append_comm) (fun r u2 H locs h2 hP hD hS => ?_)
  obtain ⟨e1, e3⟩ := cmd_errorPosition hn hRn hR h1 h2
  refine lv_icmp_eq (tgt := 1420) hx hb dL_law_221 (by decide) (fun _ => ?_) (fun c_1 => absurd e1 c_1)
  refine W.widen (k := cells + 11) (n := slots + 57) (by omega) (by omega) ?_
  exact kk (fo, u) u2 _ _ _ e3 hP hD hS hl
set_option maxHeartbeats 4000000 in
set_option maxRecDepth 100000 in
theorem law_load (C0 : lw_At p s m meth c sb Ls xs) (hl0 : l.stackTraces = false) (hK : va_K D vwCl (tyL cy) s) (hX : Gl (lwA s) s) (hi : i + 5 ≤ Ls) (hLs : Ls ≤ 2560) (hR : RelL S U) (hP : va_P D vwCl (allW cy o b t pa se th tr mb (fo, S) U) H) (hD : va_D (lwA s) (allW cy o b t pa se th tr mb (fo, S) U)) (hS : va_S (lwA s) s.heap H locs) (hl : lv_has ls 7 (lvL sb b mb o i)) (hcs : cells + 11 ≤ room_1.cells ∧ slots + 57 ≤ room_1.slots) (kk : lawNext p l e s m below meth c Q D cy sb o b t pa se th tr mb i (cells + 11) (slots + 57)) : W p l e room_1 s m #[.ref sb] below meth c H locs cells slots Q (F0 m 226 ls []) := by
  obtain ⟨hx, hb, hr, hml, hown, hts0, hXs, hbl, hlocks, hgv⟩ := id C0
  have hts : ∀ w ∈ wsL_law, w.before #[.ref sb] s = true := fun w h => hts0 w (wsL_law_in w h)
  have hF : CallFix p m c cL_law 7 s #[.ref sb] wsL_law RL := ⟨hx, hb, hml, hown, hts⟩
  have hb : c.code = cL_law := hb
  have hA : ∀ q, s.heap.size ≤ q → lwA s q := fun _ h => h
  have hbA : ¬ lwA s sb := Nat.not_le.mpr hbl
  obtain ⟨⟨z, f⟩, ⟨ct, L⟩, ⟨⟨sc, pf, bf⟩, y0⟩, y1, ⟨nw, x⟩, o0, o1⟩ := S
  obtain ⟨⟨rf, sn, ac, sp, ou⟩, tx, ⟨yn, yt, y3⟩, di, ke, ik⟩ := U
  obtain ⟨⟨n, hn, hRn⟩, ⟨ef, es, ht⟩, ⟨hc1, hc2, ea, -⟩, hs0, hs1⟩ := id hR
  obtain rfl : f = tx := ef
  obtain rfl : sn = nI z := es
  obtain rfl : ac = nI ct := ea
  have hOk : ∀ {o9 : Option HQ} {a9 : Int32} {w9 : HS}, relS o9 a9 w9 → ∀ q, o9 = some q → OkH q.2 := fun h q h2 => ⟨_, rst_x h h2⟩
  have ht1 : z ≤ 120 := ht.1
  have hc1 : ct ≤ L.length := hc1
  have hc2 : L.length ≤ 14 := hc2
  have hRn : RelN n x yn := hRn
  refine lv_aload_n hx hb dL_law_226 rfl (lv_at hl 1 rfl) ?_
  refine lv_aload_n hx hb dL_law_227 rfl (lv_at hl 3 rfl) ?_
  refine wr_i (fun u => allW cy o b t pa se th tr mb u ((rf, nI z, nI ct, sp, ou), f, (yn, yt, y3), di, ke, ik)) (vx_runSW (As := [.ref (b 0), .ref o]) (rest := []) hF (c_L_load l D cy hl0 b t pa se th tr nw z ht1 f ct L hc1 hc2 sc pf bf y0 y1 x o0 o1 n hn hRn.1 hRn.2.2.1 o fo H.size) (vx_cwSW 2 hts gL_law_L_load rfl rfl rfl (by decide +kernel) ⟨Nat.le_of_ble_eq_true rfl, Nat.le_of_ble_eq_true rfl⟩) (wrX_preS hK hP hD (List.Perm.refl _) Xok_l (fun U hU hW => Gl.at hX hS (zz_free hD (List.Perm.refl _) hS hA) hU hW)) rfl rfl hl.1 rfl (lv_room (Nat.le_of_ble_eq_true rfl)) dL_law_228 ⟨by have := hcs.1; omega, by have := hcs.2; omega⟩) hP hD hS hA (List.Perm.refl _) (fun _ => List.Perm.refl _) (fun k u1 H locs h1 hP hD hS => ?_)
  refine lv_istore (lv' := [(5, .int k), (0, .ref sb), (1, .ref (b 0)), (2, .ref (mb 0)), (3, .ref o), (4, .int (nI i))]) hx hb dL_law_231 hl (by decide) rfl (fun ls hl => ?_)
  refine lv_aload_n hx hb dL_law_233 rfl (lv_at hl 3 rfl) ?_
  refine wr_i (fun U => allW cy o b t pa se th tr mb u1 U) (va_runV (As := []) (rest := []) hF (c_X8_load l D cy mb rf (nI ct) sp ou z f yn yt y3 di ke ik n hn x hRn ht H.size) (cwV 0 hts gL_law_X8_load rfl rfl rfl (by decide +kernel) ⟨Nat.le_of_ble_eq_true rfl, Nat.le_of_ble_eq_true rfl⟩) (wr_preV hK hP hD List.perm_append_comm 0 5 rfl rfl rfl) rfl rfl hl.1 rfl (lv_room (Nat.le_of_ble_eq_true rfl)) dL_law_234 ⟨by have := hcs.1; omega, by have := hcs.2; omega⟩) hP hD hS hA List.perm_append_comm (fun _ => List.perm_append_comm) (fun r u2 H locs h2 hP hD hS => ?_)
  obtain ⟨e1, e2, e3⟩ := cmd_load  hn hRn hR h1 h2
  refine lv_istore (lv' := [(6, .int r), (5, .int k), (0, .ref sb), (1, .ref (b 0)), (2, .ref (mb 0)), (3, .ref o), (4, .int (nI i))]) hx hb dL_law_237 hl (by decide) rfl (fun ls hl => ?_)
  refine lv_aload_n hx hb dL_law_239 rfl (lv_at hl 4 rfl) ?_
  refine rd_V (As := []) (rest := []) hF (c_X8_thrown l D cy mb u2.1.1 u2.1.2.1 u2.1.2.2.1 u2.1.2.2.2.1 u2.1.2.2.2.2) (cwV 0 hts gL_law_X8_thrown rfl rfl rfl (by decide +kernel) ⟨Nat.le_of_ble_eq_true rfl, Nat.le_of_ble_eq_true rfl⟩) hK ((zz_Pp hP List.perm_append_comm).sub [0] rfl) 0 5 rfl rfl rfl rfl hl.1 rfl (Nat.le_of_ble_eq_true rfl) dL_law_240 ⟨by have := hcs.1; omega, by have := hcs.2; omega⟩ ?_
  refine lv_iload hx hb dL_law_243 (lv_at hl 1 rfl) ?_
  refine lv_icmp_eq (tgt := 250) hx hb dL_law_245 (by decide) (fun _ => ?_) (fun c_1 => absurd e1 c_1)
  refine lv_iload hx hb dL_law_250 (lv_at hl 1 rfl) ?_
  refine lv_if_ne (tgt := 267) hx hb dL_law_252 (by decide) (fun c_2 => ?_) (fun c_2 => ?_)
  · refine lv_goto (tgt := 1420) hx hb dL_law_267 (by decide) ?_
    refine W.widen (k := cells + 11) (n := slots + 57) (by omega) (by omega) ?_
    exact kk u1 u2 _ _ _ e3 hP hD hS (lv_sub hl [2, 3, 4, 5, 6] rfl)
  · refine lv_aload_n hx hb dL_law_255 rfl (lv_at hl 5 rfl) ?_
    refine lv_iconst (v := 0) hx hb dL_law_256 (by decide) ?_
    refine va_lald hx hb hK hP 0 4 rfl rfl (show vp_in (nI 0) 1 from vp_in_nI (by decide) (by decide)) dL_law_257 ?_
    refine lv_iload hx hb dL_law_258 (lv_at hl 0 rfl) ?_
    refine lv_i2l hx hb dL_law_260 rfl ?_
    refine W.lcmp hx hb dL_law_261 ?_
    refine lv_if_eq (tgt := 267) hx hb dL_law_262 (by decide) (fun _ => ?_) (fun c_3 => absurd (show u1.1 (0 : Int32).toNatClampNeg = r.toInt64 from e2 c_2) (fun q => c_3 ((lg_cmp_eq _ _).mpr q)))
    refine lv_goto (tgt := 1420) hx hb dL_law_267 (by decide) ?_
    refine W.widen (k := cells + 11) (n := slots + 57) (by omega) (by omega) ?_
    exact kk u1 u2 _ _ _ e3 hP hD hS (lv_sub hl [2, 3, 4, 5, 6] rfl)
set_option maxHeartbeats 4000000 in
set_option maxRecDepth 100000 in
theorem law_about (C0 : lw_At p s m meth c sb Ls xs) (hl0 : l.stackTraces = false) (hK : va_K D vwCl (tyL cy) s) (hX : Gl (lwA s) s) (hi : i + 5 ≤ Ls) (hLs : Ls ≤ 2560) (hR : RelL S U) (hP : va_P D vwCl (allW cy o b t pa se th tr mb (fo, S) U) H) (hD : va_D (lwA s) (allW cy o b t pa se th tr mb (fo, S) U)) (hS : va_S (lwA s) s.heap H locs) (hl : lv_has ls 7 (lvL sb b mb o i)) (hcs : cells + 11 ≤ room_1.cells ∧ slots + 57 ≤ room_1.slots) (kk : lawNext p l e s m below meth c Q D cy sb o b t pa se th tr mb i (cells + 11) (slots + 57)) : W p l e room_1 s m #[.ref sb] below meth c H locs cells slots Q (F0 m 270 ls []) := by
  obtain ⟨hx, hb, hr, hml, hown, hts0, hXs, hbl, hlocks, hgv⟩ := id C0
  have hts : ∀ w ∈ wsL_law, w.before #[.ref sb] s = true := fun w h => hts0 w (wsL_law_in w h)
  have hF : CallFix p m c cL_law 7 s #[.ref sb] wsL_law RL := ⟨hx, hb, hml, hown, hts⟩
  have hb : c.code = cL_law := hb
  have hA : ∀ q, s.heap.size ≤ q → lwA s q := fun _ h => h
  have hbA : ¬ lwA s sb := Nat.not_le.mpr hbl
  obtain ⟨⟨z, f⟩, ⟨ct, L⟩, ⟨⟨sc, pf, bf⟩, y0⟩, y1, ⟨nw, x⟩, o0, o1⟩ := S
  obtain ⟨⟨rf, sn, ac, sp, ou⟩, tx, ⟨yn, yt, y3⟩, di, ke, ik⟩ := U
  obtain ⟨⟨n, hn, hRn⟩, ⟨ef, es, ht⟩, ⟨hc1, hc2, ea, -⟩, hs0, hs1⟩ := id hR
  obtain rfl : f = tx := ef
  obtain rfl : sn = nI z := es
  obtain rfl : ac = nI ct := ea
  have hOk : ∀ {o9 : Option HQ} {a9 : Int32} {w9 : HS}, relS o9 a9 w9 → ∀ q, o9 = some q → OkH q.2 := fun h q h2 => ⟨_, rst_x h h2⟩
  have ht1 : z ≤ 120 := ht.1
  have hc1 : ct ≤ L.length := hc1
  have hc2 : L.length ≤ 14 := hc2
  have hRn : RelN n x yn := hRn
  refine lv_aload_n hx hb dL_law_270 rfl (lv_at hl 1 rfl) ?_
  refine lv_aload_n hx hb dL_law_271 rfl (lv_at hl 0 rfl) ?_
  refine lv_iload hx hb dL_law_272 (lv_at hl 4 rfl) ?_
  refine lv_iconst (v := 1) hx hb dL_law_274 (by decide) ?_
  refine lv_iadd hx hb dL_law_275 ?_
  refine va_sld hx hb hXs hbl hbA hS (sc_in (k := 1) hi hLs (by decide)) dL_law_276 ?_
  refine lv_aload_n hx hb dL_law_277 rfl (lv_at hl 3 rfl) ?_
  refine wr_i (fun u => allW cy o b t pa se th tr mb u ((rf, nI z, nI ct, sp, ou), f, (yn, yt, y3), di, ke, ik)) (vx_runSW (As := [.ref (b 0), .int (xs (nI i + 1).toNatClampNeg), .ref o]) (rest := []) hF (c_L_about l D cy hl0 b t pa se th tr nw z ht1 f ct L hc1 hc2 sc pf bf y0 y1 x o0 o1 n hn hRn.1 hRn.2.2.1 (xs (nI i + 1).toNatClampNeg) o fo H.size) (vx_cwSW 3 hts gL_law_L_about rfl rfl rfl (by decide +kernel) ⟨Nat.le_of_ble_eq_true rfl, Nat.le_of_ble_eq_true rfl⟩) (wrX_preS hK hP hD (List.Perm.refl _) Xok_l (fun U hU hW => Gl.at hX hS (zz_free hD (List.Perm.refl _) hS hA) hU hW)) rfl rfl hl.1 rfl (lv_room (Nat.le_of_ble_eq_true rfl)) dL_law_278 ⟨by have := hcs.1; omega, by have := hcs.2; omega⟩) hP hD hS hA (List.Perm.refl _) (fun _ => List.Perm.refl _) (fun k u1 H locs h1 hP hD hS => ?_)
  refine lv_istore (lv' := [(5, .int k), (0, .ref sb), (1, .ref (b 0)), (2, .ref (mb 0)), (3, .ref o), (4, .int (nI i))]) hx hb dL_law_281 hl (by decide) rfl (fun ls hl => ?_)
  refine lv_aload_n hx hb dL_law_283 rfl (lv_at hl 3 rfl) ?_
  refine lv_aload_n hx hb dL_law_284 rfl (lv_at hl 1 rfl) ?_
  refine lv_iload hx hb dL_law_285 (lv_at hl 5 rfl) ?_
  refine lv_iconst (v := 1) hx hb dL_law_287 (by decide) ?_
  refine lv_iadd hx hb dL_law_288 ?_
  refine va_sld hx hb hXs hbl hbA hS (sc_in (k := 1) hi hLs (by decide)) dL_law_289 ?_
  refine wr_i (fun U => allW cy o b t pa se th tr mb u1 U) (va_runV (As := [.int (xs (nI i + 1).toNatClampNeg)]) (rest := []) hF (c_X8_about l D cy mb rf (nI z) (nI ct) sp ou f yn yt y3 di ke ik n hn hRn.gy (xs (nI i + 1).toNatClampNeg) H.size) (cwV 1 hts gL_law_X8_about rfl rfl rfl (by decide +kernel) ⟨Nat.le_of_ble_eq_true rfl, Nat.le_of_ble_eq_true rfl⟩) (wr_preV hK hP hD List.perm_append_comm 0 5 rfl rfl rfl) rfl rfl hl.1 rfl (lv_room (Nat.le_of_ble_eq_true rfl)) dL_law_290 ⟨by have := hcs.1; omega, by have := hcs.2; omega⟩) hP hD hS hA List.perm_append_comm (fun _ => List.perm_append_comm) (fun r u2 H locs h2 hP hD hS => ?_)
  obtain ⟨e1, e2, e3⟩ := cmd_about (xs (nI i + 1).toNatClampNeg) hn hRn hR h1 h2
  refine lv_istore (lv' := [(6, .int r), (5, .int k), (0, .ref sb), (1, .ref (b 0)), (2, .ref (mb 0)), (3, .ref o), (4, .int (nI i))]) hx hb dL_law_293 hl (by decide) rfl (fun ls hl => ?_)
  refine lv_aload_n hx hb dL_law_295 rfl (lv_at hl 4 rfl) ?_
  refine rd_V (As := []) (rest := []) hF (c_X8_thrown l D cy mb u2.1.1 u2.1.2.1 u2.1.2.2.1 u2.1.2.2.2.1 u2.1.2.2.2.2) (cwV 0 hts gL_law_X8_thrown rfl rfl rfl (by decide +kernel) ⟨Nat.le_of_ble_eq_true rfl, Nat.le_of_ble_eq_true rfl⟩) hK ((zz_Pp hP List.perm_append_comm).sub [0] rfl) 0 5 rfl rfl rfl rfl hl.1 rfl (Nat.le_of_ble_eq_true rfl) dL_law_296 ⟨by have := hcs.1; omega, by have := hcs.2; omega⟩ ?_
  refine lv_iload hx hb dL_law_299 (lv_at hl 1 rfl) ?_
  refine lv_icmp_eq (tgt := 306) hx hb dL_law_301 (by decide) (fun _ => ?_) (fun c_1 => absurd e1 c_1)
  refine lv_iload hx hb dL_law_306 (lv_at hl 1 rfl) ?_
  refine lv_if_ne (tgt := 323) hx hb dL_law_308 (by decide) (fun c_2 => ?_) (fun c_2 => ?_)
  · refine lv_goto (tgt := 1420) hx hb dL_law_323 (by decide) ?_
    refine W.widen (k := cells + 11) (n := slots + 57) (by omega) (by omega) ?_
    exact kk u1 u2 _ _ _ e3 hP hD hS (lv_sub hl [2, 3, 4, 5, 6] rfl)
  · refine lv_aload_n hx hb dL_law_311 rfl (lv_at hl 5 rfl) ?_
    refine lv_iconst (v := 0) hx hb dL_law_312 (by decide) ?_
    refine va_lald hx hb hK hP 0 4 rfl rfl (show vp_in (nI 0) 1 from vp_in_nI (by decide) (by decide)) dL_law_313 ?_
    refine lv_iload hx hb dL_law_314 (lv_at hl 0 rfl) ?_
    refine lv_i2l hx hb dL_law_316 rfl ?_
    refine W.lcmp hx hb dL_law_317 ?_
    refine lv_if_eq (tgt := 323) hx hb dL_law_318 (by decide) (fun _ => ?_) (fun c_3 => absurd (show u1.1 (0 : Int32).toNatClampNeg = r.toInt64 from e2 c_2) (fun q => c_3 ((lg_cmp_eq _ _).mpr q)))
    refine lv_goto (tgt := 1420) hx hb dL_law_323 (by decide) ?_
    refine W.widen (k := cells + 11) (n := slots + 57) (by omega) (by omega) ?_
    exact kk u1 u2 _ _ _ e3 hP hD hS (lv_sub hl [2, 3, 4, 5, 6] rfl)
set_option maxHeartbeats 4000000 in
set_option maxRecDepth 100000 in
theorem law_guestOf (C0 : lw_At p s m meth c sb Ls xs) (hl0 : l.stackTraces = false) (hK : va_K D vwCl (tyL cy) s) (hX : Gl (lwA s) s) (hi : i + 5 ≤ Ls) (hLs : Ls ≤ 2560) (hR : RelL S U) (hP : va_P D vwCl (allW cy o b t pa se th tr mb (fo, S) U) H) (hD : va_D (lwA s) (allW cy o b t pa se th tr mb (fo, S) U)) (hS : va_S (lwA s) s.heap H locs) (hl : lv_has ls 7 (lvL sb b mb o i)) (hcs : cells + 11 ≤ room_1.cells ∧ slots + 57 ≤ room_1.slots) (kk : lawNext p l e s m below meth c Q D cy sb o b t pa se th tr mb i (cells + 11) (slots + 57)) : W p l e room_1 s m #[.ref sb] below meth c H locs cells slots Q (F0 m 326 ls []) := by
  obtain ⟨hx, hb, hr, hml, hown, hts0, hXs, hbl, hlocks, hgv⟩ := id C0
  have hts : ∀ w ∈ wsL_law, w.before #[.ref sb] s = true := fun w h => hts0 w (wsL_law_in w h)
  have hF : CallFix p m c cL_law 7 s #[.ref sb] wsL_law RL := ⟨hx, hb, hml, hown, hts⟩
  have hb : c.code = cL_law := hb
  have hA : ∀ q, s.heap.size ≤ q → lwA s q := fun _ h => h
  have hbA : ¬ lwA s sb := Nat.not_le.mpr hbl
  obtain ⟨⟨z, f⟩, ⟨ct, L⟩, ⟨⟨sc, pf, bf⟩, y0⟩, y1, ⟨nw, x⟩, o0, o1⟩ := S
  obtain ⟨⟨rf, sn, ac, sp, ou⟩, tx, ⟨yn, yt, y3⟩, di, ke, ik⟩ := U
  obtain ⟨⟨n, hn, hRn⟩, ⟨ef, es, ht⟩, ⟨hc1, hc2, ea, -⟩, hs0, hs1⟩ := id hR
  obtain rfl : f = tx := ef
  obtain rfl : sn = nI z := es
  obtain rfl : ac = nI ct := ea
  have hOk : ∀ {o9 : Option HQ} {a9 : Int32} {w9 : HS}, relS o9 a9 w9 → ∀ q, o9 = some q → OkH q.2 := fun h q h2 => ⟨_, rst_x h h2⟩
  have ht1 : z ≤ 120 := ht.1
  have hc1 : ct ≤ L.length := hc1
  have hc2 : L.length ≤ 14 := hc2
  have hRn : RelN n x yn := hRn
  refine lv_aload_n hx hb dL_law_326 rfl (lv_at hl 1 rfl) ?_
  refine lv_aload_n hx hb dL_law_327 rfl (lv_at hl 0 rfl) ?_
  refine lv_iload hx hb dL_law_328 (lv_at hl 4 rfl) ?_
  refine lv_iconst (v := 1) hx hb dL_law_330 (by decide) ?_
  refine lv_iadd hx hb dL_law_331 ?_
  refine va_sld hx hb hXs hbl hbA hS (sc_in (k := 1) hi hLs (by decide)) dL_law_332 ?_
  refine lv_aload_n hx hb dL_law_333 rfl (lv_at hl 0 rfl) ?_
  refine lv_iload hx hb dL_law_334 (lv_at hl 4 rfl) ?_
  refine lv_iconst (v := 2) hx hb dL_law_336 (by decide) ?_
  refine lv_iadd hx hb dL_law_337 ?_
  refine va_sld hx hb hXs hbl hbA hS (sc_in (k := 2) hi hLs (by decide)) dL_law_338 ?_
  refine lv_aload_n hx hb dL_law_339 rfl (lv_at hl 3 rfl) ?_
  refine wr_i (fun u => allW cy o b t pa se th tr mb u ((rf, nI z, nI ct, sp, ou), f, (yn, yt, y3), di, ke, ik)) (vx_runSW (As := [.ref (b 0), .int (xs (nI i + 1).toNatClampNeg), .int (xs (nI i + 2).toNatClampNeg), .ref o]) (rest := []) hF (c_L_guestOf l D cy hl0 b t pa se th tr nw z ht1 f ct L hc1 hc2 sc pf bf y0 y1 x o0 o1 n hn hRn.1 hRn.2.2.1 (xs (nI i + 1).toNatClampNeg) (xs (nI i + 2).toNatClampNeg) o fo H.size) (vx_cwSW 4 hts gL_law_L_guestOf rfl rfl rfl (by decide +kernel) ⟨Nat.le_of_ble_eq_true rfl, Nat.le_of_ble_eq_true rfl⟩) (wrX_preS hK hP hD (List.Perm.refl _) Xok_l (fun U hU hW => Gl.at hX hS (zz_free hD (List.Perm.refl _) hS hA) hU hW)) rfl rfl hl.1 rfl (lv_room (Nat.le_of_ble_eq_true rfl)) dL_law_340 ⟨by have := hcs.1; omega, by have := hcs.2; omega⟩) hP hD hS hA (List.Perm.refl _) (fun _ => List.Perm.refl _) (fun k u1 H locs h1 hP hD hS => ?_)
  refine lv_istore (lv' := [(5, .int k), (0, .ref sb), (1, .ref (b 0)), (2, .ref (mb 0)), (3, .ref o), (4, .int (nI i))]) hx hb dL_law_343 hl (by decide) rfl (fun ls hl => ?_)
  refine lv_aload_n hx hb dL_law_345 rfl (lv_at hl 3 rfl) ?_
  refine lv_aload_n hx hb dL_law_346 rfl (lv_at hl 1 rfl) ?_
  refine lv_iload hx hb dL_law_347 (lv_at hl 5 rfl) ?_
  refine lv_iconst (v := 1) hx hb dL_law_349 (by decide) ?_
  refine lv_iadd hx hb dL_law_350 ?_
  refine va_sld hx hb hXs hbl hbA hS (sc_in (k := 1) hi hLs (by decide)) dL_law_351 ?_
  refine lv_aload_n hx hb dL_law_352 rfl (lv_at hl 1 rfl) ?_
  refine lv_iload hx hb dL_law_353 (lv_at hl 5 rfl) ?_
  refine lv_iconst (v := 2) hx hb dL_law_355 (by decide) ?_
  refine lv_iadd hx hb dL_law_356 ?_
  refine va_sld hx hb hXs hbl hbA hS (sc_in (k := 2) hi hLs (by decide)) dL_law_357 ?_
  refine wr_i (fun U => allW cy o b t pa se th tr mb u1 U) (va_runV (As := [.int (xs (nI i + 1).toNatClampNeg), .int (xs (nI i + 2).toNatClampNeg)]) (rest := []) hF (c_X8_guestOf l D cy mb rf (nI z) (nI ct) sp ou f yn yt y3 di ke ik n hn hRn.gy (xs (nI i + 1).toNatClampNeg) (xs (nI i + 2).toNatClampNeg) H.size) (cwV 2 hts gL_law_X8_guestOf rfl rfl rfl (by decide +kernel) ⟨Nat.le_of_ble_eq_true rfl, Nat.le_of_ble_eq_true rfl⟩) (wr_preV hK hP hD List.perm_append_comm 0 5 rfl rfl rfl) rfl rfl hl.1 rfl (lv_room (Nat.le_of_ble_eq_true rfl)) dL_law_358 ⟨by have := hcs.1; omega, by have := hcs.2; omega⟩) hP hD hS hA List.perm_append_comm (fun _ => List.perm_append_comm) (fun r u2 H locs h2 hP hD hS => ?_)
  obtain ⟨e1, e2, e3⟩ := cmd_guestOf (xs (nI i + 1).toNatClampNeg) (xs (nI i + 2).toNatClampNeg) hn hRn hR h1 h2
  refine lv_istore (lv' := [(6, .int r), (5, .int k), (0, .ref sb), (1, .ref (b 0)), (2, .ref (mb 0)), (3, .ref o), (4, .int (nI i))]) hx hb dL_law_361 hl (by decide) rfl (fun ls hl => ?_)
  refine lv_aload_n hx hb dL_law_363 rfl (lv_at hl 4 rfl) ?_
  refine rd_V (As := []) (rest := []) hF (c_X8_thrown l D cy mb u2.1.1 u2.1.2.1 u2.1.2.2.1 u2.1.2.2.2.1 u2.1.2.2.2.2) (cwV 0 hts gL_law_X8_thrown rfl rfl rfl (by decide +kernel) ⟨Nat.le_of_ble_eq_true rfl, Nat.le_of_ble_eq_true rfl⟩) hK ((zz_Pp hP List.perm_append_comm).sub [0] rfl) 0 5 rfl rfl rfl rfl hl.1 rfl (Nat.le_of_ble_eq_true rfl) dL_law_364 ⟨by have := hcs.1; omega, by have := hcs.2; omega⟩ ?_
  refine lv_iload hx hb dL_law_367 (lv_at hl 1 rfl) ?_
  refine lv_icmp_eq (tgt := 374) hx hb dL_law_369 (by decide) (fun _ => ?_) (fun c_1 => absurd e1 c_1)
  refine lv_iload hx hb dL_law_374 (lv_at hl 1 rfl) ?_
  refine lv_if_ne (tgt := 391) hx hb dL_law_376 (by decide) (fun c_2 => ?_) (fun c_2 => ?_)
  · refine lv_goto (tgt := 1420) hx hb dL_law_391 (by decide) ?_
    refine W.widen (k := cells + 11) (n := slots + 57) (by omega) (by omega) ?_
    exact kk u1 u2 _ _ _ e3 hP hD hS (lv_sub hl [2, 3, 4, 5, 6] rfl)
  · refine lv_aload_n hx hb dL_law_379 rfl (lv_at hl 5 rfl) ?_
    refine lv_iconst (v := 0) hx hb dL_law_380 (by decide) ?_
    refine va_lald hx hb hK hP 0 4 rfl rfl (show vp_in (nI 0) 1 from vp_in_nI (by decide) (by decide)) dL_law_381 ?_
    refine lv_iload hx hb dL_law_382 (lv_at hl 0 rfl) ?_
    refine lv_i2l hx hb dL_law_384 rfl ?_
    refine W.lcmp hx hb dL_law_385 ?_
    refine lv_if_eq (tgt := 391) hx hb dL_law_386 (by decide) (fun _ => ?_) (fun c_3 => absurd (show u1.1 (0 : Int32).toNatClampNeg = r.toInt64 from e2 c_2) (fun q => c_3 ((lg_cmp_eq _ _).mpr q)))
    refine lv_goto (tgt := 1420) hx hb dL_law_391 (by decide) ?_
    refine W.widen (k := cells + 11) (n := slots + 57) (by omega) (by omega) ?_
    exact kk u1 u2 _ _ _ e3 hP hD hS (lv_sub hl [2, 3, 4, 5, 6] rfl)
end CASE
