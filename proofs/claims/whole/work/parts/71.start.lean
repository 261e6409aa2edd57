set_option maxHeartbeats 4000000 in
set_option maxRecDepth 100000 in
/-- what of the start the class' methods carry along -/
theorem law_Gl {p : Program} {s : State} {m : MethodId} {meth : Method} {c : Code} {sb Ls : Nat} {xs : Nat → Int32} (C0 : lw_At p s m meth c sb Ls xs) : Gl (lwA s) s := by
  obtain ⟨hx, hb, hr, hml, hown, hts, hXs, hbl, hlocks, hgv⟩ := C0
  have hs := flat_of_before _ hgv
  have hA : ∀ a : Nat, a < s.heap.size → ¬ lwA s a := fun _ h => Nat.not_le.mpr h
  obtain ⟨t1, ht1, hT1⟩ := va_Tof (tm := .static RX1 "LEAST_VALUE" "[I") (ty := .int) (N := 3) (f := fun j => .int (fLe j)) (A := lwA s) (by decide) (hs (.arrayOf (.static RX1 "LEAST_VALUE" "[I") .int) (by decide +kernel)) (Cond.eq_int (hs (.eq (.length (.static RX1 "LEAST_VALUE" "[I")) (.int 3)) (by decide +kernel)) rfl) (fun j hj => by
    rcases (show j = 0 ∨ j = 1 ∨ j = 2 by omega) with rfl | rfl | rfl
    · exact Cond.eq_int (hs (.eq (.elem (.static RX1 "LEAST_VALUE" "[I") (.int 0)) (.int 4)) (by decide +kernel)) rfl
    · exact Cond.eq_int (hs (.eq (.elem (.static RX1 "LEAST_VALUE" "[I") (.int 1)) (.int 1)) (by decide +kernel)) rfl
    · exact Cond.eq_int (hs (.eq (.elem (.static RX1 "LEAST_VALUE" "[I") (.int 2)) (.int 1)) (by decide +kernel)) rfl) hA
  obtain ⟨t2, ht2, hT2⟩ := va_Tof (tm := .static RX1 "GREATEST_VALUE" "[I") (ty := .int) (N := 3) (f := fun j => .int (fGr j)) (A := lwA s) (by decide) (hs (.arrayOf (.static RX1 "GREATEST_VALUE" "[I") .int) (by decide +kernel)) (Cond.eq_int (hs (.eq (.length (.static RX1 "GREATEST_VALUE" "[I")) (.int 3)) (by decide +kernel)) rfl) (fun j hj => by
    rcases (show j = 0 ∨ j = 1 ∨ j = 2 by omega) with rfl | rfl | rfl
    · exact Cond.eq_int (hs (.eq (.elem (.static RX1 "GREATEST_VALUE" "[I") (.int 0)) (.int 16)) (by decide +kernel)) rfl
    · exact Cond.eq_int (hs (.eq (.elem (.static RX1 "GREATEST_VALUE" "[I") (.int 1)) (.int 9)) (by decide +kernel)) rfl
    · exact Cond.eq_int (hs (.eq (.elem (.static RX1 "GREATEST_VALUE" "[I") (.int 2)) (.int 9)) (by decide +kernel)) rfl) hA
  have hGs : Gs (lwA s) s := ⟨t1, t2, ⟨va_Zref (hts (.laysStatic RX1 "LEAST_VALUE" "[I") (by decide +kernel)) (hts (.initialized RX1) (by decide +kernel)) ht1 hA, hT1⟩, va_Zref (hts (.laysStatic RX1 "GREATEST_VALUE" "[I") (by decide +kernel)) (hts (.initialized RX1) (by decide +kernel)) ht2 hA, hT2⟩
  have hGn : Gn s := ⟨va_Nw.of rfl (hts (.methodLinkNest RX3 22 yX1_init RX7) (by decide +kernel)), va_Nw.of rfl (hts (.methodLinkNest RX5 11 yX1_init RX7) (by decide +kernel)), va_Nw.of rfl (hts (.methodLinkNest RX7 36 yX1_init RX7) (by decide +kernel)), va_Nw.of rfl (hts (.methodLinkNest RX7 9 yX2_init RX7) (by decide +kernel)), va_Nw.of rfl (hts (.methodLinkNest RX7 18 yX3_init RX7) (by decide +kernel)), va_Nw.of rfl (hts (.methodLinkNest RX7 25 yX5_init RX7) (by decide +kernel)), va_AO.of (hts (.arrayOver (.object "ButtonGuests$Hotel")) (by decide +kernel))⟩
  have hstr : ∀ q ∈ exT, Cond.stringRef RX7 q.1 q.2 ∈ lw_tbl := by decide +kernel
  have hT : ∀ q ∈ exT, ∃ a : Nat, vk_R RX7 q.1 q.2 a s := fun q hq => by
    have h := hts _ (hstr q hq)
    obtain ⟨cur, -, hcur⟩ : ∃ cur : ClassId, True ∧ s.vm.findClass RX7 = some cur := by
      obtain ⟨c9, k9, h9, -⟩ := Cond.instantiable_spec (hts (.instantiable RX7 6) (by decide +kernel))
      exact ⟨c9, trivial, h9⟩
    obtain ⟨k, cf, i, a, -, -, -, -, -, he⟩ := Cond.stringRef_spec hcur h
    exact ⟨a, vk_R.of h he⟩
  exact ⟨⟨⟨hGs, hGn⟩, ⟨vx_Zqof (hts (.laysStatic Bundle.tN "UNASSIGNED_STACK" Bundle.steD) (by decide +kernel)) (hts (.initialized Bundle.tN) (by decide +kernel)) (hs (.isRef (.static Bundle.tN "UNASSIGNED_STACK" Bundle.steD)) (by decide +kernel)) hA, vx_Zqof (hts (.laysStatic Bundle.tN "SUPPRESSED_SENTINEL" Bundle.listD) (by decide +kernel)) (hts (.initialized Bundle.tN) (by decide +kernel)) (hs (.isRef (.static Bundle.tN "SUPPRESSED_SENTINEL" Bundle.listD)) (by decide +kernel)) hA⟩, hT, va_Nw.of rfl (hts (.castable exA exA) (by decide +kernel)), va_Nw.of rfl (hts (.castable exS exS) (by decide +kernel)), va_Nw.of rfl (hts (.castable exI exI) (by decide +kernel)), va_Nw.of rfl (hts (.declares (Bundle.initS "java/lang/RuntimeException")) (by decide +kernel)), va_Nw.of rfl (hts (.declares (Bundle.initS "java/lang/Exception")) (by decide +kernel)), va_Nw.of rfl (hts (.declares (Bundle.initS Bundle.tN)) (by decide +kernel))⟩, va_Nc.of (hs (.not (.castable exA exI)) (by decide +kernel)), va_Nc.of (hs (.not (.castable exA exS)) (by decide +kernel)), va_Nc.of (hs (.not (.castable exI exA)) (by decide +kernel)), va_Nc.of (hs (.not (.castable exI exS)) (by decide +kernel)), va_Nc.of (hs (.not (.castable exS exA)) (by decide +kernel)), va_Nc.of (hs (.not (.castable exS exI)) (by decide +kernel))⟩
set_option maxHeartbeats 4000000 in
set_option maxRecDepth 100000 in
/-- the classes and the rows' classes, as they are at the law's entry -/
theorem law_K {p : Program} {s : State} {m : MethodId} {meth : Method} {c : Code} {sb Ls : Nat} {xs : Nat → Int32} (C0 : lw_At p s m meth c sb Ls xs) : ∃ (D : va_G) (cy : Nat → ClassId), va_K D vwCl (tyL cy) s := by
  obtain ⟨hx, hb, hr, hml, hown, hts, hXs, hbl, hlocks, hgv⟩ := C0
  obtain ⟨c0, i0, k0⟩ := u_known (C := RX1) (T := TX1) (N := 16) (n := 16) hts inX1 (hts (.instantiable RX1 16) (by decide +kernel))
  obtain ⟨c1, i1, k1⟩ := u_known (C := RX2) (T := TX2) (N := 2) (n := 2) hts inX2 (hts (.instantiable RX2 2) (by decide +kernel))
  obtain ⟨c2, i2, k2⟩ := u_known (C := RX3) (T := TX3) (N := 2) (n := 2) hts inX3 (hts (.instantiable RX3 2) (by decide +kernel))
  obtain ⟨c3, i3, k3⟩ := u_known (C := RX5) (T := TX5) (N := 4) (n := 4) hts inX5 (hts (.instantiable RX5 4) (by decide +kernel))
  obtain ⟨c4, i4, k4⟩ := u_known (C := RX7) (T := TX7) (N := 6) (n := 6) hts inX7 (hts (.instantiable RX7 6) (by decide +kernel))
  obtain ⟨c5, i5, k5⟩ := u_known (C := RX8) (T := TX8) (N := 12) (n := 12) hts inX8 (hts (.instantiable RX8 12) (by decide +kernel))
  obtain ⟨a0, r0⟩ := kn_int (hts (.arrayClass .int) (by decide +kernel))
  obtain ⟨a1, r1⟩ := kn_char (hts (.arrayClass .char) (by decide +kernel))
  obtain ⟨a2, r2⟩ := kn_ref (hts (.arrayOver (.object "ButtonGuests$Hotel")) (by decide +kernel))
  obtain ⟨a3, r3⟩ := kn_boolean (hts (.arrayClass .boolean) (by decide +kernel))
  obtain ⟨a4, r4⟩ := kn_long (hts (.arrayClass .long) (by decide +kernel))
  refine ⟨(fun k => if k = 0 then c0 else if k = 1 then c1 else if k = 2 then c2 else if k = 3 then c3 else if k = 4 then c4 else c5, fun k => if k = 0 then i0 else if k = 1 then i1 else if k = 2 then i2 else if k = 3 then i3 else if k = 4 then i4 else i5), fun k => if k = 0 then a0 else if k = 1 then a1 else if k = 2 then a2 else if k = 3 then a3 else a4, ?_, ?_⟩
  · intro k q hq
    match k, hq with
    | 0, hq => cases hq; exact k0
    | 1, hq => cases hq; exact k1
    | 2, hq => cases hq; exact k2
    | 3, hq => cases hq; exact k3
    | 4, hq => cases hq; exact k4
    | 5, hq => cases hq; exact k5
    | k + 6, hq => simp [vwCl] at hq
  · intro k q hq
    match k, hq with
    | 0, hq => cases hq; exact r0
    | 1, hq => cases hq; exact r1
    | 2, hq => cases hq; exact r2
    | 3, hq => cases hq; exact r3
    | 4, hq => cases hq; exact r4
    | k + 5, hq => simp [tyL] at hq
set_option maxHeartbeats 4000000 in
set_option maxRecDepth 100000 in
/-- YOUR PART: from the entry, for every script of at most 2560 ints, the law comes to its end with true ('hflags': the launch's flags, for a law that throws: no stack traces) -/
theorem whole_start {p : Program} {e : Env} {s : State} {m : MethodId} {below : List Frame} {meth : Method} {c : Code} (l : Launch) (hflags : l.flags = flags0) {b L : Nat} {xs : Nat → Int32} (hL : L ≤ 2560) (C0 : lw_At p s m meth c b L xs) : W p l e room_1 s m #[Value.ref b] below meth c s.heap [] 0 0 (lw_Z below #[Value.ref b] s) (entryFrame m ([Value.ref b] : List Value).toArray 7) := by
  have hl0 : l.stackTraces = false := by unfold Launch.stackTraces; rw [hflags]; decide +kernel
  obtain ⟨D, cy, hK⟩ := law_K C0
  have hX := law_Gl C0
  obtain ⟨hx, hb, hr, hml, hown, hts0, hXs, hbl, hlocks, hgv⟩ := id C0
  have hts : ∀ w ∈ wsL_law, w.before #[.ref b] s = true := fun w h => hts0 w (wsL_law_in w h)
  have hF : CallFix p m c cL_law 7 s #[.ref b] wsL_law RL := ⟨hx, hb, hml, hown, hts⟩
  have hb : c.code = cL_law := hb
  have hown : s.vm.findClass RL = some m.cls := hown
  have hA : ∀ q, s.heap.size ≤ q → lwA s q := fun _ h => h
  have hS : va_S (lwA s) s.heap s.heap [] := va_S.rf
  have hP : va_P D vwCl [] s.heap := fun k q h => by simp at h
  have hD : va_D (lwA s) [] := ⟨fun i j p q h => by simp at h, fun k q h => by simp at h⟩
  have hl := lv_entry ([.ref b]) (n := 7) (Nat.le_of_ble_eq_true rfl)
  rw [lg_entry_eq]
  generalize (lg_sl ([.ref b]) ++ List.replicate (7 - (lg_sl ([.ref b])).length) Slot.unset).toArray = ls at hl ⊢
  have hl : lv_has ls 7 [(0, .ref b)] := hl
  refine va_new (ci := 4) (fs := [.null, .null, .null, .null, .null, .null]) (C := RX7) (T := TX7) (N := 6) hx hb hts inlX7 tyX7 tyX7_ok hown (hts0 (.classLink RL 8 RX7) (by decide +kernel)) (hts0 (.instantiable RX7 6) (by decide +kernel)) (hts0 (.initialized RX7) (by decide +kernel)) hK hP hD hS hA rfl hfs_X7 (Nat.le_of_ble_eq_true rfl) (Nat.le_of_ble_eq_true rfl) dL_law_0 (fun q7 H hP hD hS => ?_)
  have hP : va_P D vwCl [(q7, .inr (4, [.null, .null, .null, .null, .null, .null]))] H := hP
  have hD : va_D (lwA s) [(q7, .inr (4, [.null, .null, .null, .null, .null, .null]))] := hD
  refine lv_dup hx hb dL_law_3 rfl ?_
  refine wr_v (fun u : BA × (Nat → Nat) => guestsW cy u.1.1 u.1.2.1 u.1.2.2.1 u.1.2.2.2.1 u.1.2.2.2.2.1 u.1.2.2.2.2.2 (bg0 u.2)) (va_runI (As := []) (rest := [.ref q7]) hF (c_X7_init l D cy q7 H.size) (cwI 0 hts gL_law_X7_init rfl rfl rfl (hts0 (.initialized RX7) (by decide +kernel)) (hts0 (.methodLink RL 79 yX7_init) (by decide +kernel)) (hts0 (.instanceMethod yX7_init) (by decide +kernel)) rfl (by decide +kernel) ⟨Nat.le_of_ble_eq_true rfl, Nat.le_of_ble_eq_true rfl⟩) (wrX_preS hK hP hD (zz_all _) Xok_n (fun U hU hW => Gn.warm hW hX.1.1.2)) rfl rfl hl.1 rfl (lv_room (Nat.le_of_ble_eq_true rfl)) dL_law_4 ⟨Nat.le_of_ble_eq_true rfl, Nat.le_of_ble_eq_true rfl⟩) hP hD hS hA (zz_all _) (fun _ => zz_all _) (fun u7 H locs e7 => ?_)
  obtain ⟨⟨vb, vt, vpa, vse, vth, vtr⟩, nw⟩ := u7
  have e7 : vb 0 = q7 := e7
  subst e7
  intro hP hD hS
  have hP : va_P D vwCl (guestsW cy vb vt vpa vse vth vtr (bg0 nw)) H := hP
  have hD : va_D (lwA s) (guestsW cy vb vt vpa vse vth vtr (bg0 nw)) := hD
  refine lv_astore_n (lv' := [(1, .ref (vb 0)), (0, .ref b)]) hx hb dL_law_7 rfl hl (by decide) rfl (fun ls hl => ?_)
  refine va_new (ci := 5) (fs := [.int 0, .null, .int 0, .null, .null, .null, .null, .int 0, .null, .null, .int 0, .int 0]) (C := RX8) (T := TX8) (N := 12) hx hb hts inlX8 tyX8 tyX8_ok hown (hts0 (.classLink RL 80 RX8) (by decide +kernel)) (hts0 (.instantiable RX8 12) (by decide +kernel)) (hts0 (.initialized RX8) (by decide +kernel)) hK hP hD hS hA rfl hfs_X8 (Nat.le_of_ble_eq_true rfl) (Nat.le_of_ble_eq_true rfl) dL_law_8 (fun q8 H hP hD hS => ?_)
  refine lv_dup hx hb dL_law_11 rfl ?_
  refine wr_v (fun u : (Nat → Nat) × MS => guestsW cy vb vt vpa vse vth vtr (bg0 nw) ++ modelW cy u.1 u.2) (va_runI (As := []) (rest := [.ref q8]) hF (c_X8_init l D cy q8 H.size) (cwI 0 hts gL_law_X8_init rfl rfl rfl (hts0 (.initialized RX8) (by decide +kernel)) (hts0 (.methodLink RL 82 yX8_init) (by decide +kernel)) (hts0 (.instanceMethod yX8_init) (by decide +kernel)) rfl (by decide +kernel) ⟨Nat.le_of_ble_eq_true rfl, Nat.le_of_ble_eq_true rfl⟩) (wr_preS hK hP hD List.perm_append_comm) rfl rfl hl.1 rfl (lv_room (Nat.le_of_ble_eq_true rfl)) dL_law_12 ⟨Nat.le_of_ble_eq_true rfl, Nat.le_of_ble_eq_true rfl⟩) hP hD hS hA List.perm_append_comm (fun _ => List.perm_append_comm) (fun u8 H locs e8 => ?_)
  obtain ⟨mb, U⟩ := u8
  obtain ⟨e8, e9⟩ := e8
  have e8 : mb 0 = q8 := e8
  have e9 : U = ms0 := e9
  subst e8
  subst e9
  intro hP hD hS
  have hP : va_P D vwCl (guestsW cy vb vt vpa vse vth vtr (bg0 nw) ++ modelW cy mb ms0) H := hP
  have hD : va_D (lwA s) (guestsW cy vb vt vpa vse vth vtr (bg0 nw) ++ modelW cy mb ms0) := hD
  refine lv_astore_n (lv' := [(2, .ref (mb 0)), (1, .ref (vb 0)), (0, .ref b)]) hx hb dL_law_15 rfl hl (by decide) rfl (fun ls hl => ?_)
  refine lv_iconst (v := 1) hx hb dL_law_16 (by decide) ?_
  refine zz_newa hx hb .long .long rfl (hts0 (.arrayClass .long) (by decide +kernel)) (fun _ _ => rfl) hK hP hD hS hA 4 rfl (a0 := (1, .inr (.inl (fun _ => 0)))) (N' := 1) (fun _ => rfl) (by decide) (by decide) (Nat.le_of_ble_eq_true rfl) (Nat.le_of_ble_eq_true rfl) (Nat.le_of_ble_eq_true rfl) dL_law_17 (fun o H hP hD hS => ?_)
  refine lv_astore_n (lv' := [(3, .ref o), (2, .ref (mb 0)), (1, .ref (vb 0)), (0, .ref b)]) hx hb dL_law_19 rfl hl (by decide) rfl (fun ls hl => ?_)
  refine lv_iconst (v := nI 0) hx hb dL_law_20 (by decide) ?_
  refine lv_istore (lv' := [(4, .int (nI 0)), (3, .ref o), (2, .ref (mb 0)), (1, .ref (vb 0)), (0, .ref b)]) hx hb dL_law_21 hl (by decide) rfl (fun ls hl => ?_)
  have pm : ∀ {a g m9 : va_W}, ((g ++ m9) ++ a).Perm ((a ++ g) ++ m9) := fun {a g m9} => by
    rw [List.append_assoc a g m9]
    exact List.perm_append_comm
  exact law_loop (o := o) C0 hl0 hK hX hL (L + 2) 0 _ _ (by omega) (Nat.zero_le L) (show 0 + 1 + 38 + 1 + 7 + 1 + 11 * (L + 2) ≤ 601024 by omega) (show 0 + 6 + 979 + 12 + 920 + 1 + 57 * (L + 2) ≤ 7293034 by omega) (fun _ => 0, bg0 nw) ms0 _ _ ls rl_start (zz_Pp hP pm) (zz_Dp hD pm) hS (lv_sub hl [4, 3, 2, 1, 0] rfl)
