set_option maxHeartbeats 4000000 in
set_option maxRecDepth 100000 in
/-- THE LAW'S LOOP: at its head, with the class' state and the reference's in their relation -/
theorem law_loop {p : Program} {l : Launch} {e : Env} {s : State} {m : MethodId} {below : List Frame} {meth : Method} {c : Code} {D : va_G} {cy : Nat → ClassId} {sb o Ls : Nat} {xs : Nat → Int32} {b t pa se th tr mb : Nat → Nat} (C0 : lw_At p s m meth c sb Ls xs) (hl0 : l.stackTraces = false) (hK : va_K D vwCl (tyL cy) s) (hX : Gl (lwA s) s) (hLs : Ls ≤ 2560) :
    ∀ (n i k q : Nat), Ls + 5 ≤ i + 5 * n → i ≤ Ls → k + 11 * n ≤ 601024 → q + 57 * n ≤ 7293034 → ∀ (u : LwS) (U : MS) (H : Heap) (locs : List Loc) (ls : Array Slot), RelL u.2 U → va_P D vwCl (allW cy o b t pa se th tr mb u U) H → va_D (lwA s) (allW cy o b t pa se th tr mb u U) → va_S (lwA s) s.heap H locs → lv_has ls 7 (lvL sb b mb o i) → W p l e room_1 s m #[.ref sb] below meth c H locs k q (lw_Z below #[Value.ref sb] s) (F0 m 23 ls []) := by
  obtain ⟨hx, hb, hr, hml, hown, hts0, hXs, hbl, hlocks, hgv⟩ := id C0
  have hb : c.code = cL_law := hb
  have hA : ∀ q, s.heap.size ≤ q → lwA s q := fun _ h => h
  have hbA : ¬ lwA s sb := Nat.not_le.mpr hbl
  intro n
  induction n with
  | zero =>
    intro i k q h1 h2
    exact absurd h1 (by omega)
  | succ n ih =>
    intro i k q h1 h2 h3 h4 u U H locs ls hR hP hD hS hl
    refine lv_iload hx hb dL_law_23 (lv_at hl 4 rfl) ?_
    refine lv_aload_n hx hb dL_law_25 rfl (lv_at hl 0 rfl) ?_
    refine va_slen hx hb hXs hbl hbA hS dL_law_26 ?_
    refine lv_iconst (v := 5) hx hb dL_law_27 (by decide) ?_
    refine lv_isub hx hb dL_law_28 ?_
    refine lv_icmp_gt (tgt := 1426) hx hb dL_law_29 (by decide) (fun c_1 => ?_) (fun c_1 => ?_)
    · refine lv_iconst (v := 1) hx hb dL_law_1426 (by decide) ?_
      refine va_forget (fun q hq => hS.2.2 q hq) ?_
      refine W.widen (k := 601024) (n := 7293034) (by omega) (by omega) ?_
      exact lw_ret hx hb hr hlocks dL_law_1427
    · have hi : i + 5 ≤ Ls := Nat.not_lt.mp fun q => c_1 ((law_cmp hLs (by omega)).mpr q)
      obtain ⟨fo, S⟩ := u
      have kk : lawNext p l e s m below meth c (lw_Z below #[Value.ref sb] s) D cy sb o b t pa se th tr mb i (k + 11) (q + 57) := by
        intro u U H locs ls hR hP hD hS hl
        refine lv_iinc (v := nI (i + 5)) (lv' := [(4, .int (nI (i + 5))), (0, .ref sb), (1, .ref (b 0)), (2, .ref (mb 0)), (3, .ref o)]) hx hb dL_law_1420 hl (k := 4) rfl (nI_add i 5) (by decide) rfl (fun ls hl => ?_)
        refine lv_goto (tgt := 23) hx hb dL_law_1423 (by decide) ?_
        exact ih (i + 5) (k + 11) (q + 57) (by omega) hi (by omega) (by omega) u U H locs ls hR hP hD hS (lv_sub hl [1, 2, 3, 4, 0] rfl)
      have hcs : k + 11 ≤ room_1.cells ∧ q + 57 ≤ room_1.slots := ⟨show k + 11 ≤ 601024 by omega, show q + 57 ≤ 7293034 by omega⟩
      refine lv_aload_n hx hb dL_law_32 rfl (lv_at hl 0 rfl) ?_
      refine lv_iload hx hb dL_law_33 (lv_at hl 4 rfl) ?_
      refine va_sld hx hb hXs hbl hbA hS (vp_in_nI (by omega) (by omega)) dL_law_35 ?_
      refine lv_bipush (v := 31) hx hb dL_law_36 (by decide) ?_
      refine lv_iand hx hb dL_law_38 ?_
      obtain ⟨j, hj, ej⟩ := law_sw (v := xs (nI i).toNatClampNeg)
      rw [ej]
      rcases Nat.lt_or_ge j 23 with q9 | q9
      · rcases (show j = 0 ∨ j = 1 ∨ j = 2 ∨ j = 3 ∨ j = 4 ∨ j = 5 ∨ j = 6 ∨ j = 7 ∨ j = 8 ∨ j = 9 ∨ j = 10 ∨ j = 11 ∨ j = 12 ∨ j = 13 ∨ j = 14 ∨ j = 15 ∨ j = 16 ∨ j = 17 ∨ j = 18 ∨ j = 19 ∨ j = 20 ∨ j = 21 ∨ j = 22 by omega) with rfl | rfl | rfl | rfl | rfl | rfl | rfl | rfl | rfl | rfl | rfl | rfl | rfl | rfl | rfl | rfl | rfl | rfl | rfl | rfl | rfl | rfl | rfl
        · refine lv_tableIn (x := nI 0) (off := 105) (tgt := 144) hx hb dL_law_39 (by decide) (by decide) (by decide) (by decide) ?_
          exact law_append C0 hl0 hK hX hi hLs hR hP hD hS hl hcs kk
        · refine lv_tableIn (x := nI 1) (off := 161) (tgt := 200) hx hb dL_law_39 (by decide) (by decide) (by decide) (by decide) ?_
          exact law_clearText C0 hl0 hK hX hi hLs hR hP hD hS hl hcs kk
        · refine lv_tableIn (x := nI 2) (off := 174) (tgt := 213) hx hb dL_law_39 (by decide) (by decide) (by decide) (by decide) ?_
          exact law_errorPosition C0 hl0 hK hX hi hLs hR hP hD hS hl hcs kk
        · refine lv_tableIn (x := nI 3) (off := 187) (tgt := 226) hx hb dL_law_39 (by decide) (by decide) (by decide) (by decide) ?_
          exact law_load C0 hl0 hK hX hi hLs hR hP hD hS hl hcs kk
        · refine lv_tableIn (x := nI 4) (off := 231) (tgt := 270) hx hb dL_law_39 (by decide) (by decide) (by decide) (by decide) ?_
          exact law_about C0 hl0 hK hX hi hLs hR hP hD hS hl hcs kk
        · refine lv_tableIn (x := nI 5) (off := 287) (tgt := 326) hx hb dL_law_39 (by decide) (by decide) (by decide) (by decide) ?_
          exact law_guestOf C0 hl0 hK hX hi hLs hR hP hD hS hl hcs kk
        · refine lv_tableIn (x := nI 6) (off := 355) (tgt := 394) hx hb dL_law_39 (by decide) (by decide) (by decide) (by decide) ?_
          exact law_floorOf C0 hl0 hK hX hi hLs hR hP hD hS hl hcs kk
        · refine lv_tableIn (x := nI 7) (off := 423) (tgt := 462) hx hb dL_law_39 (by decide) (by decide) (by decide) (by decide) ?_
          exact law_setting C0 hl0 hK hX hi hLs hR hP hD hS hl hcs kk
        · refine lv_tableIn (x := nI 8) (off := 479) (tgt := 518) hx hb dL_law_39 (by decide) (by decide) (by decide) (by decide) ?_
          exact law_come C0 hl0 hK hX hi hLs hR hP hD hS hl hcs kk
        · refine lv_tableIn (x := nI 9) (off := 571) (tgt := 610) hx hb dL_law_39 (by decide) (by decide) (by decide) (by decide) ?_
          exact law_leave C0 hl0 hK hX hi hLs hR hP hD hS hl hcs kk
        · refine lv_tableIn (x := nI 10) (off := 627) (tgt := 666) hx hb dL_law_39 (by decide) (by decide) (by decide) (by decide) ?_
          exact law_press C0 hl0 hK hX hi hLs hR hP hD hS hl hcs kk
        · refine lv_tableIn (x := nI 11) (off := 683) (tgt := 722) hx hb dL_law_39 (by decide) (by decide) (by decide) (by decide) ?_
          exact law_rest C0 hl0 hK hX hi hLs hR hP hD hS hl hcs kk
        · refine lv_tableIn (x := nI 12) (off := 696) (tgt := 735) hx hb dL_law_39 (by decide) (by decide) (by decide) (by decide) ?_
          exact law_set C0 hl0 hK hX hi hLs hR hP hD hS hl hcs kk
        · refine lv_tableIn (x := nI 13) (off := 764) (tgt := 803) hx hb dL_law_39 (by decide) (by decide) (by decide) (by decide) ?_
          exact law_undo C0 hl0 hK hX hi hLs hR hP hD hS hl hcs kk
        · refine lv_tableIn (x := nI 14) (off := 808) (tgt := 847) hx hb dL_law_39 (by decide) (by decide) (by decide) (by decide) ?_
          exact law_why C0 hl0 hK hX hi hLs hR hP hD hS hl hcs kk
        · refine lv_tableIn (x := nI 15) (off := 864) (tgt := 903) hx hb dL_law_39 (by decide) (by decide) (by decide) (by decide) ?_
          exact law_fewest C0 hl0 hK hX hi hLs hR hP hD hS hl hcs kk
        · refine lv_tableIn (x := nI 16) (off := 920) (tgt := 959) hx hb dL_law_39 (by decide) (by decide) (by decide) (by decide) ?_
          exact law_best C0 hl0 hK hX hi hLs hR hP hD hS hl hcs kk
        · refine lv_tableIn (x := nI 17) (off := 933) (tgt := 972) hx hb dL_law_39 (by decide) (by decide) (by decide) (by decide) ?_
          exact law_ifPressed C0 hl0 hK hX hi hLs hR hP hD hS hl hcs kk
        · refine lv_tableIn (x := nI 18) (off := 1013) (tgt := 1052) hx hb dL_law_39 (by decide) (by decide) (by decide) (by decide) ?_
          exact law_leftStanding C0 hl0 hK hX hi hLs hR hP hD hS hl hcs kk
        · refine lv_tableIn (x := nI 19) (off := 1069) (tgt := 1108) hx hb dL_law_39 (by decide) (by decide) (by decide) (by decide) ?_
          exact law_runScript C0 hl0 hK hX hi hLs hR hP hD hS hl hcs kk
        · refine lv_tableIn (x := nI 20) (off := 1169) (tgt := 1208) hx hb dL_law_39 (by decide) (by decide) (by decide) (by decide) ?_
          exact law_simulate C0 hl0 hK hX hi hLs hR hP hD hS hl hcs kk
        · refine lv_tableIn (x := nI 21) (off := 1269) (tgt := 1308) hx hb dL_law_39 (by decide) (by decide) (by decide) (by decide) ?_
          exact law_save C0 hl0 hK hX hi hLs hR hP hD hS hl hcs kk
        · refine lv_tableIn (x := nI 22) (off := 1325) (tgt := 1364) hx hb dL_law_39 (by decide) (by decide) (by decide) (by decide) ?_
          exact law_restore C0 hl0 hK hX hi hLs hR hP hD hS hl hcs kk
      · refine lv_tableOut (tgt := 1420) hx hb dL_law_39 (Or.inr (by rw [nI_toInt (by omega)]; omega)) (by decide) ?_
        refine W.widen (k := k + 11) (n := q + 57) (by omega) (by omega) ?_
        exact kk (fo, S) U H locs ls hR hP hD hS hl
