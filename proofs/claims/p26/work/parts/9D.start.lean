set_option maxHeartbeats 4000000 in
set_option maxRecDepth 100000 in
/-- YOUR PART: from the entry, for every script of at most 260 ints, the law comes to its end with true ('hflags': the launch's flags, for a law that throws: no stack traces) -/
theorem whole_start {p : Program} {e : Env} {s : State} {m : MethodId} {below : List Frame} {meth : Method} {c : Code} (l : Launch) (hflags : l.flags = flags0) {b L : Nat} {xs : Nat → Int32} (hL : L ≤ 260) (C0 : lw_At p s m meth c b L xs) : W p l e room_1 s m #[Value.ref b] below meth c s.heap [] 0 0 (lw_Z below #[Value.ref b] s) (entryFrame m ([Value.ref b] : List Value).toArray 9) := by
  have hl0 : l.stackTraces = false := by unfold Launch.stackTraces; rw [hflags]; decide +kernel
  obtain ⟨D, cy, hK⟩ := law_K C0
  have hX := law_Gl C0
  obtain ⟨hx9, hb, hr, hml, hown, hts0, hXs, hbl, hlocks, hgv⟩ := id C0
  have hts : ∀ w ∈ wsL_law, w.before #[.ref b] s = true := fun w h => hts0 w (wsL_law_in w h)
  have hF : CallFix p m c cL_law 9 s #[.ref b] wsL_law RL := ⟨hx9, hb, hml, hown, hts⟩
  have hb : c.code = cL_law := hb
  have hown : s.vm.findClass RL = some m.cls := hown
  have hA : ∀ q, s.heap.size ≤ q → lwA s q := fun _ h => h
  have hS : va_S (lwA s) s.heap s.heap [] := va_S.rf
  have hP : va_P D vwCl [] s.heap := fun k q h => by simp at h
  have hD : va_D (lwA s) [] := ⟨fun i j p q h => by simp at h, fun k q h => by simp at h⟩
  have hl := lv_entry ([.ref b]) (n := 9) (Nat.le_of_ble_eq_true rfl)
  rw [lg_entry_eq]
  generalize (lg_sl ([.ref b]) ++ List.replicate (9 - (lg_sl ([.ref b])).length) Slot.unset).toArray = ls at hl ⊢
  have hl : lv_has ls 9 [(0, .ref b)] := hl
  refine va_new (ci := 4) (fs := [.null, .null, .null, .null, .null, .null]) (C := RX7) (T := TX7) (N := 6) hx9 hb hts inlX7 tyX7 tyX7_ok hown (hts0 (.classLink RL 8 RX7) (by decide +kernel)) (hts0 (.instantiable RX7 6) (by decide +kernel)) (hts0 (.initialized RX7) (by decide +kernel)) hK hP hD hS hA rfl hfs_X7 (Nat.le_of_ble_eq_true rfl) (Nat.le_of_ble_eq_true rfl) dL_law_0 (fun q7 H hP hD hS => ?_)
  have hP : va_P D vwCl [(q7, .inr (4, [.null, .null, .null, .null, .null, .null]))] H := hP
  have hD : va_D (lwA s) [(q7, .inr (4, [.null, .null, .null, .null, .null, .null]))] := hD
  refine lv_dup hx9 hb dL_law_3 rfl ?_
  refine wr_v (fun u : BA × (Nat → Nat) => guestsW cy u.1.1 u.1.2.1 u.1.2.2.1 u.1.2.2.2.1 u.1.2.2.2.2.1 u.1.2.2.2.2.2 (bg0 u.2)) (va_runI (As := []) (rest := [.ref q7]) hF (c_X7_init l D cy q7 H.size) (cwI 0 hts gL_law_X7_init rfl rfl rfl (hts0 (.initialized RX7) (by decide +kernel)) (hts0 (.methodLink RL 161 yX7_init) (by decide +kernel)) (hts0 (.instanceMethod yX7_init) (by decide +kernel)) rfl (by decide +kernel) ⟨Nat.le_of_ble_eq_true rfl, Nat.le_of_ble_eq_true rfl⟩) (wrX_preS hK hP hD (zz_all _) Xok_n (fun U hU hW => Gn.warm hW hX.1.1.2)) rfl rfl hl.1 rfl (lv_room (Nat.le_of_ble_eq_true rfl)) dL_law_4 ⟨Nat.le_of_ble_eq_true rfl, Nat.le_of_ble_eq_true rfl⟩) hP hD hS hA (zz_all _) (fun _ => zz_all _) (fun u7 H locs e7 => ?_)
  obtain ⟨a, nw⟩ := u7
  have e7 : a.1 0 = q7 := e7
  subst e7
  intro hP hD hS
  have hP : va_P D vwCl (gW cy a (bg0 nw)) H := hP
  have hD : va_D (lwA s) (gW cy a (bg0 nw)) := hD
  refine lv_astore_n (lv' := [(1, .ref (a.1 0)), (0, .ref b)]) hx9 hb dL_law_7 rfl hl (by decide) rfl (fun ls hl => ?_)
  refine va_new (ci := 4) (fs := [.null, .null, .null, .null, .null, .null]) (C := RX7) (T := TX7) (N := 6) hx9 hb hts inlX7 tyX7 tyX7_ok hown (hts0 (.classLink RL 8 RX7) (by decide +kernel)) (hts0 (.instantiable RX7 6) (by decide +kernel)) (hts0 (.initialized RX7) (by decide +kernel)) hK hP hD hS hA rfl hfs_X7 (Nat.le_of_ble_eq_true rfl) (Nat.le_of_ble_eq_true rfl) dL_law_8 (fun q8 H hP hD hS => ?_)
  have hP : va_P D vwCl (gW cy a (bg0 nw) ++ [(q8, .inr (4, [.null, .null, .null, .null, .null, .null]))]) H := hP
  have hD : va_D (lwA s) (gW cy a (bg0 nw) ++ [(q8, .inr (4, [.null, .null, .null, .null, .null, .null]))]) := hD
  refine lv_dup hx9 hb dL_law_11 rfl ?_
  refine wr_v (fun u : BA × (Nat → Nat) => gW cy a (bg0 nw) ++ guestsW cy u.1.1 u.1.2.1 u.1.2.2.1 u.1.2.2.2.1 u.1.2.2.2.2.1 u.1.2.2.2.2.2 (bg0 u.2)) (va_runI (As := []) (rest := [.ref q8]) hF (c_X7_init l D cy q8 H.size) (cwI 0 hts gL_law_X7_init rfl rfl rfl (hts0 (.initialized RX7) (by decide +kernel)) (hts0 (.methodLink RL 161 yX7_init) (by decide +kernel)) (hts0 (.instanceMethod yX7_init) (by decide +kernel)) rfl (by decide +kernel) ⟨Nat.le_of_ble_eq_true rfl, Nat.le_of_ble_eq_true rfl⟩) (wrX_preS hK hP hD List.perm_append_comm Xok_n (fun U hU hW => Gn.warm hW hX.1.1.2)) rfl rfl hl.1 rfl (lv_room (Nat.le_of_ble_eq_true rfl)) dL_law_12 ⟨Nat.le_of_ble_eq_true rfl, Nat.le_of_ble_eq_true rfl⟩) hP hD hS hA List.perm_append_comm (fun _ => List.perm_append_comm) (fun u8 H locs e8 => ?_)
  obtain ⟨c9, nw2⟩ := u8
  have e8 : c9.1 0 = q8 := e8
  subst e8
  intro hP hD hS
  have hP : va_P D vwCl (gW cy a (bg0 nw) ++ gW cy c9 (bg0 nw2)) H := hP
  have hD : va_D (lwA s) (gW cy a (bg0 nw) ++ gW cy c9 (bg0 nw2)) := hD
  refine lv_astore_n (lv' := [(2, .ref (aO c9)), (1, .ref (aO a)), (0, .ref b)]) hx9 hb dL_law_15 rfl hl (by decide) rfl (fun ls hl => ?_)
  exact law_body C0 hl0 hK hX hL rep_v0 rep_v0 _ _ (show 0 + 1 + 38 + 1 + 38 ≤ 200 by decide) (show 0 + 6 + 979 + 6 + 979 ≤ 3000 by decide) H _ ls hP hD hS hl
