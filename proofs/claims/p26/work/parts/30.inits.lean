/-! new objects -/
theorem hfs_X2 : ∀ j, j < 2 → defaultValue (tyX2 j) = vp_V [.null, .int 0] j := fun j hj => by
  rcases (show j = 0 ∨ j = 1 by omega) with h | h <;> subst h <;> rfl
theorem hfs_X3 : ∀ j, j < 2 → defaultValue (tyX3 j) = vp_V [.null, .int 0] j := fun j hj => by
  rcases (show j = 0 ∨ j = 1 by omega) with h | h <;> subst h <;> rfl
theorem hfs_X5 : ∀ j, j < 4 → defaultValue (tyX5 j) = vp_V [.null, .null, .null, .int 0] j := fun j hj => by
  rcases (show j = 0 ∨ j = 1 ∨ j = 2 ∨ j = 3 by omega) with h | h | h | h <;> subst h <;> rfl
/-! the whole object: text; past; search; trial; now; slots -/
abbrev BS : Type := (Nat × (Nat → Int32)) × (Nat × List HQ) × ((Int32 × (Nat → Int32) × (Nat → Int32)) × HS) × HS × HQ × (Option HQ × Option HQ)
def slotW (cy : Nat → ClassId) (o : Option HQ) : va_W := match o with
  | none => []
  | some q => hotelW cy q.1 q.2
def slF (o0 o1 : Option HQ) : Nat → Option Nat := fun k => if k = 0 then o0.map (fun q => q.1 0) else if k = 1 then o1.map (fun q => q.1 0) else none
/-- the addresses that don't change: object and slots, text, past, search, search's hotel, trial -/
abbrev BA : Type := (Nat → Nat) × (Nat → Nat) × (Nat → Nat) × (Nat → Nat) × (Nat → Nat) × (Nat → Nat)
abbrev objW (b t pa se tr nw : Nat → Nat) : va_W := [(b 0, .inr (4, [.ref (t 0), .ref (pa 0), .ref (se 0), .ref (b 1), .ref (tr 0), .ref (nw 0)]))]
abbrev slaW (cy : Nat → ClassId) (b : Nat → Nat) (o0 o1 : Option HQ) : va_W := [(b 1, .inl (cy 2, 2, .inr (.inr (.inr (.inr (slF o0 o1))))))]
abbrev guestsW (cy : Nat → ClassId) (b t pa se th tr : Nat → Nat) (u : BS) : va_W := wj [objW b t pa se tr u.2.2.2.2.1.1, slaW cy b u.2.2.2.2.2.1 u.2.2.2.2.2.2, textW cy t (nI u.1.1) u.1.2, pastW cy pa u.2.1.1 u.2.1.2, poolW cy u.2.1.2, searchW cy se (th 0) u.2.2.1.1.1 u.2.2.1.1.2.1 u.2.2.1.1.2.2, hotelW cy th u.2.2.1.2, hotelW cy tr u.2.2.2.1, hotelW cy u.2.2.2.2.1.1 u.2.2.2.2.1.2, slotW cy u.2.2.2.2.2.1, slotW cy u.2.2.2.2.2.2]
def bg0 (nw : Nat → Nat) : BS := ((0, fun _ => 0), (0, []), ((0, fun _ => 0, fun _ => 0), hot0), hot0, (nw, hot0), (none, none))
theorem slF_0 : slF none none = fun _ => none := by
  funext k
  unfold slF
  split
  · rfl
  · split <;> rfl
abbrev rm_X2_init : Room := { frames := 1, cells := 1, slots := 120, locals := 12 }
set_option maxHeartbeats 4000000 in
set_option maxRecDepth 100000 in
theorem c_X2_init (l : Launch) (D : va_G) (cy : Nat → ClassId) (b : Nat) (sz : Nat) : Met l yX2_init wsX2_init rm_X2_init (wrP D cy [.ref b] ([(b, .inr (1, [.null, .int 0]))]) sz) (va_Qv (fun u : Nat → Nat => u 0 = b) (wrB D (va_A ([(b, .inr (1, [.null, .int 0]))]) sz) (fun u => textW cy u 0 (fun _ => 0))) (va_A ([(b, .inr (1, [.null, .int 0]))]) sz)) 1 120 (va_A ([(b, .inr (1, [.null, .int 0]))]) sz) := by
  refine Mwv (cc := cX2_init) (maxL := 1) (by decide) rfl (Nat.le_of_ble_eq_true rfl) ?_
  intro p e s m args below meth c Q ls A hsz hinit hF hK hP hD hA hl hret
  obtain ⟨hx, hb, hml, hown, hts⟩ := id hF
  have hown : s.vm.findClass RX2 = some m.cls := hown
  have hin_X2 : ∀ w ∈ u_ws RX2 TX2 2, w ∈ wsX2_init := by decide +kernel
  have hl : lv_has ls 1 [(0, .ref b)] := hl
  suffices key : ∀ (H : Heap) (locs : List Loc), va_P D vwCl ([(b, .inr (1, [.null, .int 0]))]) H → va_D A ([(b, .inr (1, [.null, .int 0]))]) → va_S A s.heap H locs → W p l e rm_X2_init s m args below meth c H locs 0 0 Q (F0 m 0 ls []) from key s.heap [] hP hD va_S.rf
  intro H locs hP hD hS
  refine lv_aload_n hx hb dX2_init_0 rfl (lv_at hl 0 rfl) ?_
  refine W.objInit hx hb hown (hts (.methodLink RX2 3 objectInit) (by decide +kernel)) (hts (.instanceMethod objectInit) (by decide +kernel)) (hts (.code objectInit ⟨#[0xb1]⟩ 1 none) (by decide +kernel)) rfl (by rw [hml]; exact hl.1) rfl dX2_init_1 (Nat.le_of_ble_eq_true rfl) (Nat.le_of_ble_eq_true rfl) ?_
  refine W.eq (g2 := F0 m 4 ls []) rfl ?_
  refine lv_aload_n hx hb dX2_init_4 rfl (lv_at hl 0 rfl) ?_
  refine lv_bipush (v := 120) hx hb dX2_init_5 (by decide) ?_
  refine zz_newa hx hb .char .char rfl (hts (.arrayClass .char) (by decide +kernel)) (fun _ _ => rfl) hK hP hD hS hA 1 rfl (a0 := (120, .inl (fun _ => 0))) (N' := 120) (fun _ => rfl) (by decide) (by decide) (Nat.le_of_ble_eq_true rfl) (Nat.le_of_ble_eq_true rfl) (Nat.le_of_ble_eq_true rfl) dX2_init_7 (fun q_1 H hP hD hS => ?_)
  have hP : va_P D vwCl ([(b, .inr (1, [.null, .int 0])), (q_1, .inl (cy 1, 120, .inl ((fun _ => 0))))]) H := hP
  have hD : va_D A ([(b, .inr (1, [.null, .int 0])), (q_1, .inl (cy 1, 120, .inl ((fun _ => 0))))]) := hD
  refine va_putF (ci := 1) (v := .ref q_1) (ty := .array .char) (C := RX2) (T := TX2) (N := 2) hx hb hts hin_X2 tyX2 tyX2_ok nmX2 hown hK hP hD hS 0 rfl rfl 0 (by decide) (hts (.fieldLink RX2 11 "ButtonGuests$HotelText" "signs" "[C") (by decide +kernel)) (fun _ h9 => h9) rfl hinit rfl (by decide +kernel) rfl rfl (Nat.le_of_ble_eq_true rfl) dX2_init_9 (fun H locs hP hD hS => ?_)
  have hP : va_P D vwCl ([(b, .inr (1, [.ref q_1, .int 0])), (q_1, .inl (cy 1, 120, .inl ((fun _ => 0))))]) H := hP
  have hD : va_D A ([(b, .inr (1, [.ref q_1, .int 0])), (q_1, .inl (cy 1, 120, .inl ((fun _ => 0))))]) := hD
  exact hret _ _ H locs (fun k => [b, q_1].getD k 0) dX2_init_12 hP hD hS rfl
abbrev rm_X3_init : Room := { frames := 1, cells := 1, slots := 14, locals := 12 }
set_option maxHeartbeats 4000000 in
set_option maxRecDepth 100000 in
theorem c_X3_init (l : Launch) (D : va_G) (cy : Nat → ClassId) (b : Nat) (sz : Nat) : Met l yX3_init wsX3_init rm_X3_init (wrX D cy [.ref b] ([(b, .inr (2, [.null, .int 0]))]) sz (Gn)) (va_Qv (fun u : Nat → Nat => u 0 = b) (wrB D (va_A ([(b, .inr (2, [.null, .int 0]))]) sz) (fun u => pastW cy u 0 [])) (va_A ([(b, .inr (2, [.null, .int 0]))]) sz)) 1 14 (va_A ([(b, .inr (2, [.null, .int 0]))]) sz) := by
  refine MwvX (cc := cX3_init) (maxL := 1) (by decide) rfl (Nat.le_of_ble_eq_true rfl) ?_
  intro p e s m args below meth c Q ls A hAe hsz hinit hX0 hF hK hP hD hA hl hret
  have hGn : Gn s := hX0
  obtain ⟨hx, hb, hml, hown, hts⟩ := id hF
  have hown : s.vm.findClass RX3 = some m.cls := hown
  have hin_X3 : ∀ w ∈ u_ws RX3 TX3 2, w ∈ wsX3_init := by decide +kernel
  have hl : lv_has ls 1 [(0, .ref b)] := hl
  suffices key : ∀ (H : Heap) (locs : List Loc), va_P D vwCl ([(b, .inr (2, [.null, .int 0]))]) H → va_D A ([(b, .inr (2, [.null, .int 0]))]) → va_S A s.heap H locs → W p l e rm_X3_init s m args below meth c H locs 0 0 Q (F0 m 0 ls []) from key s.heap [] hP hD va_S.rf
  intro H locs hP hD hS
  refine lv_aload_n hx hb dX3_init_0 rfl (lv_at hl 0 rfl) ?_
  refine W.objInit hx hb hown (hts (.methodLink RX3 1 objectInit) (by decide +kernel)) (hts (.instanceMethod objectInit) (by decide +kernel)) (hts (.code objectInit ⟨#[0xb1]⟩ 1 none) (by decide +kernel)) rfl (by rw [hml]; exact hl.1) rfl dX3_init_1 (Nat.le_of_ble_eq_true rfl) (Nat.le_of_ble_eq_true rfl) ?_
  refine W.eq (g2 := F0 m 4 ls []) rfl ?_
  refine lv_aload_n hx hb dX3_init_4 rfl (lv_at hl 0 rfl) ?_
  refine lv_bipush (v := 14) hx hb dX3_init_5 (by decide) ?_
  refine zz_newq hx hb hown (hts (.classLink RX3 9 RX1) (by decide +kernel)) hGn.2.2.2.2.2.2 hK hP hD hS hA 2 rfl (N' := 14) (by decide) (by decide) (Nat.le_of_ble_eq_true rfl) (Nat.le_of_ble_eq_true rfl) (Nat.le_of_ble_eq_true rfl) dX3_init_7 (fun q_1 H hP hD hS => ?_)
  have hP : va_P D vwCl ([(b, .inr (2, [.null, .int 0])), (q_1, .inl (cy 2, 14, .inr (.inr (.inr (.inr ((fun _ => none)))))))]) H := hP
  have hD : va_D A ([(b, .inr (2, [.null, .int 0])), (q_1, .inl (cy 2, 14, .inr (.inr (.inr (.inr ((fun _ => none)))))))]) := hD
  refine va_putF (ci := 2) (v := .ref q_1) (ty := .array (.object "ButtonGuests$Hotel")) (C := RX3) (T := TX3) (N := 2) hx hb hts hin_X3 tyX3 tyX3_ok nmX3 hown hK hP hD hS 0 rfl rfl 0 (by decide) (hts (.fieldLink RX3 11 "ButtonGuests$Past" "states" "[LButtonGuests$Hotel;") (by decide +kernel)) (fun _ h9 => h9) rfl hinit rfl (by decide +kernel) rfl rfl (Nat.le_of_ble_eq_true rfl) dX3_init_10 (fun H locs hP hD hS => ?_)
  have hP : va_P D vwCl ([(b, .inr (2, [.ref q_1, .int 0])), (q_1, .inl (cy 2, 14, .inr (.inr (.inr (.inr ((fun _ => none)))))))]) H := hP
  have hD : va_D A ([(b, .inr (2, [.ref q_1, .int 0])), (q_1, .inl (cy 2, 14, .inr (.inr (.inr (.inr ((fun _ => none)))))))]) := hD
  exact hret _ _ H locs (fun k => [b, q_1].getD k 0) dX3_init_13 hP hD hS rfl
abbrev rm_X5_init : Room := { frames := 2, cells := 12, slots := 733, locals := 32 }
set_option maxHeartbeats 4000000 in
set_option maxRecDepth 100000 in
theorem c_X5_init (l : Launch) (D : va_G) (cy : Nat → ClassId) (b : Nat) (sz : Nat) : Met l yX5_init wsX5_init rm_X5_init (wrX D cy [.ref b] ([(b, .inr (3, [.null, .null, .null, .int 0]))]) sz (Gn)) (va_Qv (fun u : (Nat → Nat) × (Nat → Nat) => u.1 0 = b) (wrB D (va_A ([(b, .inr (3, [.null, .null, .null, .int 0]))]) sz) (fun u => wj [searchW cy u.1 (u.2 0) 0 (fun _ => 0) (fun _ => 0), hotelW cy u.2 hot0])) (va_A ([(b, .inr (3, [.null, .null, .null, .int 0]))]) sz)) 12 733 (va_A ([(b, .inr (3, [.null, .null, .null, .int 0]))]) sz) := by
  refine MwvX (cc := cX5_init) (maxL := 1) (by decide) rfl (Nat.le_of_ble_eq_true rfl) ?_
  intro p e s m args below meth c Q ls A hAe hsz hinit hX0 hF hK hP hD hA hl hret
  have hGn : Gn s := hX0
  obtain ⟨hx, hb, hml, hown, hts⟩ := id hF
  have hown : s.vm.findClass RX5 = some m.cls := hown
  have hin_X1 : ∀ w ∈ u_ws RX1 TX1 16, w ∈ wsX5_init := by decide +kernel
  have hin_X5 : ∀ w ∈ u_ws RX5 TX5 4, w ∈ wsX5_init := by decide +kernel
  have hl : lv_has ls 1 [(0, .ref b)] := hl
  suffices key : ∀ (H : Heap) (locs : List Loc), va_P D vwCl ([(b, .inr (3, [.null, .null, .null, .int 0]))]) H → va_D A ([(b, .inr (3, [.null, .null, .null, .int 0]))]) → va_S A s.heap H locs → W p l e rm_X5_init s m args below meth c H locs 0 0 Q (F0 m 0 ls []) from key s.heap [] hP hD va_S.rf
  intro H locs hP hD hS
  refine lv_aload_n hx hb dX5_init_0 rfl (lv_at hl 0 rfl) ?_
  refine W.objInit hx hb hown (hts (.methodLink RX5 3 objectInit) (by decide +kernel)) (hts (.instanceMethod objectInit) (by decide +kernel)) (hts (.code objectInit ⟨#[0xb1]⟩ 1 none) (by decide +kernel)) rfl (by rw [hml]; exact hl.1) rfl dX5_init_1 (Nat.le_of_ble_eq_true rfl) (Nat.le_of_ble_eq_true rfl) ?_
  refine W.eq (g2 := F0 m 4 ls []) rfl ?_
  refine lv_aload_n hx hb dX5_init_4 rfl (lv_at hl 0 rfl) ?_
  refine va_new (ci := 0) (fs := [.null, .int 0, .int 0, .int 0, .int 0, .int 0, .int 0, .int 0, .null, .null, .null, .null, .null, .null, .null, .null]) (C := RX1) (T := TX1) (N := 16) hx hb hts hin_X1 tyX1 tyX1_ok hown (hts (.classLink RX5 9 RX1) (by decide +kernel)) (hts (.instantiable RX1 16) (by decide +kernel)) (hts (.initialized RX1) (by decide +kernel)) hK hP hD hS hA rfl hfs_X1 (Nat.le_of_ble_eq_true rfl) (Nat.le_of_ble_eq_true rfl) dX5_init_5 (fun q_1 H hP hD hS => ?_)
  refine lv_dup hx hb dX5_init_8 rfl ?_
  refine wr_v (fun u => wj [[(b, .inr (3, [.null, .null, .null, .int 0]))], hotelW cy u hot0]) (va_runIN (As := []) (rest := [.ref q_1, .ref b]) hF (c_X1_init l D cy q_1 H.size) ⟨va_cnB 0 hts gX5_init_X1_init_n11 rfl rfl rfl hGn.2.1 (hts (.initialized RX1) (by decide +kernel)) (by decide +kernel) ⟨Nat.le_of_ble_eq_true rfl, Nat.le_of_ble_eq_true rfl⟩, rfl, hts (.instanceMethod yX1_init) (by decide +kernel)⟩ (wr_preS hK hP hD List.perm_append_comm) rfl rfl hl.1 rfl (lv_room (Nat.le_of_ble_eq_true rfl)) dX5_init_9 ⟨Nat.le_of_ble_eq_true rfl, Nat.le_of_ble_eq_true rfl⟩) hP hD hS hA List.perm_append_comm (fun u => (zz_pick1 [[(b, .inr (3, [.null, .null, .null, .int 0]))], hotelW cy u hot0] 1 [0] (show List.Perm ([1] ++ [0]) (List.range 2) by decide) rfl rfl)) (fun u_2 H locs e_3 => ?_)
  subst e_3
  intro hP hD hS
  have hP : va_P D vwCl (wj [[(b, .inr (3, [.null, .null, .null, .int 0]))], hotelW cy u_2 hot0]) H := hP
  have hD : va_D A (wj [[(b, .inr (3, [.null, .null, .null, .int 0]))], hotelW cy u_2 hot0]) := hD
  refine va_putF (ci := 3) (v := .ref (u_2 0)) (ty := .object "ButtonGuests$Hotel") (C := RX5) (T := TX5) (N := 4) hx hb hts hin_X5 tyX5 tyX5_ok nmX5 hown hK hP hD hS 0 rfl rfl 0 (by decide) (hts (.fieldLink RX5 12 "ButtonGuests$Search" "trial" "LButtonGuests$Hotel;") (by decide +kernel)) (fun _ h9 => h9) rfl hinit rfl (by decide +kernel) rfl rfl (Nat.le_of_ble_eq_true rfl) dX5_init_12 (fun H locs hP hD hS => ?_)
  have hP : va_P D vwCl (wj [[(b, .inr (3, [.ref (u_2 0), .null, .null, .int 0]))], hotelW cy u_2 hot0]) H := hP
  have hD : va_D A (wj [[(b, .inr (3, [.ref (u_2 0), .null, .null, .int 0]))], hotelW cy u_2 hot0]) := hD
  refine lv_aload_n hx hb dX5_init_15 rfl (lv_at hl 0 rfl) ?_
  refine lv_sipush (v := 341) hx hb dX5_init_16 (by decide) ?_
  have hP : va_P D vwCl (wj [[(b, .inr (3, [.ref (u_2 0), .null, .null, .int 0]))], hotelW cy u_2 hot0, []]) H := hP
  have hD : va_D A (wj [[(b, .inr (3, [.ref (u_2 0), .null, .null, .int 0]))], hotelW cy u_2 hot0, []]) := hD
  refine zz_newa hx hb .int .int rfl (hts (.arrayClass .int) (by decide +kernel)) (fun _ _ => rfl) hK hP hD hS hA 0 rfl (a0 := (341, .inl (fun _ => 0))) (N' := 341) (fun _ => rfl) (by decide) (by decide) (Nat.le_of_ble_eq_true rfl) (Nat.le_of_ble_eq_true rfl) (Nat.le_of_ble_eq_true rfl) dX5_init_19 (fun q_4 H hP hD hS => ?_)
  have hP : va_P D vwCl (wj [[(b, .inr (3, [.ref (u_2 0), .null, .null, .int 0]))], hotelW cy u_2 hot0, [(q_4, .inl (cy 0, 341, .inl ((fun _ => 0))))]]) H := hP
  have hD : va_D A (wj [[(b, .inr (3, [.ref (u_2 0), .null, .null, .int 0]))], hotelW cy u_2 hot0, [(q_4, .inl (cy 0, 341, .inl ((fun _ => 0))))]]) := hD
  refine va_putF (ci := 3) (v := .ref q_4) (ty := .array .int) (C := RX5) (T := TX5) (N := 4) hx hb hts hin_X5 tyX5 tyX5_ok nmX5 hown hK hP hD hS 0 rfl rfl 1 (by decide) (hts (.fieldLink RX5 18 "ButtonGuests$Search" "positions" "[I") (by decide +kernel)) (fun _ h9 => h9) rfl hinit rfl (by decide +kernel) rfl rfl (Nat.le_of_ble_eq_true rfl) dX5_init_21 (fun H locs hP hD hS => ?_)
  have hP : va_P D vwCl (wj [[(b, .inr (3, [.ref (u_2 0), .ref q_4, .null, .int 0]))], hotelW cy u_2 hot0, [(q_4, .inl (cy 0, 341, .inl ((fun _ => 0))))]]) H := hP
  have hD : va_D A (wj [[(b, .inr (3, [.ref (u_2 0), .ref q_4, .null, .int 0]))], hotelW cy u_2 hot0, [(q_4, .inl (cy 0, 341, .inl ((fun _ => 0))))]]) := hD
  refine lv_aload_n hx hb dX5_init_24 rfl (lv_at hl 0 rfl) ?_
  refine lv_sipush (v := 341) hx hb dX5_init_25 (by decide) ?_
  refine zz_newa hx hb .int .int rfl (hts (.arrayClass .int) (by decide +kernel)) (fun _ _ => rfl) hK hP hD hS hA 0 rfl (a0 := (341, .inl (fun _ => 0))) (N' := 341) (fun _ => rfl) (by decide) (by decide) (Nat.le_of_ble_eq_true rfl) (Nat.le_of_ble_eq_true rfl) (Nat.le_of_ble_eq_true rfl) dX5_init_28 (fun q_5 H hP hD hS => ?_)
  have hP : va_P D vwCl (wj [[(b, .inr (3, [.ref (u_2 0), .ref q_4, .null, .int 0]))], hotelW cy u_2 hot0, [(q_4, .inl (cy 0, 341, .inl ((fun _ => 0)))), (q_5, .inl (cy 0, 341, .inl ((fun _ => 0))))]]) H := hP
  have hD : va_D A (wj [[(b, .inr (3, [.ref (u_2 0), .ref q_4, .null, .int 0]))], hotelW cy u_2 hot0, [(q_4, .inl (cy 0, 341, .inl ((fun _ => 0)))), (q_5, .inl (cy 0, 341, .inl ((fun _ => 0))))]]) := hD
  refine va_putF (ci := 3) (v := .ref q_5) (ty := .array .int) (C := RX5) (T := TX5) (N := 4) hx hb hts hin_X5 tyX5 tyX5_ok nmX5 hown hK hP hD hS 0 rfl rfl 2 (by decide) (hts (.fieldLink RX5 22 "ButtonGuests$Search" "behind" "[I") (by decide +kernel)) (fun _ h9 => h9) rfl hinit rfl (by decide +kernel) rfl rfl (Nat.le_of_ble_eq_true rfl) dX5_init_30 (fun H locs hP hD hS => ?_)
  have hP : va_P D vwCl (wj [[(b, .inr (3, [.ref (u_2 0), .ref q_4, .ref q_5, .int 0]))], hotelW cy u_2 hot0, [(q_4, .inl (cy 0, 341, .inl ((fun _ => 0)))), (q_5, .inl (cy 0, 341, .inl ((fun _ => 0))))]]) H := hP
  have hD : va_D A (wj [[(b, .inr (3, [.ref (u_2 0), .ref q_4, .ref q_5, .int 0]))], hotelW cy u_2 hot0, [(q_4, .inl (cy 0, 341, .inl ((fun _ => 0)))), (q_5, .inl (cy 0, 341, .inl ((fun _ => 0))))]]) := hD
  exact hret _ _ H locs ((fun k => [b, q_4, q_5].getD k 0), u_2) dX5_init_33 (zz_Pp hP (zz_pick2 [[(b, .inr (3, [.ref (u_2 0), .ref q_4, .ref q_5, .int 0]))], hotelW cy u_2 hot0, [(q_4, .inl (cy 0, 341, .inl ((fun _ => 0)))), (q_5, .inl (cy 0, 341, .inl ((fun _ => 0))))]] 0 2 [1] (show List.Perm ([0, 2] ++ [1]) (List.range 3) by decide) rfl rfl rfl)) (zz_Dp hD (zz_pick2 [[(b, .inr (3, [.ref (u_2 0), .ref q_4, .ref q_5, .int 0]))], hotelW cy u_2 hot0, [(q_4, .inl (cy 0, 341, .inl ((fun _ => 0)))), (q_5, .inl (cy 0, 341, .inl ((fun _ => 0))))]] 0 2 [1] (show List.Perm ([0, 2] ++ [1]) (List.range 3) by decide) rfl rfl rfl)) hS rfl
abbrev rm_X7_init : Room := { frames := 3, cells := 38, slots := 979, locals := 52 }
set_option maxHeartbeats 4000000 in
set_option maxRecDepth 100000 in
theorem c_X7_init (l : Launch) (D : va_G) (cy : Nat → ClassId) (b : Nat) (sz : Nat) : Met l yX7_init wsX7_init rm_X7_init (wrX D cy [.ref b] ([(b, .inr (4, [.null, .null, .null, .null, .null, .null]))]) sz (Gn)) (va_Qv (fun u : BA × (Nat → Nat) => u.1.1 0 = b) (wrB D (va_A ([(b, .inr (4, [.null, .null, .null, .null, .null, .null]))]) sz) (fun u => guestsW cy u.1.1 u.1.2.1 u.1.2.2.1 u.1.2.2.2.1 u.1.2.2.2.2.1 u.1.2.2.2.2.2 (bg0 u.2))) (va_A ([(b, .inr (4, [.null, .null, .null, .null, .null, .null]))]) sz)) 38 979 (va_A ([(b, .inr (4, [.null, .null, .null, .null, .null, .null]))]) sz) := by
  refine MwvX (cc := cX7_init) (maxL := 1) (by decide) rfl (Nat.le_of_ble_eq_true rfl) ?_
  intro p e s m args below meth c Q ls A hAe hsz hinit hX0 hF hK hP hD hA hl hret
  have hGn : Gn s := hX0
  obtain ⟨hx, hb, hml, hown, hts⟩ := id hF
  have hown : s.vm.findClass RX7 = some m.cls := hown
  have hin_X1 : ∀ w ∈ u_ws RX1 TX1 16, w ∈ wsX7_init := by decide +kernel
  have hin_X2 : ∀ w ∈ u_ws RX2 TX2 2, w ∈ wsX7_init := by decide +kernel
  have hin_X3 : ∀ w ∈ u_ws RX3 TX3 2, w ∈ wsX7_init := by decide +kernel
  have hin_X5 : ∀ w ∈ u_ws RX5 TX5 4, w ∈ wsX7_init := by decide +kernel
  have hin_X7 : ∀ w ∈ u_ws RX7 TX7 6, w ∈ wsX7_init := by decide +kernel
  have hl : lv_has ls 1 [(0, .ref b)] := hl
  suffices key : ∀ (H : Heap) (locs : List Loc), va_P D vwCl ([(b, .inr (4, [.null, .null, .null, .null, .null, .null]))]) H → va_D A ([(b, .inr (4, [.null, .null, .null, .null, .null, .null]))]) → va_S A s.heap H locs → W p l e rm_X7_init s m args below meth c H locs 0 0 Q (F0 m 0 ls []) from key s.heap [] hP hD va_S.rf
  intro H locs hP hD hS
  refine lv_aload_n hx hb dX7_init_0 rfl (lv_at hl 0 rfl) ?_
  refine W.objInit hx hb hown (hts (.methodLink RX7 1 objectInit) (by decide +kernel)) (hts (.instanceMethod objectInit) (by decide +kernel)) (hts (.code objectInit ⟨#[0xb1]⟩ 1 none) (by decide +kernel)) rfl (by rw [hml]; exact hl.1) rfl dX7_init_1 (Nat.le_of_ble_eq_true rfl) (Nat.le_of_ble_eq_true rfl) ?_
  refine W.eq (g2 := F0 m 4 ls []) rfl ?_
  refine lv_aload_n hx hb dX7_init_4 rfl (lv_at hl 0 rfl) ?_
  refine va_new (ci := 1) (fs := [.null, .int 0]) (C := RX2) (T := TX2) (N := 2) hx hb hts hin_X2 tyX2 tyX2_ok hown (hts (.classLink RX7 7 RX2) (by decide +kernel)) (hts (.instantiable RX2 2) (by decide +kernel)) (hts (.initialized RX2) (by decide +kernel)) hK hP hD hS hA rfl hfs_X2 (Nat.le_of_ble_eq_true rfl) (Nat.le_of_ble_eq_true rfl) dX7_init_5 (fun q_1 H hP hD hS => ?_)
  refine lv_dup hx hb dX7_init_8 rfl ?_
  refine wr_v (fun u => wj [[(b, .inr (4, [.null, .null, .null, .null, .null, .null]))], textW cy u 0 (fun _ => 0)]) (va_runIN (As := []) (rest := [.ref q_1, .ref b]) hF (c_X2_init l D cy q_1 H.size) ⟨va_cnB 0 hts gX7_init_X2_init_n9 rfl rfl rfl hGn.2.2.2.1 (hts (.initialized RX2) (by decide +kernel)) (by decide +kernel) ⟨Nat.le_of_ble_eq_true rfl, Nat.le_of_ble_eq_true rfl⟩, rfl, hts (.instanceMethod yX2_init) (by decide +kernel)⟩ (wr_preS hK hP hD List.perm_append_comm) rfl rfl hl.1 rfl (lv_room (Nat.le_of_ble_eq_true rfl)) dX7_init_9 ⟨Nat.le_of_ble_eq_true rfl, Nat.le_of_ble_eq_true rfl⟩) hP hD hS hA List.perm_append_comm (fun u => (zz_pick1 [[(b, .inr (4, [.null, .null, .null, .null, .null, .null]))], textW cy u 0 (fun _ => 0)] 1 [0] (show List.Perm ([1] ++ [0]) (List.range 2) by decide) rfl rfl)) (fun u_2 H locs e_3 => ?_)
  subst e_3
  intro hP hD hS
  have hP : va_P D vwCl (wj [[(b, .inr (4, [.null, .null, .null, .null, .null, .null]))], textW cy u_2 0 (fun _ => 0)]) H := hP
  have hD : va_D A (wj [[(b, .inr (4, [.null, .null, .null, .null, .null, .null]))], textW cy u_2 0 (fun _ => 0)]) := hD
  refine va_putF (ci := 4) (v := .ref (u_2 0)) (ty := .object "ButtonGuests$HotelText") (C := RX7) (T := TX7) (N := 6) hx hb hts hin_X7 tyX7 tyX7_ok nmX7 hown hK hP hD hS 0 rfl rfl 0 (by decide) (hts (.fieldLink RX7 10 "ButtonGuests" "text" "LButtonGuests$HotelText;") (by decide +kernel)) (fun _ h9 => h9) rfl hinit rfl (by decide +kernel) rfl rfl (Nat.le_of_ble_eq_true rfl) dX7_init_12 (fun H locs hP hD hS => ?_)
  have hP : va_P D vwCl (wj [[(b, .inr (4, [.ref (u_2 0), .null, .null, .null, .null, .null]))], textW cy u_2 0 (fun _ => 0)]) H := hP
  have hD : va_D A (wj [[(b, .inr (4, [.ref (u_2 0), .null, .null, .null, .null, .null]))], textW cy u_2 0 (fun _ => 0)]) := hD
  refine lv_aload_n hx hb dX7_init_15 rfl (lv_at hl 0 rfl) ?_
  refine va_new (ci := 2) (fs := [.null, .int 0]) (C := RX3) (T := TX3) (N := 2) hx hb hts hin_X3 tyX3 tyX3_ok hown (hts (.classLink RX7 16 RX3) (by decide +kernel)) (hts (.instantiable RX3 2) (by decide +kernel)) (hts (.initialized RX3) (by decide +kernel)) hK hP hD hS hA rfl hfs_X3 (Nat.le_of_ble_eq_true rfl) (Nat.le_of_ble_eq_true rfl) dX7_init_16 (fun q_4 H hP hD hS => ?_)
  refine lv_dup hx hb dX7_init_19 rfl ?_
  refine wr_v (fun u => wj [[(b, .inr (4, [.ref (u_2 0), .null, .null, .null, .null, .null]))], textW cy u_2 0 (fun _ => 0), pastW cy u 0 []]) (va_runIN (As := []) (rest := [.ref q_4, .ref b]) hF (c_X3_init l D cy q_4 H.size) ⟨va_cnB 0 hts gX7_init_X3_init_n18 rfl rfl rfl hGn.2.2.2.2.1 (hts (.initialized RX3) (by decide +kernel)) (by decide +kernel) ⟨Nat.le_of_ble_eq_true rfl, Nat.le_of_ble_eq_true rfl⟩, rfl, hts (.instanceMethod yX3_init) (by decide +kernel)⟩ (wrX_preS hK hP hD List.perm_append_comm Xok_n (fun U hU hW => Gn.warm hW hGn)) rfl rfl hl.1 rfl (lv_room (Nat.le_of_ble_eq_true rfl)) dX7_init_20 ⟨Nat.le_of_ble_eq_true rfl, Nat.le_of_ble_eq_true rfl⟩) hP hD hS hA List.perm_append_comm (fun u => (zz_pick1 [[(b, .inr (4, [.ref (u_2 0), .null, .null, .null, .null, .null]))], textW cy u_2 0 (fun _ => 0), pastW cy u 0 []] 2 [0, 1] (show List.Perm ([2] ++ [0, 1]) (List.range 3) by decide) rfl rfl)) (fun u_5 H locs e_6 => ?_)
  subst e_6
  intro hP hD hS
  have hP : va_P D vwCl (wj [[(b, .inr (4, [.ref (u_2 0), .null, .null, .null, .null, .null]))], textW cy u_2 0 (fun _ => 0), pastW cy u_5 0 []]) H := hP
  have hD : va_D A (wj [[(b, .inr (4, [.ref (u_2 0), .null, .null, .null, .null, .null]))], textW cy u_2 0 (fun _ => 0), pastW cy u_5 0 []]) := hD
  refine va_putF (ci := 4) (v := .ref (u_5 0)) (ty := .object "ButtonGuests$Past") (C := RX7) (T := TX7) (N := 6) hx hb hts hin_X7 tyX7 tyX7_ok nmX7 hown hK hP hD hS 0 rfl rfl 1 (by decide) (hts (.fieldLink RX7 19 "ButtonGuests" "past" "LButtonGuests$Past;") (by decide +kernel)) (fun _ h9 => h9) rfl hinit rfl (by decide +kernel) rfl rfl (Nat.le_of_ble_eq_true rfl) dX7_init_23 (fun H locs hP hD hS => ?_)
  have hP : va_P D vwCl (wj [[(b, .inr (4, [.ref (u_2 0), .ref (u_5 0), .null, .null, .null, .null]))], textW cy u_2 0 (fun _ => 0), pastW cy u_5 0 []]) H := hP
  have hD : va_D A (wj [[(b, .inr (4, [.ref (u_2 0), .ref (u_5 0), .null, .null, .null, .null]))], textW cy u_2 0 (fun _ => 0), pastW cy u_5 0 []]) := hD
  refine lv_aload_n hx hb dX7_init_26 rfl (lv_at hl 0 rfl) ?_
  refine va_new (ci := 3) (fs := [.null, .null, .null, .int 0]) (C := RX5) (T := TX5) (N := 4) hx hb hts hin_X5 tyX5 tyX5_ok hown (hts (.classLink RX7 23 RX5) (by decide +kernel)) (hts (.instantiable RX5 4) (by decide +kernel)) (hts (.initialized RX5) (by decide +kernel)) hK hP hD hS hA rfl hfs_X5 (Nat.le_of_ble_eq_true rfl) (Nat.le_of_ble_eq_true rfl) dX7_init_27 (fun q_7 H hP hD hS => ?_)
  refine lv_dup hx hb dX7_init_30 rfl ?_
  refine wr_v (fun u => wj [[(b, .inr (4, [.ref (u_2 0), .ref (u_5 0), .null, .null, .null, .null]))], textW cy u_2 0 (fun _ => 0), pastW cy u_5 0 [], wj [searchW cy u.1 (u.2 0) 0 (fun _ => 0) (fun _ => 0), hotelW cy u.2 hot0]]) (va_runIN (As := []) (rest := [.ref q_7, .ref b]) hF (c_X5_init l D cy q_7 H.size) ⟨va_cnB 0 hts gX7_init_X5_init_n25 rfl rfl rfl hGn.2.2.2.2.2.1 (hts (.initialized RX5) (by decide +kernel)) (by decide +kernel) ⟨Nat.le_of_ble_eq_true rfl, Nat.le_of_ble_eq_true rfl⟩, rfl, hts (.instanceMethod yX5_init) (by decide +kernel)⟩ (wrX_preS hK hP hD List.perm_append_comm Xok_n (fun U hU hW => Gn.warm hW hGn)) rfl rfl hl.1 rfl (lv_room (Nat.le_of_ble_eq_true rfl)) dX7_init_31 ⟨Nat.le_of_ble_eq_true rfl, Nat.le_of_ble_eq_true rfl⟩) hP hD hS hA List.perm_append_comm (fun u => (zz_pick1 [[(b, .inr (4, [.ref (u_2 0), .ref (u_5 0), .null, .null, .null, .null]))], textW cy u_2 0 (fun _ => 0), pastW cy u_5 0 [], wj [searchW cy u.1 (u.2 0) 0 (fun _ => 0) (fun _ => 0), hotelW cy u.2 hot0]] 3 [0, 1, 2] (show List.Perm ([3] ++ [0, 1, 2]) (List.range 4) by decide) rfl rfl)) (fun u_8 H locs e_9 => ?_)
  subst e_9
  intro hP hD hS
  have hP : va_P D vwCl (wj [[(b, .inr (4, [.ref (u_2 0), .ref (u_5 0), .null, .null, .null, .null]))], textW cy u_2 0 (fun _ => 0), pastW cy u_5 0 [], wj [searchW cy u_8.1 (u_8.2 0) 0 (fun _ => 0) (fun _ => 0), hotelW cy u_8.2 hot0]]) H := hP
  have hD : va_D A (wj [[(b, .inr (4, [.ref (u_2 0), .ref (u_5 0), .null, .null, .null, .null]))], textW cy u_2 0 (fun _ => 0), pastW cy u_5 0 [], wj [searchW cy u_8.1 (u_8.2 0) 0 (fun _ => 0) (fun _ => 0), hotelW cy u_8.2 hot0]]) := hD
  refine va_putF (ci := 4) (v := .ref (u_8.1 0)) (ty := .object "ButtonGuests$Search") (C := RX7) (T := TX7) (N := 6) hx hb hts hin_X7 tyX7 tyX7_ok nmX7 hown hK hP hD hS 0 rfl rfl 2 (by decide) (hts (.fieldLink RX7 26 "ButtonGuests" "search" "LButtonGuests$Search;") (by decide +kernel)) (fun _ h9 => h9) rfl hinit rfl (by decide +kernel) rfl rfl (Nat.le_of_ble_eq_true rfl) dX7_init_34 (fun H locs hP hD hS => ?_)
  have hP : va_P D vwCl (wj [[(b, .inr (4, [.ref (u_2 0), .ref (u_5 0), .ref (u_8.1 0), .null, .null, .null]))], textW cy u_2 0 (fun _ => 0), pastW cy u_5 0 [], wj [searchW cy u_8.1 (u_8.2 0) 0 (fun _ => 0) (fun _ => 0), hotelW cy u_8.2 hot0]]) H := hP
  have hD : va_D A (wj [[(b, .inr (4, [.ref (u_2 0), .ref (u_5 0), .ref (u_8.1 0), .null, .null, .null]))], textW cy u_2 0 (fun _ => 0), pastW cy u_5 0 [], wj [searchW cy u_8.1 (u_8.2 0) 0 (fun _ => 0) (fun _ => 0), hotelW cy u_8.2 hot0]]) := hD
  refine lv_aload_n hx hb dX7_init_37 rfl (lv_at hl 0 rfl) ?_
  refine lv_iconst (v := 2) hx hb dX7_init_38 (by decide) ?_
  have hP : va_P D vwCl (wj [[(b, .inr (4, [.ref (u_2 0), .ref (u_5 0), .ref (u_8.1 0), .null, .null, .null]))], textW cy u_2 0 (fun _ => 0), pastW cy u_5 0 [], wj [searchW cy u_8.1 (u_8.2 0) 0 (fun _ => 0) (fun _ => 0), hotelW cy u_8.2 hot0], []]) H := hP
  have hD : va_D A (wj [[(b, .inr (4, [.ref (u_2 0), .ref (u_5 0), .ref (u_8.1 0), .null, .null, .null]))], textW cy u_2 0 (fun _ => 0), pastW cy u_5 0 [], wj [searchW cy u_8.1 (u_8.2 0) 0 (fun _ => 0) (fun _ => 0), hotelW cy u_8.2 hot0], []]) := hD
  refine zz_newq hx hb hown (hts (.classLink RX7 30 RX1) (by decide +kernel)) hGn.2.2.2.2.2.2 hK hP hD hS hA 2 rfl (N' := 2) (by decide) (by decide) (Nat.le_of_ble_eq_true rfl) (Nat.le_of_ble_eq_true rfl) (Nat.le_of_ble_eq_true rfl) dX7_init_39 (fun q_10 H hP hD hS => ?_)
  have hP : va_P D vwCl (wj [[(b, .inr (4, [.ref (u_2 0), .ref (u_5 0), .ref (u_8.1 0), .null, .null, .null]))], textW cy u_2 0 (fun _ => 0), pastW cy u_5 0 [], wj [searchW cy u_8.1 (u_8.2 0) 0 (fun _ => 0) (fun _ => 0), hotelW cy u_8.2 hot0], [(q_10, .inl (cy 2, 2, .inr (.inr (.inr (.inr ((fun _ => none)))))))]]) H := hP
  have hD : va_D A (wj [[(b, .inr (4, [.ref (u_2 0), .ref (u_5 0), .ref (u_8.1 0), .null, .null, .null]))], textW cy u_2 0 (fun _ => 0), pastW cy u_5 0 [], wj [searchW cy u_8.1 (u_8.2 0) 0 (fun _ => 0) (fun _ => 0), hotelW cy u_8.2 hot0], [(q_10, .inl (cy 2, 2, .inr (.inr (.inr (.inr ((fun _ => none)))))))]]) := hD
  refine va_putF (ci := 4) (v := .ref q_10) (ty := .array (.object "ButtonGuests$Hotel")) (C := RX7) (T := TX7) (N := 6) hx hb hts hin_X7 tyX7 tyX7_ok nmX7 hown hK hP hD hS 0 rfl rfl 3 (by decide) (hts (.fieldLink RX7 32 "ButtonGuests" "slots" "[LButtonGuests$Hotel;") (by decide +kernel)) (fun _ h9 => h9) rfl hinit rfl (by decide +kernel) rfl rfl (Nat.le_of_ble_eq_true rfl) dX7_init_42 (fun H locs hP hD hS => ?_)
  have hP : va_P D vwCl (wj [[(b, .inr (4, [.ref (u_2 0), .ref (u_5 0), .ref (u_8.1 0), .ref q_10, .null, .null]))], textW cy u_2 0 (fun _ => 0), pastW cy u_5 0 [], wj [searchW cy u_8.1 (u_8.2 0) 0 (fun _ => 0) (fun _ => 0), hotelW cy u_8.2 hot0], [(q_10, .inl (cy 2, 2, .inr (.inr (.inr (.inr ((fun _ => none)))))))]]) H := hP
  have hD : va_D A (wj [[(b, .inr (4, [.ref (u_2 0), .ref (u_5 0), .ref (u_8.1 0), .ref q_10, .null, .null]))], textW cy u_2 0 (fun _ => 0), pastW cy u_5 0 [], wj [searchW cy u_8.1 (u_8.2 0) 0 (fun _ => 0) (fun _ => 0), hotelW cy u_8.2 hot0], [(q_10, .inl (cy 2, 2, .inr (.inr (.inr (.inr ((fun _ => none)))))))]]) := hD
  refine lv_aload_n hx hb dX7_init_45 rfl (lv_at hl 0 rfl) ?_
  refine va_new (ci := 0) (fs := [.null, .int 0, .int 0, .int 0, .int 0, .int 0, .int 0, .int 0, .null, .null, .null, .null, .null, .null, .null, .null]) (C := RX1) (T := TX1) (N := 16) hx hb hts hin_X1 tyX1 tyX1_ok hown (hts (.classLink RX7 30 RX1) (by decide +kernel)) (hts (.instantiable RX1 16) (by decide +kernel)) (hts (.initialized RX1) (by decide +kernel)) hK hP hD hS hA rfl hfs_X1 (Nat.le_of_ble_eq_true rfl) (Nat.le_of_ble_eq_true rfl) dX7_init_46 (fun q_11 H hP hD hS => ?_)
  refine lv_dup hx hb dX7_init_49 rfl ?_
  refine wr_v (fun u => wj [[(b, .inr (4, [.ref (u_2 0), .ref (u_5 0), .ref (u_8.1 0), .ref q_10, .null, .null]))], textW cy u_2 0 (fun _ => 0), pastW cy u_5 0 [], wj [searchW cy u_8.1 (u_8.2 0) 0 (fun _ => 0) (fun _ => 0), hotelW cy u_8.2 hot0], [(q_10, .inl (cy 2, 2, .inr (.inr (.inr (.inr ((fun _ => none)))))))], hotelW cy u hot0]) (va_runIN (As := []) (rest := [.ref q_11, .ref b]) hF (c_X1_init l D cy q_11 H.size) ⟨va_cnB 0 hts gX7_init_X1_init_n36 rfl rfl rfl hGn.2.2.1 (hts (.initialized RX1) (by decide +kernel)) (by decide +kernel) ⟨Nat.le_of_ble_eq_true rfl, Nat.le_of_ble_eq_true rfl⟩, rfl, hts (.instanceMethod yX1_init) (by decide +kernel)⟩ (wr_preS hK hP hD List.perm_append_comm) rfl rfl hl.1 rfl (lv_room (Nat.le_of_ble_eq_true rfl)) dX7_init_50 ⟨Nat.le_of_ble_eq_true rfl, Nat.le_of_ble_eq_true rfl⟩) hP hD hS hA List.perm_append_comm (fun u => (zz_pick1 [[(b, .inr (4, [.ref (u_2 0), .ref (u_5 0), .ref (u_8.1 0), .ref q_10, .null, .null]))], textW cy u_2 0 (fun _ => 0), pastW cy u_5 0 [], wj [searchW cy u_8.1 (u_8.2 0) 0 (fun _ => 0) (fun _ => 0), hotelW cy u_8.2 hot0], [(q_10, .inl (cy 2, 2, .inr (.inr (.inr (.inr ((fun _ => none)))))))], hotelW cy u hot0] 5 [0, 1, 2, 3, 4] (show List.Perm ([5] ++ [0, 1, 2, 3, 4]) (List.range 6) by decide) rfl rfl)) (fun u_12 H locs e_13 => ?_)
  subst e_13
  intro hP hD hS
  have hP : va_P D vwCl (wj [[(b, .inr (4, [.ref (u_2 0), .ref (u_5 0), .ref (u_8.1 0), .ref q_10, .null, .null]))], textW cy u_2 0 (fun _ => 0), pastW cy u_5 0 [], wj [searchW cy u_8.1 (u_8.2 0) 0 (fun _ => 0) (fun _ => 0), hotelW cy u_8.2 hot0], [(q_10, .inl (cy 2, 2, .inr (.inr (.inr (.inr ((fun _ => none)))))))], hotelW cy u_12 hot0]) H := hP
  have hD : va_D A (wj [[(b, .inr (4, [.ref (u_2 0), .ref (u_5 0), .ref (u_8.1 0), .ref q_10, .null, .null]))], textW cy u_2 0 (fun _ => 0), pastW cy u_5 0 [], wj [searchW cy u_8.1 (u_8.2 0) 0 (fun _ => 0) (fun _ => 0), hotelW cy u_8.2 hot0], [(q_10, .inl (cy 2, 2, .inr (.inr (.inr (.inr ((fun _ => none)))))))], hotelW cy u_12 hot0]) := hD
  refine va_putF (ci := 4) (v := .ref (u_12 0)) (ty := .object "ButtonGuests$Hotel") (C := RX7) (T := TX7) (N := 6) hx hb hts hin_X7 tyX7 tyX7_ok nmX7 hown hK hP hD hS 0 rfl rfl 4 (by decide) (hts (.fieldLink RX7 37 "ButtonGuests" "trial" "LButtonGuests$Hotel;") (by decide +kernel)) (fun _ h9 => h9) rfl hinit rfl (by decide +kernel) rfl rfl (Nat.le_of_ble_eq_true rfl) dX7_init_53 (fun H locs hP hD hS => ?_)
  have hP : va_P D vwCl (wj [[(b, .inr (4, [.ref (u_2 0), .ref (u_5 0), .ref (u_8.1 0), .ref q_10, .ref (u_12 0), .null]))], textW cy u_2 0 (fun _ => 0), pastW cy u_5 0 [], wj [searchW cy u_8.1 (u_8.2 0) 0 (fun _ => 0) (fun _ => 0), hotelW cy u_8.2 hot0], [(q_10, .inl (cy 2, 2, .inr (.inr (.inr (.inr ((fun _ => none)))))))], hotelW cy u_12 hot0]) H := hP
  have hD : va_D A (wj [[(b, .inr (4, [.ref (u_2 0), .ref (u_5 0), .ref (u_8.1 0), .ref q_10, .ref (u_12 0), .null]))], textW cy u_2 0 (fun _ => 0), pastW cy u_5 0 [], wj [searchW cy u_8.1 (u_8.2 0) 0 (fun _ => 0) (fun _ => 0), hotelW cy u_8.2 hot0], [(q_10, .inl (cy 2, 2, .inr (.inr (.inr (.inr ((fun _ => none)))))))], hotelW cy u_12 hot0]) := hD
  refine lv_aload_n hx hb dX7_init_56 rfl (lv_at hl 0 rfl) ?_
  refine va_new (ci := 0) (fs := [.null, .int 0, .int 0, .int 0, .int 0, .int 0, .int 0, .int 0, .null, .null, .null, .null, .null, .null, .null, .null]) (C := RX1) (T := TX1) (N := 16) hx hb hts hin_X1 tyX1 tyX1_ok hown (hts (.classLink RX7 30 RX1) (by decide +kernel)) (hts (.instantiable RX1 16) (by decide +kernel)) (hts (.initialized RX1) (by decide +kernel)) hK hP hD hS hA rfl hfs_X1 (Nat.le_of_ble_eq_true rfl) (Nat.le_of_ble_eq_true rfl) dX7_init_57 (fun q_14 H hP hD hS => ?_)
  refine lv_dup hx hb dX7_init_60 rfl ?_
  refine wr_v (fun u => wj [[(b, .inr (4, [.ref (u_2 0), .ref (u_5 0), .ref (u_8.1 0), .ref q_10, .ref (u_12 0), .null]))], textW cy u_2 0 (fun _ => 0), pastW cy u_5 0 [], wj [searchW cy u_8.1 (u_8.2 0) 0 (fun _ => 0) (fun _ => 0), hotelW cy u_8.2 hot0], [(q_10, .inl (cy 2, 2, .inr (.inr (.inr (.inr ((fun _ => none)))))))], hotelW cy u_12 hot0, hotelW cy u hot0]) (va_runIN (As := []) (rest := [.ref q_14, .ref b]) hF (c_X1_init l D cy q_14 H.size) ⟨va_cnB 0 hts gX7_init_X1_init_n36 rfl rfl rfl hGn.2.2.1 (hts (.initialized RX1) (by decide +kernel)) (by decide +kernel) ⟨Nat.le_of_ble_eq_true rfl, Nat.le_of_ble_eq_true rfl⟩, rfl, hts (.instanceMethod yX1_init) (by decide +kernel)⟩ (wr_preS hK hP hD List.perm_append_comm) rfl rfl hl.1 rfl (lv_room (Nat.le_of_ble_eq_true rfl)) dX7_init_61 ⟨Nat.le_of_ble_eq_true rfl, Nat.le_of_ble_eq_true rfl⟩) hP hD hS hA List.perm_append_comm (fun u => (zz_pick1 [[(b, .inr (4, [.ref (u_2 0), .ref (u_5 0), .ref (u_8.1 0), .ref q_10, .ref (u_12 0), .null]))], textW cy u_2 0 (fun _ => 0), pastW cy u_5 0 [], wj [searchW cy u_8.1 (u_8.2 0) 0 (fun _ => 0) (fun _ => 0), hotelW cy u_8.2 hot0], [(q_10, .inl (cy 2, 2, .inr (.inr (.inr (.inr ((fun _ => none)))))))], hotelW cy u_12 hot0, hotelW cy u hot0] 6 [0, 1, 2, 3, 4, 5] (show List.Perm ([6] ++ [0, 1, 2, 3, 4, 5]) (List.range 7) by decide) rfl rfl)) (fun u_15 H locs e_16 => ?_)
  subst e_16
  intro hP hD hS
  have hP : va_P D vwCl (wj [[(b, .inr (4, [.ref (u_2 0), .ref (u_5 0), .ref (u_8.1 0), .ref q_10, .ref (u_12 0), .null]))], textW cy u_2 0 (fun _ => 0), pastW cy u_5 0 [], wj [searchW cy u_8.1 (u_8.2 0) 0 (fun _ => 0) (fun _ => 0), hotelW cy u_8.2 hot0], [(q_10, .inl (cy 2, 2, .inr (.inr (.inr (.inr ((fun _ => none)))))))], hotelW cy u_12 hot0, hotelW cy u_15 hot0]) H := hP
  have hD : va_D A (wj [[(b, .inr (4, [.ref (u_2 0), .ref (u_5 0), .ref (u_8.1 0), .ref q_10, .ref (u_12 0), .null]))], textW cy u_2 0 (fun _ => 0), pastW cy u_5 0 [], wj [searchW cy u_8.1 (u_8.2 0) 0 (fun _ => 0) (fun _ => 0), hotelW cy u_8.2 hot0], [(q_10, .inl (cy 2, 2, .inr (.inr (.inr (.inr ((fun _ => none)))))))], hotelW cy u_12 hot0, hotelW cy u_15 hot0]) := hD
  refine va_put (ci := 4) (v := .ref (u_15 0)) (ty := .object "ButtonGuests$Hotel") (C := RX7) (T := TX7) (N := 6) hx hb hts hin_X7 tyX7 tyX7_ok nmX7 hown hK hP hD hS 0 rfl rfl 5 (by decide) (hts (.fieldLink RX7 41 "ButtonGuests" "now" "LButtonGuests$Hotel;") (by decide +kernel)) (fun _ h9 => h9) rfl (by decide +kernel) rfl rfl (Nat.le_of_ble_eq_true rfl) dX7_init_64 (fun H locs hP hD hS => ?_)
  have hP : va_P D vwCl (wj [[(b, .inr (4, [.ref (u_2 0), .ref (u_5 0), .ref (u_8.1 0), .ref q_10, .ref (u_12 0), .ref (u_15 0)]))], textW cy u_2 0 (fun _ => 0), pastW cy u_5 0 [], wj [searchW cy u_8.1 (u_8.2 0) 0 (fun _ => 0) (fun _ => 0), hotelW cy u_8.2 hot0], [(q_10, .inl (cy 2, 2, .inr (.inr (.inr (.inr ((fun _ => none)))))))], hotelW cy u_12 hot0, hotelW cy u_15 hot0]) H := hP
  have hD : va_D A (wj [[(b, .inr (4, [.ref (u_2 0), .ref (u_5 0), .ref (u_8.1 0), .ref q_10, .ref (u_12 0), .ref (u_15 0)]))], textW cy u_2 0 (fun _ => 0), pastW cy u_5 0 [], wj [searchW cy u_8.1 (u_8.2 0) 0 (fun _ => 0) (fun _ => 0), hotelW cy u_8.2 hot0], [(q_10, .inl (cy 2, 2, .inr (.inr (.inr (.inr ((fun _ => none)))))))], hotelW cy u_12 hot0, hotelW cy u_15 hot0]) := hD
  have hp : (wj [[(b, .inr (4, [.ref (u_2 0), .ref (u_5 0), .ref (u_8.1 0), .ref q_10, .ref (u_12 0), .ref (u_15 0)]))], textW cy u_2 0 (fun _ => 0), pastW cy u_5 0 [], wj [searchW cy u_8.1 (u_8.2 0) 0 (fun _ => 0) (fun _ => 0), hotelW cy u_8.2 hot0], [(q_10, .inl (cy 2, 2, .inr (.inr (.inr (.inr ((fun _ => none)))))))], hotelW cy u_12 hot0, hotelW cy u_15 hot0]).Perm (guestsW cy (fun k => [b, q_10].getD k 0) u_2 u_5 u_8.1 u_8.2 u_12 (bg0 u_15)) := by
    refine (zz_pick [[(b, .inr (4, [.ref (u_2 0), .ref (u_5 0), .ref (u_8.1 0), .ref q_10, .ref (u_12 0), .ref (u_15 0)]))], textW cy u_2 0 (fun _ => 0), pastW cy u_5 0 [], wj [searchW cy u_8.1 (u_8.2 0) 0 (fun _ => 0) (fun _ => 0), hotelW cy u_8.2 hot0], [(q_10, .inl (cy 2, 2, .inr (.inr (.inr (.inr ((fun _ => none)))))))], hotelW cy u_12 hot0, hotelW cy u_15 hot0] [0, 4] [1, 2, 3, 5, 6] (show List.Perm ([0, 4] ++ [1, 2, 3, 5, 6]) (List.range 7) by decide) rfl rfl).trans ?_
    unfold guestsW slaW
    rw [show slF (bg0 u_15).2.2.2.2.2.1 (bg0 u_15).2.2.2.2.2.2 = fun _ => none from slF_0]
    exact List.Perm.refl _
  exact hret _ _ H locs ((fun k => [b, q_10].getD k 0, u_2, u_5, u_8.1, u_8.2, u_12), u_15) dX7_init_67 (zz_Pp hP hp) (zz_Dp hD hp) hS rfl
