/-! settings, new hotels -/
abbrev okSV (w v : Int32) : Prop := isG 3 w ∧ ¬ v < fLe w.toNatClampNeg ∧ ¬ fGr w.toNatClampNeg < v
def hSgOf (x : HS) (w : Int32) : Int32 := if isG 3 w then x.2.1 w.toNatClampNeg else -1
def hSetR (x : HS) (w v : Int32) : Int32 := if okSV w v then x.2.1 w.toNatClampNeg else -1
def hSet (w v : Int32) (x : HS) : HS := if okSV w v then mSetS w.toNatClampNeg v x else x
def hot0 : HS := ((0, 0, 0, 0, 0, 0, 0), (upd (upd (upd (fun _ => 0) 0 6) 1 3) 2 2, fun _ => 0, fun _ => 0, fun _ => 0, fun _ => 0, fun _ => 0, fun _ => 0, fun _ => 0, fun _ => 0))
abbrev rm_X1_init : Room := { frames := 1, cells := 9, slots := 35, locals := 12 }
set_option maxHeartbeats 4000000 in
set_option maxRecDepth 100000 in
theorem c_X1_init (l : Launch) (D : va_G) (cy : Nat → ClassId) (b : Nat) (sz : Nat) : Met l yX1_init wsX1_init rm_X1_init (wrP D cy [.ref b] ([(b, .inr (0, [.null, .int 0, .int 0, .int 0, .int 0, .int 0, .int 0, .int 0, .null, .null, .null, .null, .null, .null, .null, .null]))]) sz) (va_Qv (fun u : Nat → Nat => u 0 = b) (wrB D (va_A ([(b, .inr (0, [.null, .int 0, .int 0, .int 0, .int 0, .int 0, .int 0, .int 0, .null, .null, .null, .null, .null, .null, .null, .null]))]) sz) (fun u => hotelW cy u hot0)) (va_A ([(b, .inr (0, [.null, .int 0, .int 0, .int 0, .int 0, .int 0, .int 0, .int 0, .null, .null, .null, .null, .null, .null, .null, .null]))]) sz)) 9 35 (va_A ([(b, .inr (0, [.null, .int 0, .int 0, .int 0, .int 0, .int 0, .int 0, .int 0, .null, .null, .null, .null, .null, .null, .null, .null]))]) sz) := by
  refine Mwv (cc := cX1_init) (maxL := 1) (by decide) rfl (Nat.le_of_ble_eq_true rfl) ?_
  intro p e s m args below meth c Q ls A hsz hinit hF hK hP hD hA hl hret
  obtain ⟨hx, hb, hml, hown, hts⟩ := id hF
  have hown : s.vm.findClass RX1 = some m.cls := hown
  have hin_X1 : ∀ w ∈ u_ws RX1 TX1 16, w ∈ wsX1_init := by decide +kernel
  have hl : lv_has ls 1 [(0, .ref b)] := hl
  suffices key : ∀ (H : Heap) (locs : List Loc), va_P D vwCl ([(b, .inr (0, [.null, .int 0, .int 0, .int 0, .int 0, .int 0, .int 0, .int 0, .null, .null, .null, .null, .null, .null, .null, .null]))]) H → va_D A ([(b, .inr (0, [.null, .int 0, .int 0, .int 0, .int 0, .int 0, .int 0, .int 0, .null, .null, .null, .null, .null, .null, .null, .null]))]) → va_S A s.heap H locs → W p l e rm_X1_init s m args below meth c H locs 0 0 Q (F0 m 0 ls []) from key s.heap [] hP hD va_S.rf
  intro H locs hP hD hS
  refine lv_aload_n hx hb dX1_init_0 rfl (lv_at hl 0 rfl) ?_
  refine W.objInit hx hb hown (hts (.methodLink RX1 3 objectInit) (by decide +kernel)) (hts (.instanceMethod objectInit) (by decide +kernel)) (hts (.code objectInit ⟨#[0xb1]⟩ 1 none) (by decide +kernel)) rfl (by rw [hml]; exact hl.1) rfl dX1_init_1 (Nat.le_of_ble_eq_true rfl) (Nat.le_of_ble_eq_true rfl) ?_
  refine W.eq (g2 := F0 m 4 ls []) rfl ?_
  refine lv_aload_n hx hb dX1_init_4 rfl (lv_at hl 0 rfl) ?_
  refine lv_iconst (v := 3) hx hb dX1_init_5 (by decide) ?_
  refine zz_newa hx hb .int .int rfl (hts (.arrayClass .int) (by decide +kernel)) (fun _ _ => rfl) hK hP hD hS hA 0 rfl (a0 := (3, .inl (fun _ => 0))) (N' := 3) (fun _ => rfl) (by decide) (by decide) (Nat.le_of_ble_eq_true rfl) (Nat.le_of_ble_eq_true rfl) (Nat.le_of_ble_eq_true rfl) dX1_init_6 (fun q_1 H hP hD hS => ?_)
  have hP : va_P D vwCl ([(b, .inr (0, [.null, .int 0, .int 0, .int 0, .int 0, .int 0, .int 0, .int 0, .null, .null, .null, .null, .null, .null, .null, .null])), (q_1, .inl (cy 0, 3, .inl ((fun _ => 0))))]) H := hP
  have hD : va_D A ([(b, .inr (0, [.null, .int 0, .int 0, .int 0, .int 0, .int 0, .int 0, .int 0, .null, .null, .null, .null, .null, .null, .null, .null])), (q_1, .inl (cy 0, 3, .inl ((fun _ => 0))))]) := hD
  refine lv_dup hx hb dX1_init_8 rfl ?_
  refine lv_iconst (v := 0) hx hb dX1_init_9 (by decide) ?_
  refine lv_bipush (v := 6) hx hb dX1_init_10 (by decide) ?_
  refine zz_iast hx hb hK hP hD hS 1 0 0 rfl rfl rfl ⟨by decide, Nat.le_of_ble_eq_true rfl⟩ dX1_init_12 (fun H locs hP hD hS => ?_)
  have hP : va_P D vwCl ([(b, .inr (0, [.null, .int 0, .int 0, .int 0, .int 0, .int 0, .int 0, .int 0, .null, .null, .null, .null, .null, .null, .null, .null])), (q_1, .inl (cy 0, 3, .inl ((upd ((fun _ => 0)) 0 6))))]) H := hP
  have hD : va_D A ([(b, .inr (0, [.null, .int 0, .int 0, .int 0, .int 0, .int 0, .int 0, .int 0, .null, .null, .null, .null, .null, .null, .null, .null])), (q_1, .inl (cy 0, 3, .inl ((upd ((fun _ => 0)) 0 6))))]) := hD
  refine lv_dup hx hb dX1_init_13 rfl ?_
  refine lv_iconst (v := 1) hx hb dX1_init_14 (by decide) ?_
  refine lv_iconst (v := 3) hx hb dX1_init_15 (by decide) ?_
  refine zz_iast hx hb hK hP hD hS 1 0 1 rfl rfl rfl ⟨by decide, Nat.le_of_ble_eq_true rfl⟩ dX1_init_16 (fun H locs hP hD hS => ?_)
  have hP : va_P D vwCl ([(b, .inr (0, [.null, .int 0, .int 0, .int 0, .int 0, .int 0, .int 0, .int 0, .null, .null, .null, .null, .null, .null, .null, .null])), (q_1, .inl (cy 0, 3, .inl ((upd ((upd ((fun _ => 0)) 0 6)) 1 3))))]) H := hP
  have hD : va_D A ([(b, .inr (0, [.null, .int 0, .int 0, .int 0, .int 0, .int 0, .int 0, .int 0, .null, .null, .null, .null, .null, .null, .null, .null])), (q_1, .inl (cy 0, 3, .inl ((upd ((upd ((fun _ => 0)) 0 6)) 1 3))))]) := hD
  refine lv_dup hx hb dX1_init_17 rfl ?_
  refine lv_iconst (v := 2) hx hb dX1_init_18 (by decide) ?_
  refine lv_iconst (v := 2) hx hb dX1_init_19 (by decide) ?_
  refine zz_iast hx hb hK hP hD hS 1 0 2 rfl rfl rfl ⟨by decide, Nat.le_of_ble_eq_true rfl⟩ dX1_init_20 (fun H locs hP hD hS => ?_)
  have hP : va_P D vwCl ([(b, .inr (0, [.null, .int 0, .int 0, .int 0, .int 0, .int 0, .int 0, .int 0, .null, .null, .null, .null, .null, .null, .null, .null])), (q_1, .inl (cy 0, 3, .inl ((upd ((upd ((upd ((fun _ => 0)) 0 6)) 1 3)) 2 2))))]) H := hP
  have hD : va_D A ([(b, .inr (0, [.null, .int 0, .int 0, .int 0, .int 0, .int 0, .int 0, .int 0, .null, .null, .null, .null, .null, .null, .null, .null])), (q_1, .inl (cy 0, 3, .inl ((upd ((upd ((upd ((fun _ => 0)) 0 6)) 1 3)) 2 2))))]) := hD
  refine va_putF (ci := 0) (v := .ref q_1) (ty := .array .int) (C := RX1) (T := TX1) (N := 16) hx hb hts hin_X1 tyX1 tyX1_ok nmX1 hown hK hP hD hS 0 rfl rfl 0 (by decide) (hts (.fieldLink RX1 9 "ButtonGuests$Hotel" "settings" "[I") (by decide +kernel)) (fun _ h9 => h9) rfl hinit rfl (by decide +kernel) rfl rfl (Nat.le_of_ble_eq_true rfl) dX1_init_21 (fun H locs hP hD hS => ?_)
  have hP : va_P D vwCl ([(b, .inr (0, [.ref q_1, .int 0, .int 0, .int 0, .int 0, .int 0, .int 0, .int 0, .null, .null, .null, .null, .null, .null, .null, .null])), (q_1, .inl (cy 0, 3, .inl ((upd ((upd ((upd ((fun _ => 0)) 0 6)) 1 3)) 2 2))))]) H := hP
  have hD : va_D A ([(b, .inr (0, [.ref q_1, .int 0, .int 0, .int 0, .int 0, .int 0, .int 0, .int 0, .null, .null, .null, .null, .null, .null, .null, .null])), (q_1, .inl (cy 0, 3, .inl ((upd ((upd ((upd ((fun _ => 0)) 0 6)) 1 3)) 2 2))))]) := hD
  refine lv_aload_n hx hb dX1_init_24 rfl (lv_at hl 0 rfl) ?_
  refine lv_iconst (v := 4) hx hb dX1_init_25 (by decide) ?_
  refine zz_newa hx hb .int .int rfl (hts (.arrayClass .int) (by decide +kernel)) (fun _ _ => rfl) hK hP hD hS hA 0 rfl (a0 := (4, .inl (fun _ => 0))) (N' := 4) (fun _ => rfl) (by decide) (by decide) (Nat.le_of_ble_eq_true rfl) (Nat.le_of_ble_eq_true rfl) (Nat.le_of_ble_eq_true rfl) dX1_init_26 (fun q_2 H hP hD hS => ?_)
  have hP : va_P D vwCl ([(b, .inr (0, [.ref q_1, .int 0, .int 0, .int 0, .int 0, .int 0, .int 0, .int 0, .null, .null, .null, .null, .null, .null, .null, .null])), (q_1, .inl (cy 0, 3, .inl ((upd ((upd ((upd ((fun _ => 0)) 0 6)) 1 3)) 2 2)))), (q_2, .inl (cy 0, 4, .inl ((fun _ => 0))))]) H := hP
  have hD : va_D A ([(b, .inr (0, [.ref q_1, .int 0, .int 0, .int 0, .int 0, .int 0, .int 0, .int 0, .null, .null, .null, .null, .null, .null, .null, .null])), (q_1, .inl (cy 0, 3, .inl ((upd ((upd ((upd ((fun _ => 0)) 0 6)) 1 3)) 2 2)))), (q_2, .inl (cy 0, 4, .inl ((fun _ => 0))))]) := hD
  refine va_putF (ci := 0) (v := .ref q_2) (ty := .array .int) (C := RX1) (T := TX1) (N := 16) hx hb hts hin_X1 tyX1 tyX1_ok nmX1 hown hK hP hD hS 0 rfl rfl 8 (by decide) (hts (.fieldLink RX1 15 "ButtonGuests$Hotel" "button" "[I") (by decide +kernel)) (fun _ h9 => h9) rfl hinit rfl (by decide +kernel) rfl rfl (Nat.le_of_ble_eq_true rfl) dX1_init_28 (fun H locs hP hD hS => ?_)
  have hP : va_P D vwCl ([(b, .inr (0, [.ref q_1, .int 0, .int 0, .int 0, .int 0, .int 0, .int 0, .int 0, .ref q_2, .null, .null, .null, .null, .null, .null, .null])), (q_1, .inl (cy 0, 3, .inl ((upd ((upd ((upd ((fun _ => 0)) 0 6)) 1 3)) 2 2)))), (q_2, .inl (cy 0, 4, .inl ((fun _ => 0))))]) H := hP
  have hD : va_D A ([(b, .inr (0, [.ref q_1, .int 0, .int 0, .int 0, .int 0, .int 0, .int 0, .int 0, .ref q_2, .null, .null, .null, .null, .null, .null, .null])), (q_1, .inl (cy 0, 3, .inl ((upd ((upd ((upd ((fun _ => 0)) 0 6)) 1 3)) 2 2)))), (q_2, .inl (cy 0, 4, .inl ((fun _ => 0))))]) := hD
  refine lv_aload_n hx hb dX1_init_31 rfl (lv_at hl 0 rfl) ?_
  refine lv_iconst (v := 4) hx hb dX1_init_32 (by decide) ?_
  refine zz_newa hx hb .int .int rfl (hts (.arrayClass .int) (by decide +kernel)) (fun _ _ => rfl) hK hP hD hS hA 0 rfl (a0 := (4, .inl (fun _ => 0))) (N' := 4) (fun _ => rfl) (by decide) (by decide) (Nat.le_of_ble_eq_true rfl) (Nat.le_of_ble_eq_true rfl) (Nat.le_of_ble_eq_true rfl) dX1_init_33 (fun q_3 H hP hD hS => ?_)
  have hP : va_P D vwCl ([(b, .inr (0, [.ref q_1, .int 0, .int 0, .int 0, .int 0, .int 0, .int 0, .int 0, .ref q_2, .null, .null, .null, .null, .null, .null, .null])), (q_1, .inl (cy 0, 3, .inl ((upd ((upd ((upd ((fun _ => 0)) 0 6)) 1 3)) 2 2)))), (q_2, .inl (cy 0, 4, .inl ((fun _ => 0)))), (q_3, .inl (cy 0, 4, .inl ((fun _ => 0))))]) H := hP
  have hD : va_D A ([(b, .inr (0, [.ref q_1, .int 0, .int 0, .int 0, .int 0, .int 0, .int 0, .int 0, .ref q_2, .null, .null, .null, .null, .null, .null, .null])), (q_1, .inl (cy 0, 3, .inl ((upd ((upd ((upd ((fun _ => 0)) 0 6)) 1 3)) 2 2)))), (q_2, .inl (cy 0, 4, .inl ((fun _ => 0)))), (q_3, .inl (cy 0, 4, .inl ((fun _ => 0))))]) := hD
  refine va_putF (ci := 0) (v := .ref q_3) (ty := .array .int) (C := RX1) (T := TX1) (N := 16) hx hb hts hin_X1 tyX1 tyX1_ok nmX1 hown hK hP hD hS 0 rfl rfl 9 (by decide) (hts (.fieldLink RX1 18 "ButtonGuests$Hotel" "waitingFloor" "[I") (by decide +kernel)) (fun _ h9 => h9) rfl hinit rfl (by decide +kernel) rfl rfl (Nat.le_of_ble_eq_true rfl) dX1_init_35 (fun H locs hP hD hS => ?_)
  have hP : va_P D vwCl ([(b, .inr (0, [.ref q_1, .int 0, .int 0, .int 0, .int 0, .int 0, .int 0, .int 0, .ref q_2, .ref q_3, .null, .null, .null, .null, .null, .null])), (q_1, .inl (cy 0, 3, .inl ((upd ((upd ((upd ((fun _ => 0)) 0 6)) 1 3)) 2 2)))), (q_2, .inl (cy 0, 4, .inl ((fun _ => 0)))), (q_3, .inl (cy 0, 4, .inl ((fun _ => 0))))]) H := hP
  have hD : va_D A ([(b, .inr (0, [.ref q_1, .int 0, .int 0, .int 0, .int 0, .int 0, .int 0, .int 0, .ref q_2, .ref q_3, .null, .null, .null, .null, .null, .null])), (q_1, .inl (cy 0, 3, .inl ((upd ((upd ((upd ((fun _ => 0)) 0 6)) 1 3)) 2 2)))), (q_2, .inl (cy 0, 4, .inl ((fun _ => 0)))), (q_3, .inl (cy 0, 4, .inl ((fun _ => 0))))]) := hD
  refine lv_aload_n hx hb dX1_init_38 rfl (lv_at hl 0 rfl) ?_
  refine lv_iconst (v := 4) hx hb dX1_init_39 (by decide) ?_
  refine zz_newa hx hb .int .int rfl (hts (.arrayClass .int) (by decide +kernel)) (fun _ _ => rfl) hK hP hD hS hA 0 rfl (a0 := (4, .inl (fun _ => 0))) (N' := 4) (fun _ => rfl) (by decide) (by decide) (Nat.le_of_ble_eq_true rfl) (Nat.le_of_ble_eq_true rfl) (Nat.le_of_ble_eq_true rfl) dX1_init_40 (fun q_4 H hP hD hS => ?_)
  have hP : va_P D vwCl ([(b, .inr (0, [.ref q_1, .int 0, .int 0, .int 0, .int 0, .int 0, .int 0, .int 0, .ref q_2, .ref q_3, .null, .null, .null, .null, .null, .null])), (q_1, .inl (cy 0, 3, .inl ((upd ((upd ((upd ((fun _ => 0)) 0 6)) 1 3)) 2 2)))), (q_2, .inl (cy 0, 4, .inl ((fun _ => 0)))), (q_3, .inl (cy 0, 4, .inl ((fun _ => 0)))), (q_4, .inl (cy 0, 4, .inl ((fun _ => 0))))]) H := hP
  have hD : va_D A ([(b, .inr (0, [.ref q_1, .int 0, .int 0, .int 0, .int 0, .int 0, .int 0, .int 0, .ref q_2, .ref q_3, .null, .null, .null, .null, .null, .null])), (q_1, .inl (cy 0, 3, .inl ((upd ((upd ((upd ((fun _ => 0)) 0 6)) 1 3)) 2 2)))), (q_2, .inl (cy 0, 4, .inl ((fun _ => 0)))), (q_3, .inl (cy 0, 4, .inl ((fun _ => 0)))), (q_4, .inl (cy 0, 4, .inl ((fun _ => 0))))]) := hD
  refine va_putF (ci := 0) (v := .ref q_4) (ty := .array .int) (C := RX1) (T := TX1) (N := 16) hx hb hts hin_X1 tyX1 tyX1_ok nmX1 hown hK hP hD hS 0 rfl rfl 10 (by decide) (hts (.fieldLink RX1 21 "ButtonGuests$Hotel" "home" "[I") (by decide +kernel)) (fun _ h9 => h9) rfl hinit rfl (by decide +kernel) rfl rfl (Nat.le_of_ble_eq_true rfl) dX1_init_42 (fun H locs hP hD hS => ?_)
  have hP : va_P D vwCl ([(b, .inr (0, [.ref q_1, .int 0, .int 0, .int 0, .int 0, .int 0, .int 0, .int 0, .ref q_2, .ref q_3, .ref q_4, .null, .null, .null, .null, .null])), (q_1, .inl (cy 0, 3, .inl ((upd ((upd ((upd ((fun _ => 0)) 0 6)) 1 3)) 2 2)))), (q_2, .inl (cy 0, 4, .inl ((fun _ => 0)))), (q_3, .inl (cy 0, 4, .inl ((fun _ => 0)))), (q_4, .inl (cy 0, 4, .inl ((fun _ => 0))))]) H := hP
  have hD : va_D A ([(b, .inr (0, [.ref q_1, .int 0, .int 0, .int 0, .int 0, .int 0, .int 0, .int 0, .ref q_2, .ref q_3, .ref q_4, .null, .null, .null, .null, .null])), (q_1, .inl (cy 0, 3, .inl ((upd ((upd ((upd ((fun _ => 0)) 0 6)) 1 3)) 2 2)))), (q_2, .inl (cy 0, 4, .inl ((fun _ => 0)))), (q_3, .inl (cy 0, 4, .inl ((fun _ => 0)))), (q_4, .inl (cy 0, 4, .inl ((fun _ => 0))))]) := hD
  refine lv_aload_n hx hb dX1_init_45 rfl (lv_at hl 0 rfl) ?_
  refine lv_iconst (v := 4) hx hb dX1_init_46 (by decide) ?_
  refine zz_newa hx hb .int .int rfl (hts (.arrayClass .int) (by decide +kernel)) (fun _ _ => rfl) hK hP hD hS hA 0 rfl (a0 := (4, .inl (fun _ => 0))) (N' := 4) (fun _ => rfl) (by decide) (by decide) (Nat.le_of_ble_eq_true rfl) (Nat.le_of_ble_eq_true rfl) (Nat.le_of_ble_eq_true rfl) dX1_init_47 (fun q_5 H hP hD hS => ?_)
  have hP : va_P D vwCl ([(b, .inr (0, [.ref q_1, .int 0, .int 0, .int 0, .int 0, .int 0, .int 0, .int 0, .ref q_2, .ref q_3, .ref q_4, .null, .null, .null, .null, .null])), (q_1, .inl (cy 0, 3, .inl ((upd ((upd ((upd ((fun _ => 0)) 0 6)) 1 3)) 2 2)))), (q_2, .inl (cy 0, 4, .inl ((fun _ => 0)))), (q_3, .inl (cy 0, 4, .inl ((fun _ => 0)))), (q_4, .inl (cy 0, 4, .inl ((fun _ => 0)))), (q_5, .inl (cy 0, 4, .inl ((fun _ => 0))))]) H := hP
  have hD : va_D A ([(b, .inr (0, [.ref q_1, .int 0, .int 0, .int 0, .int 0, .int 0, .int 0, .int 0, .ref q_2, .ref q_3, .ref q_4, .null, .null, .null, .null, .null])), (q_1, .inl (cy 0, 3, .inl ((upd ((upd ((upd ((fun _ => 0)) 0 6)) 1 3)) 2 2)))), (q_2, .inl (cy 0, 4, .inl ((fun _ => 0)))), (q_3, .inl (cy 0, 4, .inl ((fun _ => 0)))), (q_4, .inl (cy 0, 4, .inl ((fun _ => 0)))), (q_5, .inl (cy 0, 4, .inl ((fun _ => 0))))]) := hD
  refine va_putF (ci := 0) (v := .ref q_5) (ty := .array .int) (C := RX1) (T := TX1) (N := 16) hx hb hts hin_X1 tyX1 tyX1_ok nmX1 hown hK hP hD hS 0 rfl rfl 11 (by decide) (hts (.fieldLink RX1 24 "ButtonGuests$Hotel" "weight" "[I") (by decide +kernel)) (fun _ h9 => h9) rfl hinit rfl (by decide +kernel) rfl rfl (Nat.le_of_ble_eq_true rfl) dX1_init_49 (fun H locs hP hD hS => ?_)
  have hP : va_P D vwCl ([(b, .inr (0, [.ref q_1, .int 0, .int 0, .int 0, .int 0, .int 0, .int 0, .int 0, .ref q_2, .ref q_3, .ref q_4, .ref q_5, .null, .null, .null, .null])), (q_1, .inl (cy 0, 3, .inl ((upd ((upd ((upd ((fun _ => 0)) 0 6)) 1 3)) 2 2)))), (q_2, .inl (cy 0, 4, .inl ((fun _ => 0)))), (q_3, .inl (cy 0, 4, .inl ((fun _ => 0)))), (q_4, .inl (cy 0, 4, .inl ((fun _ => 0)))), (q_5, .inl (cy 0, 4, .inl ((fun _ => 0))))]) H := hP
  have hD : va_D A ([(b, .inr (0, [.ref q_1, .int 0, .int 0, .int 0, .int 0, .int 0, .int 0, .int 0, .ref q_2, .ref q_3, .ref q_4, .ref q_5, .null, .null, .null, .null])), (q_1, .inl (cy 0, 3, .inl ((upd ((upd ((upd ((fun _ => 0)) 0 6)) 1 3)) 2 2)))), (q_2, .inl (cy 0, 4, .inl ((fun _ => 0)))), (q_3, .inl (cy 0, 4, .inl ((fun _ => 0)))), (q_4, .inl (cy 0, 4, .inl ((fun _ => 0)))), (q_5, .inl (cy 0, 4, .inl ((fun _ => 0))))]) := hD
  refine lv_aload_n hx hb dX1_init_52 rfl (lv_at hl 0 rfl) ?_
  refine lv_iconst (v := 4) hx hb dX1_init_53 (by decide) ?_
  refine zz_newa hx hb .int .int rfl (hts (.arrayClass .int) (by decide +kernel)) (fun _ _ => rfl) hK hP hD hS hA 0 rfl (a0 := (4, .inl (fun _ => 0))) (N' := 4) (fun _ => rfl) (by decide) (by decide) (Nat.le_of_ble_eq_true rfl) (Nat.le_of_ble_eq_true rfl) (Nat.le_of_ble_eq_true rfl) dX1_init_54 (fun q_6 H hP hD hS => ?_)
  have hP : va_P D vwCl ([(b, .inr (0, [.ref q_1, .int 0, .int 0, .int 0, .int 0, .int 0, .int 0, .int 0, .ref q_2, .ref q_3, .ref q_4, .ref q_5, .null, .null, .null, .null])), (q_1, .inl (cy 0, 3, .inl ((upd ((upd ((upd ((fun _ => 0)) 0 6)) 1 3)) 2 2)))), (q_2, .inl (cy 0, 4, .inl ((fun _ => 0)))), (q_3, .inl (cy 0, 4, .inl ((fun _ => 0)))), (q_4, .inl (cy 0, 4, .inl ((fun _ => 0)))), (q_5, .inl (cy 0, 4, .inl ((fun _ => 0)))), (q_6, .inl (cy 0, 4, .inl ((fun _ => 0))))]) H := hP
  have hD : va_D A ([(b, .inr (0, [.ref q_1, .int 0, .int 0, .int 0, .int 0, .int 0, .int 0, .int 0, .ref q_2, .ref q_3, .ref q_4, .ref q_5, .null, .null, .null, .null])), (q_1, .inl (cy 0, 3, .inl ((upd ((upd ((upd ((fun _ => 0)) 0 6)) 1 3)) 2 2)))), (q_2, .inl (cy 0, 4, .inl ((fun _ => 0)))), (q_3, .inl (cy 0, 4, .inl ((fun _ => 0)))), (q_4, .inl (cy 0, 4, .inl ((fun _ => 0)))), (q_5, .inl (cy 0, 4, .inl ((fun _ => 0)))), (q_6, .inl (cy 0, 4, .inl ((fun _ => 0))))]) := hD
  refine va_putF (ci := 0) (v := .ref q_6) (ty := .array .int) (C := RX1) (T := TX1) (N := 16) hx hb hts hin_X1 tyX1 tyX1_ok nmX1 hown hK hP hD hS 0 rfl rfl 12 (by decide) (hts (.fieldLink RX1 27 "ButtonGuests$Hotel" "state" "[I") (by decide +kernel)) (fun _ h9 => h9) rfl hinit rfl (by decide +kernel) rfl rfl (Nat.le_of_ble_eq_true rfl) dX1_init_56 (fun H locs hP hD hS => ?_)
  have hP : va_P D vwCl ([(b, .inr (0, [.ref q_1, .int 0, .int 0, .int 0, .int 0, .int 0, .int 0, .int 0, .ref q_2, .ref q_3, .ref q_4, .ref q_5, .ref q_6, .null, .null, .null])), (q_1, .inl (cy 0, 3, .inl ((upd ((upd ((upd ((fun _ => 0)) 0 6)) 1 3)) 2 2)))), (q_2, .inl (cy 0, 4, .inl ((fun _ => 0)))), (q_3, .inl (cy 0, 4, .inl ((fun _ => 0)))), (q_4, .inl (cy 0, 4, .inl ((fun _ => 0)))), (q_5, .inl (cy 0, 4, .inl ((fun _ => 0)))), (q_6, .inl (cy 0, 4, .inl ((fun _ => 0))))]) H := hP
  have hD : va_D A ([(b, .inr (0, [.ref q_1, .int 0, .int 0, .int 0, .int 0, .int 0, .int 0, .int 0, .ref q_2, .ref q_3, .ref q_4, .ref q_5, .ref q_6, .null, .null, .null])), (q_1, .inl (cy 0, 3, .inl ((upd ((upd ((upd ((fun _ => 0)) 0 6)) 1 3)) 2 2)))), (q_2, .inl (cy 0, 4, .inl ((fun _ => 0)))), (q_3, .inl (cy 0, 4, .inl ((fun _ => 0)))), (q_4, .inl (cy 0, 4, .inl ((fun _ => 0)))), (q_5, .inl (cy 0, 4, .inl ((fun _ => 0)))), (q_6, .inl (cy 0, 4, .inl ((fun _ => 0))))]) := hD
  refine lv_aload_n hx hb dX1_init_59 rfl (lv_at hl 0 rfl) ?_
  refine lv_iconst (v := 4) hx hb dX1_init_60 (by decide) ?_
  refine zz_newa hx hb .int .int rfl (hts (.arrayClass .int) (by decide +kernel)) (fun _ _ => rfl) hK hP hD hS hA 0 rfl (a0 := (4, .inl (fun _ => 0))) (N' := 4) (fun _ => rfl) (by decide) (by decide) (Nat.le_of_ble_eq_true rfl) (Nat.le_of_ble_eq_true rfl) (Nat.le_of_ble_eq_true rfl) dX1_init_61 (fun q_7 H hP hD hS => ?_)
  have hP : va_P D vwCl ([(b, .inr (0, [.ref q_1, .int 0, .int 0, .int 0, .int 0, .int 0, .int 0, .int 0, .ref q_2, .ref q_3, .ref q_4, .ref q_5, .ref q_6, .null, .null, .null])), (q_1, .inl (cy 0, 3, .inl ((upd ((upd ((upd ((fun _ => 0)) 0 6)) 1 3)) 2 2)))), (q_2, .inl (cy 0, 4, .inl ((fun _ => 0)))), (q_3, .inl (cy 0, 4, .inl ((fun _ => 0)))), (q_4, .inl (cy 0, 4, .inl ((fun _ => 0)))), (q_5, .inl (cy 0, 4, .inl ((fun _ => 0)))), (q_6, .inl (cy 0, 4, .inl ((fun _ => 0)))), (q_7, .inl (cy 0, 4, .inl ((fun _ => 0))))]) H := hP
  have hD : va_D A ([(b, .inr (0, [.ref q_1, .int 0, .int 0, .int 0, .int 0, .int 0, .int 0, .int 0, .ref q_2, .ref q_3, .ref q_4, .ref q_5, .ref q_6, .null, .null, .null])), (q_1, .inl (cy 0, 3, .inl ((upd ((upd ((upd ((fun _ => 0)) 0 6)) 1 3)) 2 2)))), (q_2, .inl (cy 0, 4, .inl ((fun _ => 0)))), (q_3, .inl (cy 0, 4, .inl ((fun _ => 0)))), (q_4, .inl (cy 0, 4, .inl ((fun _ => 0)))), (q_5, .inl (cy 0, 4, .inl ((fun _ => 0)))), (q_6, .inl (cy 0, 4, .inl ((fun _ => 0)))), (q_7, .inl (cy 0, 4, .inl ((fun _ => 0))))]) := hD
  refine va_putF (ci := 0) (v := .ref q_7) (ty := .array .int) (C := RX1) (T := TX1) (N := 16) hx hb hts hin_X1 tyX1 tyX1_ok nmX1 hown hK hP hD hS 0 rfl rfl 13 (by decide) (hts (.fieldLink RX1 30 "ButtonGuests$Hotel" "grudges" "[I") (by decide +kernel)) (fun _ h9 => h9) rfl hinit rfl (by decide +kernel) rfl rfl (Nat.le_of_ble_eq_true rfl) dX1_init_63 (fun H locs hP hD hS => ?_)
  have hP : va_P D vwCl ([(b, .inr (0, [.ref q_1, .int 0, .int 0, .int 0, .int 0, .int 0, .int 0, .int 0, .ref q_2, .ref q_3, .ref q_4, .ref q_5, .ref q_6, .ref q_7, .null, .null])), (q_1, .inl (cy 0, 3, .inl ((upd ((upd ((upd ((fun _ => 0)) 0 6)) 1 3)) 2 2)))), (q_2, .inl (cy 0, 4, .inl ((fun _ => 0)))), (q_3, .inl (cy 0, 4, .inl ((fun _ => 0)))), (q_4, .inl (cy 0, 4, .inl ((fun _ => 0)))), (q_5, .inl (cy 0, 4, .inl ((fun _ => 0)))), (q_6, .inl (cy 0, 4, .inl ((fun _ => 0)))), (q_7, .inl (cy 0, 4, .inl ((fun _ => 0))))]) H := hP
  have hD : va_D A ([(b, .inr (0, [.ref q_1, .int 0, .int 0, .int 0, .int 0, .int 0, .int 0, .int 0, .ref q_2, .ref q_3, .ref q_4, .ref q_5, .ref q_6, .ref q_7, .null, .null])), (q_1, .inl (cy 0, 3, .inl ((upd ((upd ((upd ((fun _ => 0)) 0 6)) 1 3)) 2 2)))), (q_2, .inl (cy 0, 4, .inl ((fun _ => 0)))), (q_3, .inl (cy 0, 4, .inl ((fun _ => 0)))), (q_4, .inl (cy 0, 4, .inl ((fun _ => 0)))), (q_5, .inl (cy 0, 4, .inl ((fun _ => 0)))), (q_6, .inl (cy 0, 4, .inl ((fun _ => 0)))), (q_7, .inl (cy 0, 4, .inl ((fun _ => 0))))]) := hD
  refine lv_aload_n hx hb dX1_init_66 rfl (lv_at hl 0 rfl) ?_
  refine lv_iconst (v := 4) hx hb dX1_init_67 (by decide) ?_
  refine zz_newa hx hb .int .int rfl (hts (.arrayClass .int) (by decide +kernel)) (fun _ _ => rfl) hK hP hD hS hA 0 rfl (a0 := (4, .inl (fun _ => 0))) (N' := 4) (fun _ => rfl) (by decide) (by decide) (Nat.le_of_ble_eq_true rfl) (Nat.le_of_ble_eq_true rfl) (Nat.le_of_ble_eq_true rfl) dX1_init_68 (fun q_8 H hP hD hS => ?_)
  have hP : va_P D vwCl ([(b, .inr (0, [.ref q_1, .int 0, .int 0, .int 0, .int 0, .int 0, .int 0, .int 0, .ref q_2, .ref q_3, .ref q_4, .ref q_5, .ref q_6, .ref q_7, .null, .null])), (q_1, .inl (cy 0, 3, .inl ((upd ((upd ((upd ((fun _ => 0)) 0 6)) 1 3)) 2 2)))), (q_2, .inl (cy 0, 4, .inl ((fun _ => 0)))), (q_3, .inl (cy 0, 4, .inl ((fun _ => 0)))), (q_4, .inl (cy 0, 4, .inl ((fun _ => 0)))), (q_5, .inl (cy 0, 4, .inl ((fun _ => 0)))), (q_6, .inl (cy 0, 4, .inl ((fun _ => 0)))), (q_7, .inl (cy 0, 4, .inl ((fun _ => 0)))), (q_8, .inl (cy 0, 4, .inl ((fun _ => 0))))]) H := hP
  have hD : va_D A ([(b, .inr (0, [.ref q_1, .int 0, .int 0, .int 0, .int 0, .int 0, .int 0, .int 0, .ref q_2, .ref q_3, .ref q_4, .ref q_5, .ref q_6, .ref q_7, .null, .null])), (q_1, .inl (cy 0, 3, .inl ((upd ((upd ((upd ((fun _ => 0)) 0 6)) 1 3)) 2 2)))), (q_2, .inl (cy 0, 4, .inl ((fun _ => 0)))), (q_3, .inl (cy 0, 4, .inl ((fun _ => 0)))), (q_4, .inl (cy 0, 4, .inl ((fun _ => 0)))), (q_5, .inl (cy 0, 4, .inl ((fun _ => 0)))), (q_6, .inl (cy 0, 4, .inl ((fun _ => 0)))), (q_7, .inl (cy 0, 4, .inl ((fun _ => 0)))), (q_8, .inl (cy 0, 4, .inl ((fun _ => 0))))]) := hD
  refine va_putF (ci := 0) (v := .ref q_8) (ty := .array .int) (C := RX1) (T := TX1) (N := 16) hx hb hts hin_X1 tyX1 tyX1_ok nmX1 hown hK hP hD hS 0 rfl rfl 14 (by decide) (hts (.fieldLink RX1 33 "ButtonGuests$Hotel" "pressesOf" "[I") (by decide +kernel)) (fun _ h9 => h9) rfl hinit rfl (by decide +kernel) rfl rfl (Nat.le_of_ble_eq_true rfl) dX1_init_70 (fun H locs hP hD hS => ?_)
  have hP : va_P D vwCl ([(b, .inr (0, [.ref q_1, .int 0, .int 0, .int 0, .int 0, .int 0, .int 0, .int 0, .ref q_2, .ref q_3, .ref q_4, .ref q_5, .ref q_6, .ref q_7, .ref q_8, .null])), (q_1, .inl (cy 0, 3, .inl ((upd ((upd ((upd ((fun _ => 0)) 0 6)) 1 3)) 2 2)))), (q_2, .inl (cy 0, 4, .inl ((fun _ => 0)))), (q_3, .inl (cy 0, 4, .inl ((fun _ => 0)))), (q_4, .inl (cy 0, 4, .inl ((fun _ => 0)))), (q_5, .inl (cy 0, 4, .inl ((fun _ => 0)))), (q_6, .inl (cy 0, 4, .inl ((fun _ => 0)))), (q_7, .inl (cy 0, 4, .inl ((fun _ => 0)))), (q_8, .inl (cy 0, 4, .inl ((fun _ => 0))))]) H := hP
  have hD : va_D A ([(b, .inr (0, [.ref q_1, .int 0, .int 0, .int 0, .int 0, .int 0, .int 0, .int 0, .ref q_2, .ref q_3, .ref q_4, .ref q_5, .ref q_6, .ref q_7, .ref q_8, .null])), (q_1, .inl (cy 0, 3, .inl ((upd ((upd ((upd ((fun _ => 0)) 0 6)) 1 3)) 2 2)))), (q_2, .inl (cy 0, 4, .inl ((fun _ => 0)))), (q_3, .inl (cy 0, 4, .inl ((fun _ => 0)))), (q_4, .inl (cy 0, 4, .inl ((fun _ => 0)))), (q_5, .inl (cy 0, 4, .inl ((fun _ => 0)))), (q_6, .inl (cy 0, 4, .inl ((fun _ => 0)))), (q_7, .inl (cy 0, 4, .inl ((fun _ => 0)))), (q_8, .inl (cy 0, 4, .inl ((fun _ => 0))))]) := hD
  refine lv_aload_n hx hb dX1_init_73 rfl (lv_at hl 0 rfl) ?_
  refine lv_iconst (v := 4) hx hb dX1_init_74 (by decide) ?_
  refine zz_newa hx hb .int .int rfl (hts (.arrayClass .int) (by decide +kernel)) (fun _ _ => rfl) hK hP hD hS hA 0 rfl (a0 := (4, .inl (fun _ => 0))) (N' := 4) (fun _ => rfl) (by decide) (by decide) (Nat.le_of_ble_eq_true rfl) (Nat.le_of_ble_eq_true rfl) (Nat.le_of_ble_eq_true rfl) dX1_init_75 (fun q_9 H hP hD hS => ?_)
  have hP : va_P D vwCl ([(b, .inr (0, [.ref q_1, .int 0, .int 0, .int 0, .int 0, .int 0, .int 0, .int 0, .ref q_2, .ref q_3, .ref q_4, .ref q_5, .ref q_6, .ref q_7, .ref q_8, .null])), (q_1, .inl (cy 0, 3, .inl ((upd ((upd ((upd ((fun _ => 0)) 0 6)) 1 3)) 2 2)))), (q_2, .inl (cy 0, 4, .inl ((fun _ => 0)))), (q_3, .inl (cy 0, 4, .inl ((fun _ => 0)))), (q_4, .inl (cy 0, 4, .inl ((fun _ => 0)))), (q_5, .inl (cy 0, 4, .inl ((fun _ => 0)))), (q_6, .inl (cy 0, 4, .inl ((fun _ => 0)))), (q_7, .inl (cy 0, 4, .inl ((fun _ => 0)))), (q_8, .inl (cy 0, 4, .inl ((fun _ => 0)))), (q_9, .inl (cy 0, 4, .inl ((fun _ => 0))))]) H := hP
  have hD : va_D A ([(b, .inr (0, [.ref q_1, .int 0, .int 0, .int 0, .int 0, .int 0, .int 0, .int 0, .ref q_2, .ref q_3, .ref q_4, .ref q_5, .ref q_6, .ref q_7, .ref q_8, .null])), (q_1, .inl (cy 0, 3, .inl ((upd ((upd ((upd ((fun _ => 0)) 0 6)) 1 3)) 2 2)))), (q_2, .inl (cy 0, 4, .inl ((fun _ => 0)))), (q_3, .inl (cy 0, 4, .inl ((fun _ => 0)))), (q_4, .inl (cy 0, 4, .inl ((fun _ => 0)))), (q_5, .inl (cy 0, 4, .inl ((fun _ => 0)))), (q_6, .inl (cy 0, 4, .inl ((fun _ => 0)))), (q_7, .inl (cy 0, 4, .inl ((fun _ => 0)))), (q_8, .inl (cy 0, 4, .inl ((fun _ => 0)))), (q_9, .inl (cy 0, 4, .inl ((fun _ => 0))))]) := hD
  refine va_putF (ci := 0) (v := .ref q_9) (ty := .array .int) (C := RX1) (T := TX1) (N := 16) hx hb hts hin_X1 tyX1 tyX1_ok nmX1 hown hK hP hD hS 0 rfl rfl 15 (by decide) (hts (.fieldLink RX1 36 "ButtonGuests$Hotel" "ridden" "[I") (by decide +kernel)) (fun _ h9 => h9) rfl hinit rfl (by decide +kernel) rfl rfl (Nat.le_of_ble_eq_true rfl) dX1_init_77 (fun H locs hP hD hS => ?_)
  have hP : va_P D vwCl ([(b, .inr (0, [.ref q_1, .int 0, .int 0, .int 0, .int 0, .int 0, .int 0, .int 0, .ref q_2, .ref q_3, .ref q_4, .ref q_5, .ref q_6, .ref q_7, .ref q_8, .ref q_9])), (q_1, .inl (cy 0, 3, .inl ((upd ((upd ((upd ((fun _ => 0)) 0 6)) 1 3)) 2 2)))), (q_2, .inl (cy 0, 4, .inl ((fun _ => 0)))), (q_3, .inl (cy 0, 4, .inl ((fun _ => 0)))), (q_4, .inl (cy 0, 4, .inl ((fun _ => 0)))), (q_5, .inl (cy 0, 4, .inl ((fun _ => 0)))), (q_6, .inl (cy 0, 4, .inl ((fun _ => 0)))), (q_7, .inl (cy 0, 4, .inl ((fun _ => 0)))), (q_8, .inl (cy 0, 4, .inl ((fun _ => 0)))), (q_9, .inl (cy 0, 4, .inl ((fun _ => 0))))]) H := hP
  have hD : va_D A ([(b, .inr (0, [.ref q_1, .int 0, .int 0, .int 0, .int 0, .int 0, .int 0, .int 0, .ref q_2, .ref q_3, .ref q_4, .ref q_5, .ref q_6, .ref q_7, .ref q_8, .ref q_9])), (q_1, .inl (cy 0, 3, .inl ((upd ((upd ((upd ((fun _ => 0)) 0 6)) 1 3)) 2 2)))), (q_2, .inl (cy 0, 4, .inl ((fun _ => 0)))), (q_3, .inl (cy 0, 4, .inl ((fun _ => 0)))), (q_4, .inl (cy 0, 4, .inl ((fun _ => 0)))), (q_5, .inl (cy 0, 4, .inl ((fun _ => 0)))), (q_6, .inl (cy 0, 4, .inl ((fun _ => 0)))), (q_7, .inl (cy 0, 4, .inl ((fun _ => 0)))), (q_8, .inl (cy 0, 4, .inl ((fun _ => 0)))), (q_9, .inl (cy 0, 4, .inl ((fun _ => 0))))]) := hD
  exact hret _ _ H locs (fun k => [b, q_1, q_2, q_3, q_4, q_5, q_6, q_7, q_8, q_9].getD k 0) dX1_init_80 hP hD hS rfl
abbrev rm_X1_isSetting : Room := { frames := 0, cells := 0, slots := 0, locals := 0 }
set_option maxHeartbeats 4000000 in
set_option maxRecDepth 100000 in
theorem c_X1_isSetting (l : Launch) (D : va_G) (cy : Nat → ClassId) (v : Int32) : Met l yX1_isSetting wsX1_isSetting rm_X1_isSetting (rdX D cy [.int v] ([]) (Gs (fun _ => False))) (QcRead (zb (isG 3 v))) 0 0 (fun _ => False) := by
  refine MrdX (cc := cX1_isSetting) (maxL := 1) (ty := .boolean) (by decide) rfl (Nat.le_of_ble_eq_true rfl) zb_nar ?_
  intro p e s m args below meth c Q ls hX0 hF hK hP hl hret
  obtain ⟨t1, t2, ⟨z1, x1⟩, z2, x2⟩ := id hX0
  obtain ⟨hx, hb, hml, hown, hts⟩ := id hF
  have hown : s.vm.findClass RX1 = some m.cls := hown
  have hl : lv_has ls 1 [(0, .int v)] := hl
  refine lv_iload_n hx hb dX1_isSetting_0 rfl (lv_at hl 0 rfl) ?_
  refine lv_if_lt (tgt := 16) hx hb dX1_isSetting_1 (by decide) (fun c_1 => ?_) (fun c_1 => ?_)
  · have c_1 : v < 0 := c_1
    refine lv_iconst (v := 0) hx hb dX1_isSetting_16 (by decide) ?_
    exact zz_top (zb_f (fun q => q.1 c_1)) (hret _ _ dX1_isSetting_17)
  · have c_1 : ¬ v < 0 := c_1
    refine lv_iload_n hx hb dX1_isSetting_4 rfl (lv_at hl 0 rfl) ?_
    refine va_gets hx hb z1 va_S.rf hown (hts (.fieldLink RX1 39 "ButtonGuests$Hotel" "LEAST_VALUE" "[I") (by decide +kernel)) (fun _ h9 => h9) dX1_isSetting_5 ?_
    refine va_tlen hx hb x1 va_S.rf (v := 3) rfl dX1_isSetting_8 ?_
    refine lv_icmp_ge (tgt := 16) hx hb dX1_isSetting_9 (by decide) (fun c_2 => ?_) (fun c_2 => ?_)
    · have c_2 : 3 ≤ v := c_2
      refine lv_iconst (v := 0) hx hb dX1_isSetting_16 (by decide) ?_
      exact zz_top (zb_f (fun q => q.2 c_2)) (hret _ _ dX1_isSetting_17)
    · have c_2 : ¬ 3 ≤ v := c_2
      refine lv_iconst (v := 1) hx hb dX1_isSetting_12 (by decide) ?_
      refine lv_goto (tgt := 17) hx hb dX1_isSetting_13 (by decide) ?_
      exact zz_top (zb_t ⟨c_1, c_2⟩) (hret _ _ dX1_isSetting_17)
abbrev rm_X1_isSettingValue : Room := { frames := 1, cells := 0, slots := 0, locals := 20 }
set_option maxHeartbeats 4000000 in
set_option maxRecDepth 100000 in
theorem c_X1_isSettingValue (l : Launch) (D : va_G) (cy : Nat → ClassId) (w v : Int32) : Met l yX1_isSettingValue wsX1_isSettingValue rm_X1_isSettingValue (rdX D cy [.int w, .int v] ([]) (Gs (fun _ => False))) (QcRead (zb (okSV w v))) 0 0 (fun _ => False) := by
  refine MrdX (cc := cX1_isSettingValue) (maxL := 2) (ty := .boolean) (by decide) rfl (Nat.le_of_ble_eq_true rfl) zb_nar ?_
  intro p e s m args below meth c Q ls hX0 hF hK hP hl hret
  obtain ⟨t1, t2, ⟨z1, x1⟩, z2, x2⟩ := id hX0
  obtain ⟨hx, hb, hml, hown, hts⟩ := id hF
  have hown : s.vm.findClass RX1 = some m.cls := hown
  have hl : lv_has ls 2 [(0, .int w), (1, .int v)] := hl
  refine lv_iload_n hx hb dX1_isSettingValue_0 rfl (lv_at hl 0 rfl) ?_
  refine rd_SX (As := [.int w]) (rest := []) hF (c_X1_isSetting l D cy w) (va_cwS 1 hts gX1_isSettingValue_X1_isSetting rfl rfl rfl (by decide +kernel) ⟨Nat.le_of_ble_eq_true rfl, Nat.le_of_ble_eq_true rfl⟩) hK (fun k q h => by simp at h) Xok_s (fun U hU hW => Gs.at hX0 va_S.rf (fun _ h => h.elim) hU hW) rfl hl.1 rfl (Nat.le_of_ble_eq_true rfl) dX1_isSettingValue_1 ⟨Nat.le_of_ble_eq_true rfl, Nat.le_of_ble_eq_true rfl⟩ ?_
  refine lv_if_eq (tgt := 29) hx hb dX1_isSettingValue_4 (by decide) (fun c_1 => ?_) (fun c_1 => ?_)
  · have c_1 := zb_eq.mp c_1
    refine lv_iconst (v := 0) hx hb dX1_isSettingValue_29 (by decide) ?_
    exact zz_top (zb_f (fun q => c_1 q.1)) (hret _ _ dX1_isSettingValue_30)
  · have c_1 := zb_ne.mp c_1
    obtain ⟨jg, hjg, rfl⟩ := isG_of (n := 3) (by decide) c_1
    refine lv_iload_n hx hb dX1_isSettingValue_7 rfl (lv_at hl 1 rfl) ?_
    refine va_gets hx hb z1 va_S.rf hown (hts (.fieldLink RX1 39 "ButtonGuests$Hotel" "LEAST_VALUE" "[I") (by decide +kernel)) (fun _ h9 => h9) dX1_isSettingValue_8 ?_
    refine lv_iload_n hx hb dX1_isSettingValue_11 rfl (lv_at hl 0 rfl) ?_
    refine va_ti hx hb x1 va_S.rf (vp_in_nI (n := jg) (by omega) (by decide)) (v := .int (fLe jg)) (by rw [nI_clamp (by omega)]) dX1_isSettingValue_12 ?_
    refine lv_icmp_lt (tgt := 29) hx hb dX1_isSettingValue_13 (by decide) (fun c_2 => ?_) (fun c_2 => ?_)
    · have c_2 : v < (fLe jg) := c_2
      refine lv_iconst (v := 0) hx hb dX1_isSettingValue_29 (by decide) ?_
      exact zz_top (zb_f (fun q => by have q2 := q.2.1; rw [nI_clamp (show jg < 2 ^ 31 by omega)] at q2; exact q2 c_2)) (hret _ _ dX1_isSettingValue_30)
    · have c_2 : ¬ v < (fLe jg) := c_2
      refine lv_iload_n hx hb dX1_isSettingValue_16 rfl (lv_at hl 1 rfl) ?_
      refine va_gets hx hb z2 va_S.rf hown (hts (.fieldLink RX1 46 "ButtonGuests$Hotel" "GREATEST_VALUE" "[I") (by decide +kernel)) (fun _ h9 => h9) dX1_isSettingValue_17 ?_
      refine lv_iload_n hx hb dX1_isSettingValue_20 rfl (lv_at hl 0 rfl) ?_
      refine va_ti hx hb x2 va_S.rf (vp_in_nI (n := jg) (by omega) (by decide)) (v := .int (fGr jg)) (by rw [nI_clamp (by omega)]) dX1_isSettingValue_21 ?_
      refine lv_icmp_gt (tgt := 29) hx hb dX1_isSettingValue_22 (by decide) (fun c_3 => ?_) (fun c_3 => ?_)
      · have c_3 : (fGr jg) < v := c_3
        refine lv_iconst (v := 0) hx hb dX1_isSettingValue_29 (by decide) ?_
        exact zz_top (zb_f (fun q => by have q2 := q.2.2; rw [nI_clamp (show jg < 2 ^ 31 by omega)] at q2; exact q2 c_3)) (hret _ _ dX1_isSettingValue_30)
      · have c_3 : ¬ (fGr jg) < v := c_3
        refine lv_iconst (v := 1) hx hb dX1_isSettingValue_25 (by decide) ?_
        refine lv_goto (tgt := 30) hx hb dX1_isSettingValue_26 (by decide) ?_
        exact zz_top (zb_t ⟨c_1, by rw [nI_clamp (show jg < 2 ^ 31 by omega)]; exact c_2, by rw [nI_clamp (show jg < 2 ^ 31 by omega)]; exact c_3⟩) (hret _ _ dX1_isSettingValue_30)
abbrev rm_X1_settingOf : Room := { frames := 1, cells := 0, slots := 0, locals := 20 }
set_option maxHeartbeats 4000000 in
set_option maxRecDepth 100000 in
theorem c_X1_settingOf (l : Launch) (D : va_G) (cy : Nat → ClassId) (h : Nat → Nat) (x : HS) (w : Int32) : Met l yX1_settingOf wsX1_settingOf rm_X1_settingOf (rdX D cy [.ref (h 0), .int w] (hotelW cy h x) (Gs (fun _ => False))) (QcRead (hSgOf x w)) 0 0 (fun _ => False) := by
  refine MrdX (cc := cX1_settingOf) (maxL := 2) (ty := .int) (by decide) rfl (Nat.le_of_ble_eq_true rfl) rfl ?_
  intro p e s m args below meth c Q ls hX0 hF hK hP hl hret
  obtain ⟨t1, t2, ⟨z1, x1⟩, z2, x2⟩ := id hX0
  obtain ⟨hx, hb, hml, hown, hts⟩ := id hF
  have hown : s.vm.findClass RX1 = some m.cls := hown
  have hin_X1 : ∀ w ∈ u_ws RX1 TX1 16, w ∈ wsX1_settingOf := by decide +kernel
  have hl : lv_has ls 2 [(0, .ref (h 0)), (1, .int w)] := hl
  refine lv_iload_n hx hb dX1_settingOf_0 rfl (lv_at hl 1 rfl) ?_
  refine rd_SX (As := [.int w]) (rest := []) hF (c_X1_isSetting l D cy w) (va_cwS 1 hts gX1_settingOf_X1_isSetting rfl rfl rfl (by decide +kernel) ⟨Nat.le_of_ble_eq_true rfl, Nat.le_of_ble_eq_true rfl⟩) hK (fun k q h => by simp at h) Xok_s (fun U hU hW => Gs.at hX0 va_S.rf (fun _ h => h.elim) hU hW) rfl hl.1 rfl (Nat.le_of_ble_eq_true rfl) dX1_settingOf_1 ⟨Nat.le_of_ble_eq_true rfl, Nat.le_of_ble_eq_true rfl⟩ ?_
  refine lv_if_eq (tgt := 16) hx hb dX1_settingOf_4 (by decide) (fun c_1 => ?_) (fun c_1 => ?_)
  · have c_1 := zb_eq.mp c_1
    refine lv_iconst (v := (-1)) hx hb dX1_settingOf_16 (by decide) ?_
    exact zz_top (by simp only [hSgOf, if_neg c_1]) (hret _ _ dX1_settingOf_17)
  · have c_1 := zb_ne.mp c_1
    obtain ⟨jg, hjg, rfl⟩ := isG_of (n := 3) (by decide) c_1
    refine lv_aload_n hx hb dX1_settingOf_7 rfl (lv_at hl 0 rfl) ?_
    refine va_get (ci := 0) (v := .ref (h 1)) (C := RX1) (T := TX1) (N := 16) hx hb hts hin_X1 hown hK hP 0 rfl rfl 0 (by decide) (hts (.fieldLink RX1 9 "ButtonGuests$Hotel" "settings" "[I") (by decide +kernel)) (fun _ h9 => h9) rfl dX1_settingOf_8 ?_
    refine lv_iload_n hx hb dX1_settingOf_11 rfl (lv_at hl 1 rfl) ?_
    refine zz_iald hx hb hK hP 1 0 jg rfl rfl rfl ⟨by omega, Nat.le_of_ble_eq_true rfl⟩ dX1_settingOf_12 ?_
    refine lv_goto (tgt := 17) hx hb dX1_settingOf_13 (by decide) ?_
    exact zz_top (by simp only [hSgOf, if_pos c_1, nI_clamp (show jg < 2 ^ 31 by omega)]) (hret _ _ dX1_settingOf_17)
abbrev rm_X1_change : Room := { frames := 2, cells := 0, slots := 0, locals := 41 }
set_option maxHeartbeats 4000000 in
set_option maxRecDepth 100000 in
theorem c_X1_change (l : Launch) (D : va_G) (cy : Nat → ClassId) (h : Nat → Nat) (x : HS) (w v : Int32) (sz : Nat) : Met l yX1_change wsX1_change rm_X1_change (wrX D cy [.ref (h 0), .int w, .int v] (hotelW cy h x) sz (Gs (va_A (hotelW cy h x) sz))) (va_Qi (fun (r : Int32) (u : HS) => r = hSetR x w v ∧ u = hSet w v x) (wrB D (va_A (hotelW cy h x) sz) (fun u => hotelW cy h u)) (va_A (hotelW cy h x) sz)) 0 0 (va_A (hotelW cy h x) sz) := by
  refine MwiX (cc := cX1_change) (maxL := 4) (ty := .int) (by decide) rfl (Nat.le_of_ble_eq_true rfl) (fun _ _ _ => rfl) ?_
  intro p e s m args below meth c Q ls A hAe hsz hX0 hF hK hP hD hA hl hret
  rw [← hsz, ← hAe] at hX0
  obtain ⟨t1, t2, ⟨z1, x1⟩, z2, x2⟩ := id hX0
  obtain ⟨hx, hb, hml, hown, hts⟩ := id hF
  have hown : s.vm.findClass RX1 = some m.cls := hown
  have hin_X1 : ∀ w ∈ u_ws RX1 TX1 16, w ∈ wsX1_change := by decide +kernel
  have hl : lv_has ls 4 [(0, .ref (h 0)), (1, .int w), (2, .int v)] := hl
  suffices key : ∀ (H : Heap) (locs : List Loc), va_P D vwCl (hotelW cy h x) H → va_D A (hotelW cy h x) → va_S A s.heap H locs → W p l e rm_X1_change s m args below meth c H locs 0 0 Q (F0 m 0 ls []) from key s.heap [] hP hD va_S.rf
  intro H locs hP hD hS
  refine lv_iload_n hx hb dX1_change_0 rfl (lv_at hl 1 rfl) ?_
  refine lv_iload_n hx hb dX1_change_1 rfl (lv_at hl 2 rfl) ?_
  refine rd_SX (As := [.int w, .int v]) (rest := []) hF (c_X1_isSettingValue l D cy w v) (va_cwS 2 hts gX1_change_X1_isSettingValue rfl rfl rfl (by decide +kernel) ⟨Nat.le_of_ble_eq_true rfl, Nat.le_of_ble_eq_true rfl⟩) hK (fun k q h => by simp at h) Xok_s (fun U hU hW => Gs.at hX0 hS (fun _ h => h.elim) hU hW) rfl hl.1 rfl (Nat.le_of_ble_eq_true rfl) dX1_change_2 ⟨Nat.le_of_ble_eq_true rfl, Nat.le_of_ble_eq_true rfl⟩ ?_
  refine lv_if_ne (tgt := 10) hx hb dX1_change_5 (by decide) (fun c_1 => ?_) (fun c_1 => ?_)
  · have c_1 := zb_ne.mp c_1
    obtain ⟨jg, hjg, rfl⟩ := isG_of (n := 3) (by decide) c_1.1
    refine lv_aload_n hx hb dX1_change_10 rfl (lv_at hl 0 rfl) ?_
    refine va_get (ci := 0) (v := .ref (h 1)) (C := RX1) (T := TX1) (N := 16) hx hb hts hin_X1 hown hK hP 0 rfl rfl 0 (by decide) (hts (.fieldLink RX1 9 "ButtonGuests$Hotel" "settings" "[I") (by decide +kernel)) (fun _ h9 => h9) rfl dX1_change_11 ?_
    refine lv_iload_n hx hb dX1_change_14 rfl (lv_at hl 1 rfl) ?_
    refine zz_iald hx hb hK hP 1 0 jg rfl rfl rfl ⟨by omega, Nat.le_of_ble_eq_true rfl⟩ dX1_change_15 ?_
    refine lv_istore_n (lv' := [(3, .int (x.2.1 jg)), (0, .ref (h 0)), (1, .int (nI jg)), (2, .int v)]) hx hb dX1_change_16 rfl hl (by decide) rfl (fun ls hl => ?_)
    refine lv_aload_n hx hb dX1_change_17 rfl (lv_at hl 1 rfl) ?_
    refine va_get (ci := 0) (v := .ref (h 1)) (C := RX1) (T := TX1) (N := 16) hx hb hts hin_X1 hown hK hP 0 rfl rfl 0 (by decide) (hts (.fieldLink RX1 9 "ButtonGuests$Hotel" "settings" "[I") (by decide +kernel)) (fun _ h9 => h9) rfl dX1_change_18 ?_
    refine lv_iload_n hx hb dX1_change_21 rfl (lv_at hl 2 rfl) ?_
    refine lv_iload_n hx hb dX1_change_22 rfl (lv_at hl 3 rfl) ?_
    refine zz_iast hx hb hK hP hD hS 1 0 jg rfl rfl rfl ⟨by omega, Nat.le_of_ble_eq_true rfl⟩ dX1_change_23 (fun H locs hP hD hS => ?_)
    have hP : va_P D vwCl (hotelW cy h ((x.1.1, x.1.2.1, x.1.2.2.1, x.1.2.2.2.1, x.1.2.2.2.2.1, x.1.2.2.2.2.2.1, x.1.2.2.2.2.2.2), ((upd x.2.1 jg v), x.2.2.1, x.2.2.2.1, x.2.2.2.2.1, x.2.2.2.2.2.1, x.2.2.2.2.2.2.1, x.2.2.2.2.2.2.2.1, x.2.2.2.2.2.2.2.2.1, x.2.2.2.2.2.2.2.2.2))) H := hP
    have hD : va_D A (hotelW cy h ((x.1.1, x.1.2.1, x.1.2.2.1, x.1.2.2.2.1, x.1.2.2.2.2.1, x.1.2.2.2.2.2.1, x.1.2.2.2.2.2.2), ((upd x.2.1 jg v), x.2.2.1, x.2.2.2.1, x.2.2.2.2.1, x.2.2.2.2.2.1, x.2.2.2.2.2.2.1, x.2.2.2.2.2.2.2.1, x.2.2.2.2.2.2.2.2.1, x.2.2.2.2.2.2.2.2.2))) := hD
    refine lv_iload_n hx hb dX1_change_24 rfl (lv_at hl 0 rfl) ?_
    exact hret _ _ H locs _ (mSetS jg v x) dX1_change_25 hP hD hS ⟨by simp only [hSetR, if_pos c_1, nI_clamp (show jg < 2 ^ 31 by omega)], by simp only [hSet, if_pos c_1, nI_clamp (show jg < 2 ^ 31 by omega)]⟩
  · have c_1 := zb_eq.mp c_1
    refine lv_iconst (v := (-1)) hx hb dX1_change_8 (by decide) ?_
    exact hret _ _ H locs _ x dX1_change_9 hP hD hS ⟨by simp only [hSetR, if_neg c_1], by simp only [hSet, if_neg c_1]⟩
