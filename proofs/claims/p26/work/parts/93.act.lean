abbrev rm_L_act : Room := { frames := 14, cells := 40, slots := 250, locals := 317 }
set_option maxHeartbeats 4000000 in
set_option maxRecDepth 100000 in
/-- one act of the law -/
theorem c_L_act (l : Launch) (D : va_G) (cy : Nat → ClassId) (hl0 : l.stackTraces = false) (a : AD) (v : AV) (u : BS) (B k : Nat) (hB : B ≤ 1000) (hk9 : k < 2 ^ 31) (hI : Inv B v) (hR : Rep v u) (sz : Nat) : aMet l yL_act wsL_act rm_L_act D cy a [.int (nI k)] u sz (fun (r : Int32) (w : BS) => r = (aAct v k).1 ∧ Rep (aAct v k).2 w) 40 250 := by
  refine MwiX (cc := cL_act) (maxL := 4) (ty := .int) (by decide) rfl (Nat.le_of_ble_eq_true rfl) (fun _ _ _ => rfl) ?_
  intro p e s m args below meth c Q ls A hAe hsz hX0 hF hK hP hD hA hl hret
  rw [← hsz, ← hAe] at hX0
  have hX : Gl A s := hX0
  obtain ⟨hx9, hb, hml, hown, hts⟩ := id hF
  have hown : s.vm.findClass RL = some m.cls := hown
  have hl : lv_has ls 4 [(0, .ref (aO a)), (1, .int (nI k))] := hl
  have hret : ∀ (pc : Nat) (ls : Array Slot) (H : Heap) (locs : List Loc) (r : Int32) (u : BS), decode cL_act pc = .ok (.ireturn, 1) → va_P D vwCl (gW cy a u) H → va_D A (gW cy a u) → va_S A s.heap H locs → (fun (r : Int32) (w : BS) => r = (aAct v k).1 ∧ Rep (aAct v k).2 w) r u → W p l e rm_L_act s m args below meth c H locs 40 250 Q (F0 m pc ls [.int r]) := hret
  obtain ⟨n, hn1, hx⟩ := hI.1
  have hO := hI.Ok
  obtain ⟨hn, hgu, hok⟩ := hx.ok
  obtain ⟨p9, r9, ep, er, hpr, ec⟩ := cnt_of hx
  have ec := ec (by omega)
  suffices key : ∀ (H : Heap) (locs : List Loc), va_P D vwCl (gW cy a u) H → va_D A (gW cy a u) → va_S A s.heap H locs → W p l e rm_L_act s m args below meth c H locs 0 0 Q (F0 m 0 ls []) from key s.heap [] hP hD va_S.rf
  intro H locs hP hD hS
  refine lv_iload_n hx9 hb dL_act_0 rfl (lv_at hl 1 rfl) ?_
  refine lv_bipush (v := 16) hx9 hb dL_act_1 (by decide) ?_
  refine lv_idiv hx9 hb dL_act_3 (by decide) ?_
  refine zz_top (y := nI (k / 16)) (pk_div (d := 16) (by omega) (by decide) (by decide)) ?_
  refine lv_istore_n (lv' := [(2, .int (nI (k / 16))), (0, .ref (aO a)), (1, .int (nI k))]) hx9 hb dL_act_4 rfl hl (by decide) rfl (fun ls hl => ?_)
  refine lv_aload_n hx9 hb dL_act_5 rfl (lv_at hl 1 rfl) ?_
  refine lv_iconst (v := 2) hx9 hb dL_act_6 (by decide) ?_
  refine lv_iconst (v := 0) hx9 hb dL_act_7 (by decide) ?_
  refine lv_iconst (v := 0) hx9 hb dL_act_8 (by decide) ?_
  refine lv_iconst (v := 0) hx9 hb dL_act_9 (by decide) ?_
  refine wr_i (fun w9 : BS => gW cy a w9) (va_runS (As := [.ref (aO a), .int 2, .int 0, .int 0, .int 0]) (rest := []) hF (c_L_call_2 l D cy hl0 a v u hO hR 0 0 0 H.size) (va_cwS 5 hts gL_act_L_call rfl rfl rfl (by decide +kernel) ⟨Nat.le_of_ble_eq_true rfl, Nat.le_of_ble_eq_true rfl⟩) (wrX_preS hK hP hD (zz_all _) Xok_l (fun U hU hW => Gl.at hX hS (zz_free hD (zz_all _) hS hA) hU hW)) rfl rfl hl.1 rfl (lv_room (Nat.le_of_ble_eq_true rfl)) dL_act_10 ⟨Nat.le_of_ble_eq_true rfl, Nat.le_of_ble_eq_true rfl⟩) hP hD hS hA (zz_all _) (fun _ => zz_all _) (fun r_1 u_2 H locs e_3 hP hD hS => ?_)
  obtain ⟨x_5, hR_4⟩ : r_1 = nI n ∧ Rep v u_2 := by rw [qAb_0 hx] at e_3; exact e_3
  subst x_5
  have hP : va_P D vwCl (gW cy a u_2) H := hP
  have hD : va_D A (gW cy a u_2) := hD
  refine lv_istore_n (lv' := [(3, .int (nI n)), (2, .int (nI (k / 16))), (0, .ref (aO a)), (1, .int (nI k))]) hx9 hb dL_act_13 rfl hl (by decide) rfl (fun ls hl => ?_)
  refine lv_iload_n hx9 hb dL_act_14 rfl (lv_at hl 3 rfl) ?_
  refine lv_bipush (v := 16) hx9 hb dL_act_15 (by decide) ?_
  refine lv_irem hx9 hb dL_act_17 (by decide) ?_
  refine zz_top (y := nI (k % 16)) (pk_rem (d := 16) (by omega) (by decide) (by decide)) ?_
  by_cases c_6 : nI (k % 16) = 0
  · refine lv_tableIn (off := 50) (tgt := 68) hx9 hb dL_act_18 (by rw [c_6]; decide) (by rw [c_6]; decide) (by rw [c_6]; rfl) (by decide) ?_
    have hk : k % 16 = 0 := (nI_eq (a := k % 16) (b := 0) (by omega) (by omega)).mp c_6
    refine lv_aload_n hx9 hb dL_act_68 rfl (lv_at hl 2 rfl) ?_
    refine lv_iload_n hx9 hb dL_act_69 rfl (lv_at hl 1 rfl) ?_
    refine lv_bipush (v := 7) hx9 hb dL_act_70 (by decide) ?_
    refine lv_irem hx9 hb dL_act_72 (by decide) ?_
    refine zz_top (y := nI ((k / 16) % 7)) (pk_rem (d := 7) (by omega) (by decide) (by decide)) ?_
    refine lv_iload_n hx9 hb dL_act_73 rfl (lv_at hl 1 rfl) ?_
    refine lv_bipush (v := 7) hx9 hb dL_act_74 (by decide) ?_
    refine lv_idiv hx9 hb dL_act_76 (by decide) ?_
    refine zz_top (y := nI ((k / 16) / 7)) (pk_div (d := 7) (by omega) (by decide) (by decide)) ?_
    refine lv_bipush (v := 7) hx9 hb dL_act_77 (by decide) ?_
    refine lv_irem hx9 hb dL_act_79 (by decide) ?_
    refine zz_top (y := nI (((k / 16) / 7) % 7)) (pk_rem (d := 7) (by omega) (by decide) (by decide)) ?_
    refine lv_iload_n hx9 hb dL_act_80 rfl (lv_at hl 1 rfl) ?_
    refine lv_bipush (v := 49) hx9 hb dL_act_81 (by decide) ?_
    refine lv_idiv hx9 hb dL_act_83 (by decide) ?_
    refine zz_top (y := nI ((k / 16) / 49)) (pk_div (d := 49) (by omega) (by decide) (by decide)) ?_
    refine lv_bipush (v := 7) hx9 hb dL_act_84 (by decide) ?_
    refine lv_irem hx9 hb dL_act_86 (by decide) ?_
    refine zz_top (y := nI (((k / 16) / 49) % 7)) (pk_rem (d := 7) (by omega) (by decide) (by decide)) ?_
    refine lv_iconst (v := 1) hx9 hb dL_act_87 (by decide) ?_
    refine lv_iload_n hx9 hb dL_act_88 rfl (lv_at hl 1 rfl) ?_
    refine lv_sipush (v := 343) hx9 hb dL_act_89 (by decide) ?_
    refine lv_idiv hx9 hb dL_act_92 (by decide) ?_
    refine zz_top (y := nI ((k / 16) / 343)) (pk_div (d := 343) (by omega) (by decide) (by decide)) ?_
    refine lv_iconst (v := 4) hx9 hb dL_act_93 (by decide) ?_
    refine lv_irem hx9 hb dL_act_94 (by decide) ?_
    refine zz_top (y := nI (((k / 16) / 343) % 4)) (pk_rem (d := 4) (by omega) (by decide) (by decide)) ?_
    refine lv_iadd hx9 hb dL_act_95 ?_
    refine zz_top (y := nI (1 + (((k / 16) / 343) % 4))) (nI_add _ _) ?_
    refine wr_i (fun w9 : BS => gW cy a w9) (vx_runSW (As := [.ref (aO a), .int (nI ((k / 16) % 7)), .int (nI (((k / 16) / 7) % 7)), .int (nI (((k / 16) / 49) % 7)), .int (nI (1 + (((k / 16) / 343) % 4)))]) (rest := []) hF (c_L_comes l D cy hl0 a v u_2 hO hR_4 (nI ((k / 16) % 7)) (nI (((k / 16) / 7) % 7)) (nI (((k / 16) / 49) % 7)) (nI (1 + (((k / 16) / 343) % 4))) H.size) (vx_cwSW 5 hts gL_act_L_comes rfl rfl rfl (by decide +kernel) ⟨Nat.le_of_ble_eq_true rfl, Nat.le_of_ble_eq_true rfl⟩) (wrX_preS hK hP hD (zz_all _) Xok_l (fun U hU hW => Gl.at hX hS (zz_free hD (zz_all _) hS hA) hU hW)) rfl rfl hl.1 rfl (lv_room (Nat.le_of_ble_eq_true rfl)) dL_act_96 ⟨Nat.le_of_ble_eq_true rfl, Nat.le_of_ble_eq_true rfl⟩) hP hD hS hA (zz_all _) (fun _ => zz_all _) (fun r_7 u_8 H locs e_9 hP hD hS => ?_)
    obtain ⟨x_11, hR_10⟩ : r_7 = (aCome v (nI ((k / 16) % 7)) (nI (((k / 16) / 7) % 7)) (nI (((k / 16) / 49) % 7)) (nI (1 + (((k / 16) / 343) % 4)))).1 ∧ Rep ((aCome v (nI ((k / 16) % 7)) (nI (((k / 16) / 7) % 7)) (nI (((k / 16) / 49) % 7)) (nI (1 + (((k / 16) / 343) % 4)))).2) u_8 := by exact e_9
    subst x_11
    have hP : va_P D vwCl (gW cy a u_8) H := hP
    have hD : va_D A (gW cy a u_8) := hD
    refine W.widen (k := 40) (n := 250) (by omega) (by omega) ?_
    exact hret _ _ H locs _ u_8 dL_act_99 hP hD hS (by rw [act_012 (show k % 16 < 3 by omega)]; exact ⟨rfl, hR_10⟩)
  by_cases c_12 : nI (k % 16) = 1
  · refine lv_tableIn (off := 50) (tgt := 68) hx9 hb dL_act_18 (by rw [c_12]; decide) (by rw [c_12]; decide) (by rw [c_12]; rfl) (by decide) ?_
    have hk : k % 16 = 1 := (nI_eq (a := k % 16) (b := 1) (by omega) (by omega)).mp c_12
    refine lv_aload_n hx9 hb dL_act_68 rfl (lv_at hl 2 rfl) ?_
    refine lv_iload_n hx9 hb dL_act_69 rfl (lv_at hl 1 rfl) ?_
    refine lv_bipush (v := 7) hx9 hb dL_act_70 (by decide) ?_
    refine lv_irem hx9 hb dL_act_72 (by decide) ?_
    refine zz_top (y := nI ((k / 16) % 7)) (pk_rem (d := 7) (by omega) (by decide) (by decide)) ?_
    refine lv_iload_n hx9 hb dL_act_73 rfl (lv_at hl 1 rfl) ?_
    refine lv_bipush (v := 7) hx9 hb dL_act_74 (by decide) ?_
    refine lv_idiv hx9 hb dL_act_76 (by decide) ?_
    refine zz_top (y := nI ((k / 16) / 7)) (pk_div (d := 7) (by omega) (by decide) (by decide)) ?_
    refine lv_bipush (v := 7) hx9 hb dL_act_77 (by decide) ?_
    refine lv_irem hx9 hb dL_act_79 (by decide) ?_
    refine zz_top (y := nI (((k / 16) / 7) % 7)) (pk_rem (d := 7) (by omega) (by decide) (by decide)) ?_
    refine lv_iload_n hx9 hb dL_act_80 rfl (lv_at hl 1 rfl) ?_
    refine lv_bipush (v := 49) hx9 hb dL_act_81 (by decide) ?_
    refine lv_idiv hx9 hb dL_act_83 (by decide) ?_
    refine zz_top (y := nI ((k / 16) / 49)) (pk_div (d := 49) (by omega) (by decide) (by decide)) ?_
    refine lv_bipush (v := 7) hx9 hb dL_act_84 (by decide) ?_
    refine lv_irem hx9 hb dL_act_86 (by decide) ?_
    refine zz_top (y := nI (((k / 16) / 49) % 7)) (pk_rem (d := 7) (by omega) (by decide) (by decide)) ?_
    refine lv_iconst (v := 1) hx9 hb dL_act_87 (by decide) ?_
    refine lv_iload_n hx9 hb dL_act_88 rfl (lv_at hl 1 rfl) ?_
    refine lv_sipush (v := 343) hx9 hb dL_act_89 (by decide) ?_
    refine lv_idiv hx9 hb dL_act_92 (by decide) ?_
    refine zz_top (y := nI ((k / 16) / 343)) (pk_div (d := 343) (by omega) (by decide) (by decide)) ?_
    refine lv_iconst (v := 4) hx9 hb dL_act_93 (by decide) ?_
    refine lv_irem hx9 hb dL_act_94 (by decide) ?_
    refine zz_top (y := nI (((k / 16) / 343) % 4)) (pk_rem (d := 4) (by omega) (by decide) (by decide)) ?_
    refine lv_iadd hx9 hb dL_act_95 ?_
    refine zz_top (y := nI (1 + (((k / 16) / 343) % 4))) (nI_add _ _) ?_
    refine wr_i (fun w9 : BS => gW cy a w9) (vx_runSW (As := [.ref (aO a), .int (nI ((k / 16) % 7)), .int (nI (((k / 16) / 7) % 7)), .int (nI (((k / 16) / 49) % 7)), .int (nI (1 + (((k / 16) / 343) % 4)))]) (rest := []) hF (c_L_comes l D cy hl0 a v u_2 hO hR_4 (nI ((k / 16) % 7)) (nI (((k / 16) / 7) % 7)) (nI (((k / 16) / 49) % 7)) (nI (1 + (((k / 16) / 343) % 4))) H.size) (vx_cwSW 5 hts gL_act_L_comes rfl rfl rfl (by decide +kernel) ⟨Nat.le_of_ble_eq_true rfl, Nat.le_of_ble_eq_true rfl⟩) (wrX_preS hK hP hD (zz_all _) Xok_l (fun U hU hW => Gl.at hX hS (zz_free hD (zz_all _) hS hA) hU hW)) rfl rfl hl.1 rfl (lv_room (Nat.le_of_ble_eq_true rfl)) dL_act_96 ⟨Nat.le_of_ble_eq_true rfl, Nat.le_of_ble_eq_true rfl⟩) hP hD hS hA (zz_all _) (fun _ => zz_all _) (fun r_13 u_14 H locs e_15 hP hD hS => ?_)
    obtain ⟨x_17, hR_16⟩ : r_13 = (aCome v (nI ((k / 16) % 7)) (nI (((k / 16) / 7) % 7)) (nI (((k / 16) / 49) % 7)) (nI (1 + (((k / 16) / 343) % 4)))).1 ∧ Rep ((aCome v (nI ((k / 16) % 7)) (nI (((k / 16) / 7) % 7)) (nI (((k / 16) / 49) % 7)) (nI (1 + (((k / 16) / 343) % 4)))).2) u_14 := by exact e_15
    subst x_17
    have hP : va_P D vwCl (gW cy a u_14) H := hP
    have hD : va_D A (gW cy a u_14) := hD
    refine W.widen (k := 40) (n := 250) (by omega) (by omega) ?_
    exact hret _ _ H locs _ u_14 dL_act_99 hP hD hS (by rw [act_012 (show k % 16 < 3 by omega)]; exact ⟨rfl, hR_16⟩)
  by_cases c_18 : nI (k % 16) = 2
  · refine lv_tableIn (off := 50) (tgt := 68) hx9 hb dL_act_18 (by rw [c_18]; decide) (by rw [c_18]; decide) (by rw [c_18]; rfl) (by decide) ?_
    have hk : k % 16 = 2 := (nI_eq (a := k % 16) (b := 2) (by omega) (by omega)).mp c_18
    refine lv_aload_n hx9 hb dL_act_68 rfl (lv_at hl 2 rfl) ?_
    refine lv_iload_n hx9 hb dL_act_69 rfl (lv_at hl 1 rfl) ?_
    refine lv_bipush (v := 7) hx9 hb dL_act_70 (by decide) ?_
    refine lv_irem hx9 hb dL_act_72 (by decide) ?_
    refine zz_top (y := nI ((k / 16) % 7)) (pk_rem (d := 7) (by omega) (by decide) (by decide)) ?_
    refine lv_iload_n hx9 hb dL_act_73 rfl (lv_at hl 1 rfl) ?_
    refine lv_bipush (v := 7) hx9 hb dL_act_74 (by decide) ?_
    refine lv_idiv hx9 hb dL_act_76 (by decide) ?_
    refine zz_top (y := nI ((k / 16) / 7)) (pk_div (d := 7) (by omega) (by decide) (by decide)) ?_
    refine lv_bipush (v := 7) hx9 hb dL_act_77 (by decide) ?_
    refine lv_irem hx9 hb dL_act_79 (by decide) ?_
    refine zz_top (y := nI (((k / 16) / 7) % 7)) (pk_rem (d := 7) (by omega) (by decide) (by decide)) ?_
    refine lv_iload_n hx9 hb dL_act_80 rfl (lv_at hl 1 rfl) ?_
    refine lv_bipush (v := 49) hx9 hb dL_act_81 (by decide) ?_
    refine lv_idiv hx9 hb dL_act_83 (by decide) ?_
    refine zz_top (y := nI ((k / 16) / 49)) (pk_div (d := 49) (by omega) (by decide) (by decide)) ?_
    refine lv_bipush (v := 7) hx9 hb dL_act_84 (by decide) ?_
    refine lv_irem hx9 hb dL_act_86 (by decide) ?_
    refine zz_top (y := nI (((k / 16) / 49) % 7)) (pk_rem (d := 7) (by omega) (by decide) (by decide)) ?_
    refine lv_iconst (v := 1) hx9 hb dL_act_87 (by decide) ?_
    refine lv_iload_n hx9 hb dL_act_88 rfl (lv_at hl 1 rfl) ?_
    refine lv_sipush (v := 343) hx9 hb dL_act_89 (by decide) ?_
    refine lv_idiv hx9 hb dL_act_92 (by decide) ?_
    refine zz_top (y := nI ((k / 16) / 343)) (pk_div (d := 343) (by omega) (by decide) (by decide)) ?_
    refine lv_iconst (v := 4) hx9 hb dL_act_93 (by decide) ?_
    refine lv_irem hx9 hb dL_act_94 (by decide) ?_
    refine zz_top (y := nI (((k / 16) / 343) % 4)) (pk_rem (d := 4) (by omega) (by decide) (by decide)) ?_
    refine lv_iadd hx9 hb dL_act_95 ?_
    refine zz_top (y := nI (1 + (((k / 16) / 343) % 4))) (nI_add _ _) ?_
    refine wr_i (fun w9 : BS => gW cy a w9) (vx_runSW (As := [.ref (aO a), .int (nI ((k / 16) % 7)), .int (nI (((k / 16) / 7) % 7)), .int (nI (((k / 16) / 49) % 7)), .int (nI (1 + (((k / 16) / 343) % 4)))]) (rest := []) hF (c_L_comes l D cy hl0 a v u_2 hO hR_4 (nI ((k / 16) % 7)) (nI (((k / 16) / 7) % 7)) (nI (((k / 16) / 49) % 7)) (nI (1 + (((k / 16) / 343) % 4))) H.size) (vx_cwSW 5 hts gL_act_L_comes rfl rfl rfl (by decide +kernel) ⟨Nat.le_of_ble_eq_true rfl, Nat.le_of_ble_eq_true rfl⟩) (wrX_preS hK hP hD (zz_all _) Xok_l (fun U hU hW => Gl.at hX hS (zz_free hD (zz_all _) hS hA) hU hW)) rfl rfl hl.1 rfl (lv_room (Nat.le_of_ble_eq_true rfl)) dL_act_96 ⟨Nat.le_of_ble_eq_true rfl, Nat.le_of_ble_eq_true rfl⟩) hP hD hS hA (zz_all _) (fun _ => zz_all _) (fun r_19 u_20 H locs e_21 hP hD hS => ?_)
    obtain ⟨x_23, hR_22⟩ : r_19 = (aCome v (nI ((k / 16) % 7)) (nI (((k / 16) / 7) % 7)) (nI (((k / 16) / 49) % 7)) (nI (1 + (((k / 16) / 343) % 4)))).1 ∧ Rep ((aCome v (nI ((k / 16) % 7)) (nI (((k / 16) / 7) % 7)) (nI (((k / 16) / 49) % 7)) (nI (1 + (((k / 16) / 343) % 4)))).2) u_20 := by exact e_21
    subst x_23
    have hP : va_P D vwCl (gW cy a u_20) H := hP
    have hD : va_D A (gW cy a u_20) := hD
    refine W.widen (k := 40) (n := 250) (by omega) (by omega) ?_
    exact hret _ _ H locs _ u_20 dL_act_99 hP hD hS (by rw [act_012 (show k % 16 < 3 by omega)]; exact ⟨rfl, hR_22⟩)
  by_cases c_24 : nI (k % 16) = 3
  · refine lv_tableIn (off := 82) (tgt := 100) hx9 hb dL_act_18 (by rw [c_24]; decide) (by rw [c_24]; decide) (by rw [c_24]; rfl) (by decide) ?_
    have hk : k % 16 = 3 := (nI_eq (a := k % 16) (b := 3) (by omega) (by omega)).mp c_24
    refine lv_iload_n hx9 hb dL_act_100 rfl (lv_at hl 0 rfl) ?_
    refine lv_iconst (v := 2) hx9 hb dL_act_101 (by decide) ?_
    refine lv_icmp_ge (tgt := 109) hx9 hb dL_act_102 (by decide) (fun c_25 => ?_) (fun c_25 => ?_)
    · have c_25 : 2 ≤ n := (nI_leI (a := 2) (b := n) (by omega) (by omega)).mp c_25
      refine lv_aload_n hx9 hb dL_act_109 rfl (lv_at hl 2 rfl) ?_
      refine lv_bipush (v := 6) hx9 hb dL_act_110 (by decide) ?_
      refine lv_iload_n hx9 hb dL_act_112 rfl (lv_at hl 1 rfl) ?_
      refine lv_iload_n hx9 hb dL_act_113 rfl (lv_at hl 0 rfl) ?_
      refine lv_irem hx9 hb dL_act_114 (nI_ne0 (by omega) (by omega)) ?_
      refine zz_top (y := nI ((k / 16) % n)) (pk_rem (by omega) (by omega) (by omega)) ?_
      refine lv_iconst (v := 0) hx9 hb dL_act_115 (by decide) ?_
      refine lv_iconst (v := 0) hx9 hb dL_act_116 (by decide) ?_
      refine wr_i (fun w9 : BS => gW cy a w9) (va_runS (As := [.ref (aO a), .int 6, .int (nI ((k / 16) % n)), .int 0, .int 0]) (rest := []) hF (c_L_call_6 l D cy hl0 a v u_2 hO hR_4 (nI ((k / 16) % n)) 0 0 H.size) (va_cwS 5 hts gL_act_L_call rfl rfl rfl (by decide +kernel) ⟨Nat.le_of_ble_eq_true rfl, Nat.le_of_ble_eq_true rfl⟩) (wrX_preS hK hP hD (zz_all _) Xok_l (fun U hU hW => Gl.at hX hS (zz_free hD (zz_all _) hS hA) hU hW)) rfl rfl hl.1 rfl (lv_room (Nat.le_of_ble_eq_true rfl)) dL_act_117 ⟨Nat.le_of_ble_eq_true rfl, Nat.le_of_ble_eq_true rfl⟩) hP hD hS hA (zz_all _) (fun _ => zz_all _) (fun r_26 u_27 H locs e_28 hP hD hS => ?_)
      obtain ⟨x_30, hR_29⟩ : r_26 = (aLeave v (nI ((k / 16) % n))).1 ∧ Rep ((aLeave v (nI ((k / 16) % n))).2) u_27 := by exact e_28
      subst x_30
      have hP : va_P D vwCl (gW cy a u_27) H := hP
      have hD : va_D A (gW cy a u_27) := hD
      refine W.widen (k := 40) (n := 250) (by omega) (by omega) ?_
      exact hret _ _ H locs _ u_27 dL_act_120 hP hD hS (by rw [act_3b hx hk (by omega)]; exact ⟨rfl, hR_29⟩)
    · have c_25 : ¬ 2 ≤ n := fun q => c_25 ((nI_leI (a := 2) (b := n) (by omega) (by omega)).mpr q)
      refine lv_iconst (v := (-1)) hx9 hb dL_act_105 (by decide) ?_
      refine lv_goto (tgt := 120) hx9 hb dL_act_106 (by decide) ?_
      refine W.widen (k := 40) (n := 250) (by omega) (by omega) ?_
      exact hret _ _ H locs _ u_2 dL_act_120 hP hD hS (by rw [act_3a hx hk (by omega)]; exact ⟨rfl, hR_4⟩)
  by_cases c_31 : nI (k % 16) = 4
  · refine lv_tableIn (off := 103) (tgt := 121) hx9 hb dL_act_18 (by rw [c_31]; decide) (by rw [c_31]; decide) (by rw [c_31]; rfl) (by decide) ?_
    have hk : k % 16 = 4 := (nI_eq (a := k % 16) (b := 4) (by omega) (by omega)).mp c_31
    refine lv_aload_n hx9 hb dL_act_121 rfl (lv_at hl 2 rfl) ?_
    refine wr_i (fun w9 : BS => gW cy a w9) (va_runV (As := []) (rest := []) hF (m_rest l D cy hl0 a v u_2 hO hR_4 H.size) (cwV 0 hts gL_act_X7_rest rfl rfl rfl (by decide +kernel) ⟨Nat.le_of_ble_eq_true rfl, Nat.le_of_ble_eq_true rfl⟩) (wrX_preV hK hP hD (zz_all _) 0 4 rfl rfl rfl Xok_x (fun U hU hW => Gx.at hX.1 hS (zz_free hD (zz_all _) hS hA) hU hW)) rfl rfl hl.1 rfl (lv_room (Nat.le_of_ble_eq_true rfl)) dL_act_122 ⟨Nat.le_of_ble_eq_true rfl, Nat.le_of_ble_eq_true rfl⟩) hP hD hS hA (zz_all _) (fun _ => zz_all _) (fun r_32 u_33 H locs e_34 hP hD hS => ?_)
    obtain ⟨x_36, hR_35⟩ : r_32 = (aRest v).1 ∧ Rep (aRest v).2 u_33 := by exact e_34
    subst x_36
    have hP : va_P D vwCl (gW cy a u_33) H := hP
    have hD : va_D A (gW cy a u_33) := hD
    refine W.widen (k := 40) (n := 250) (by omega) (by omega) ?_
    exact hret _ _ H locs _ u_33 dL_act_125 hP hD hS (by rw [act_4 hk]; exact ⟨rfl, hR_35⟩)
  by_cases c_37 : nI (k % 16) = 5
  · refine lv_tableIn (off := 108) (tgt := 126) hx9 hb dL_act_18 (by rw [c_37]; decide) (by rw [c_37]; decide) (by rw [c_37]; rfl) (by decide) ?_
    have hk : k % 16 = 5 := (nI_eq (a := k % 16) (b := 5) (by omega) (by omega)).mp c_37
    refine lv_iload_n hx9 hb dL_act_126 rfl (lv_at hl 1 rfl) ?_
    refine lv_iconst (v := 3) hx9 hb dL_act_127 (by decide) ?_
    refine lv_irem hx9 hb dL_act_128 (by decide) ?_
    refine zz_top (y := nI ((k / 16) % 3)) (pk_rem (d := 3) (by omega) (by decide) (by decide)) ?_
    refine lv_if_ne (tgt := 151) hx9 hb dL_act_129 (by decide) (fun c_38 => ?_) (fun c_38 => ?_)
    · have c_38 : ¬ (k / 16) % 3 = 0 := fun q => c_38 ((nI_eq (a := (k / 16) % 3) (b := 0) (by omega) (by omega)).mpr q)
      refine lv_aload_n hx9 hb dL_act_151 rfl (lv_at hl 2 rfl) ?_
      refine lv_bipush (v := 8) hx9 hb dL_act_152 (by decide) ?_
      refine lv_iload_n hx9 hb dL_act_154 rfl (lv_at hl 1 rfl) ?_
      refine lv_iconst (v := 3) hx9 hb dL_act_155 (by decide) ?_
      refine lv_irem hx9 hb dL_act_156 (by decide) ?_
      refine zz_top (y := nI ((k / 16) % 3)) (pk_rem (d := 3) (by omega) (by decide) (by decide)) ?_
      refine lv_iconst (v := 1) hx9 hb dL_act_157 (by decide) ?_
      refine lv_iload_n hx9 hb dL_act_158 rfl (lv_at hl 1 rfl) ?_
      refine lv_iconst (v := 3) hx9 hb dL_act_159 (by decide) ?_
      refine lv_idiv hx9 hb dL_act_160 (by decide) ?_
      refine zz_top (y := nI ((k / 16) / 3)) (pk_div (d := 3) (by omega) (by decide) (by decide)) ?_
      refine lv_bipush (v := 9) hx9 hb dL_act_161 (by decide) ?_
      refine lv_irem hx9 hb dL_act_163 (by decide) ?_
      refine zz_top (y := nI (((k / 16) / 3) % 9)) (pk_rem (d := 9) (by omega) (by decide) (by decide)) ?_
      refine lv_iadd hx9 hb dL_act_164 ?_
      refine zz_top (y := nI (1 + (((k / 16) / 3) % 9))) (nI_add _ _) ?_
      refine lv_iconst (v := 0) hx9 hb dL_act_165 (by decide) ?_
      refine wr_i (fun w9 : BS => gW cy a w9) (va_runS (As := [.ref (aO a), .int 8, .int (nI ((k / 16) % 3)), .int (nI (1 + (((k / 16) / 3) % 9))), .int 0]) (rest := []) hF (c_L_call_8 l D cy hl0 a v u_2 hO hR_4 (nI ((k / 16) % 3)) (nI (1 + (((k / 16) / 3) % 9))) 0 H.size) (va_cwS 5 hts gL_act_L_call rfl rfl rfl (by decide +kernel) ⟨Nat.le_of_ble_eq_true rfl, Nat.le_of_ble_eq_true rfl⟩) (wrX_preS hK hP hD (zz_all _) Xok_l (fun U hU hW => Gl.at hX hS (zz_free hD (zz_all _) hS hA) hU hW)) rfl rfl hl.1 rfl (lv_room (Nat.le_of_ble_eq_true rfl)) dL_act_166 ⟨Nat.le_of_ble_eq_true rfl, Nat.le_of_ble_eq_true rfl⟩) hP hD hS hA (zz_all _) (fun _ => zz_all _) (fun r_39 u_40 H locs e_41 hP hD hS => ?_)
      obtain ⟨x_43, hR_42⟩ : r_39 = (aLay v (nI ((k / 16) % 3)) (nI (1 + (((k / 16) / 3) % 9)))).1 ∧ Rep ((aLay v (nI ((k / 16) % 3)) (nI (1 + (((k / 16) / 3) % 9)))).2) u_40 := by exact e_41
      subst x_43
      have hP : va_P D vwCl (gW cy a u_40) H := hP
      have hD : va_D A (gW cy a u_40) := hD
      refine W.widen (k := 40) (n := 250) (by omega) (by omega) ?_
      exact hret _ _ H locs _ u_40 dL_act_169 hP hD hS (by rw [act_5b hk c_38]; exact ⟨rfl, hR_42⟩)
    · have c_38 : (k / 16) % 3 = 0 := (nI_eq (a := (k / 16) % 3) (b := 0) (by omega) (by omega)).mp c_38
      refine lv_aload_n hx9 hb dL_act_132 rfl (lv_at hl 2 rfl) ?_
      refine lv_bipush (v := 8) hx9 hb dL_act_133 (by decide) ?_
      refine lv_iconst (v := 0) hx9 hb dL_act_135 (by decide) ?_
      refine lv_iconst (v := 4) hx9 hb dL_act_136 (by decide) ?_
      refine lv_iload_n hx9 hb dL_act_137 rfl (lv_at hl 1 rfl) ?_
      refine lv_iconst (v := 3) hx9 hb dL_act_138 (by decide) ?_
      refine lv_idiv hx9 hb dL_act_139 (by decide) ?_
      refine zz_top (y := nI ((k / 16) / 3)) (pk_div (d := 3) (by omega) (by decide) (by decide)) ?_
      refine lv_bipush (v := 13) hx9 hb dL_act_140 (by decide) ?_
      refine lv_irem hx9 hb dL_act_142 (by decide) ?_
      refine zz_top (y := nI (((k / 16) / 3) % 13)) (pk_rem (d := 13) (by omega) (by decide) (by decide)) ?_
      refine lv_iadd hx9 hb dL_act_143 ?_
      refine zz_top (y := nI (4 + (((k / 16) / 3) % 13))) (nI_add _ _) ?_
      refine lv_iconst (v := 0) hx9 hb dL_act_144 (by decide) ?_
      refine wr_i (fun w9 : BS => gW cy a w9) (va_runS (As := [.ref (aO a), .int 8, .int 0, .int (nI (4 + (((k / 16) / 3) % 13))), .int 0]) (rest := []) hF (c_L_call_8 l D cy hl0 a v u_2 hO hR_4 0 (nI (4 + (((k / 16) / 3) % 13))) 0 H.size) (va_cwS 5 hts gL_act_L_call rfl rfl rfl (by decide +kernel) ⟨Nat.le_of_ble_eq_true rfl, Nat.le_of_ble_eq_true rfl⟩) (wrX_preS hK hP hD (zz_all _) Xok_l (fun U hU hW => Gl.at hX hS (zz_free hD (zz_all _) hS hA) hU hW)) rfl rfl hl.1 rfl (lv_room (Nat.le_of_ble_eq_true rfl)) dL_act_145 ⟨Nat.le_of_ble_eq_true rfl, Nat.le_of_ble_eq_true rfl⟩) hP hD hS hA (zz_all _) (fun _ => zz_all _) (fun r_44 u_45 H locs e_46 hP hD hS => ?_)
      obtain ⟨x_48, hR_47⟩ : r_44 = (aLay v 0 (nI (4 + (((k / 16) / 3) % 13)))).1 ∧ Rep ((aLay v 0 (nI (4 + (((k / 16) / 3) % 13)))).2) u_45 := by exact e_46
      subst x_48
      have hP : va_P D vwCl (gW cy a u_45) H := hP
      have hD : va_D A (gW cy a u_45) := hD
      refine lv_goto (tgt := 169) hx9 hb dL_act_148 (by decide) ?_
      refine W.widen (k := 40) (n := 250) (by omega) (by omega) ?_
      exact hret _ _ H locs _ u_45 dL_act_169 hP hD hS (by rw [act_5a hk c_38]; exact ⟨rfl, hR_47⟩)
  by_cases c_49 : nI (k % 16) = 6
  · refine lv_tableIn (off := 152) (tgt := 170) hx9 hb dL_act_18 (by rw [c_49]; decide) (by rw [c_49]; decide) (by rw [c_49]; rfl) (by decide) ?_
    have hk : k % 16 = 6 := (nI_eq (a := k % 16) (b := 6) (by omega) (by omega)).mp c_49
    refine lv_aload_n hx9 hb dL_act_170 rfl (lv_at hl 2 rfl) ?_
    refine lv_iconst (v := 2) hx9 hb dL_act_171 (by decide) ?_
    refine lv_bipush (v := 7) hx9 hb dL_act_172 (by decide) ?_
    refine lv_iconst (v := 0) hx9 hb dL_act_174 (by decide) ?_
    refine lv_iconst (v := 0) hx9 hb dL_act_175 (by decide) ?_
    refine wr_i (fun w9 : BS => gW cy a w9) (va_runS (As := [.ref (aO a), .int 2, .int 7, .int 0, .int 0]) (rest := []) hF (c_L_call_2 l D cy hl0 a v u_2 hO hR_4 7 0 0 H.size) (va_cwS 5 hts gL_act_L_call rfl rfl rfl (by decide +kernel) ⟨Nat.le_of_ble_eq_true rfl, Nat.le_of_ble_eq_true rfl⟩) (wrX_preS hK hP hD (zz_all _) Xok_l (fun U hU hW => Gl.at hX hS (zz_free hD (zz_all _) hS hA) hU hW)) rfl rfl hl.1 rfl (lv_room (Nat.le_of_ble_eq_true rfl)) dL_act_176 ⟨Nat.le_of_ble_eq_true rfl, Nat.le_of_ble_eq_true rfl⟩) hP hD hS hA (zz_all _) (fun _ => zz_all _) (fun r_50 u_51 H locs e_52 hP hD hS => ?_)
    obtain ⟨x_54, hR_53⟩ : r_50 = v.1.1.2.2.2.1 ∧ Rep v u_51 := by rw [qAb_7 hx] at e_52; exact e_52
    subst x_54
    have hP : va_P D vwCl (gW cy a u_51) H := hP
    have hD : va_D A (gW cy a u_51) := hD
    refine zz_top (y := nI p9) ep ?_
    refine lv_aload_n hx9 hb dL_act_179 rfl (lv_at hl 2 rfl) ?_
    refine lv_iconst (v := 2) hx9 hb dL_act_180 (by decide) ?_
    refine lv_bipush (v := 8) hx9 hb dL_act_181 (by decide) ?_
    refine lv_iconst (v := 0) hx9 hb dL_act_183 (by decide) ?_
    refine lv_iconst (v := 0) hx9 hb dL_act_184 (by decide) ?_
    refine wr_i (fun w9 : BS => gW cy a w9) (va_runS (As := [.ref (aO a), .int 2, .int 8, .int 0, .int 0]) (rest := [.int (nI p9)]) hF (c_L_call_2 l D cy hl0 a v u_51 hO hR_53 8 0 0 H.size) (va_cwS 5 hts gL_act_L_call rfl rfl rfl (by decide +kernel) ⟨Nat.le_of_ble_eq_true rfl, Nat.le_of_ble_eq_true rfl⟩) (wrX_preS hK hP hD (zz_all _) Xok_l (fun U hU hW => Gl.at hX hS (zz_free hD (zz_all _) hS hA) hU hW)) rfl rfl hl.1 rfl (lv_room (Nat.le_of_ble_eq_true rfl)) dL_act_185 ⟨Nat.le_of_ble_eq_true rfl, Nat.le_of_ble_eq_true rfl⟩) hP hD hS hA (zz_all _) (fun _ => zz_all _) (fun r_55 u_56 H locs e_57 hP hD hS => ?_)
    obtain ⟨x_59, hR_58⟩ : r_55 = v.1.1.2.2.2.2.1 ∧ Rep v u_56 := by rw [qAb_8 hx] at e_57; exact e_57
    subst x_59
    have hP : va_P D vwCl (gW cy a u_56) H := hP
    have hD : va_D A (gW cy a u_56) := hD
    refine zz_top (y := nI r9) er ?_
    refine lv_iadd hx9 hb dL_act_188 ?_
    refine zz_top (y := nI (p9 + r9)) (nI_add _ _) ?_
    refine lv_iconst (v := 2) hx9 hb dL_act_189 (by decide) ?_
    refine lv_icmp_ge (tgt := 197) hx9 hb dL_act_190 (by decide) (fun c_60 => ?_) (fun c_60 => ?_)
    · have c_60 : 2 ≤ p9 + r9 := (nI_leI (a := 2) (b := p9 + r9) (by omega) (by omega)).mp c_60
      have hlt : ¬ Cnt v.1 < 2 := by rw [ec]; omega
      refine lv_aload_n hx9 hb dL_act_197 rfl (lv_at hl 2 rfl) ?_
      refine lv_bipush (v := 9) hx9 hb dL_act_198 (by decide) ?_
      refine lv_iconst (v := 0) hx9 hb dL_act_200 (by decide) ?_
      refine lv_iconst (v := 0) hx9 hb dL_act_201 (by decide) ?_
      refine lv_iconst (v := 0) hx9 hb dL_act_202 (by decide) ?_
      refine wr_i (fun w9 : BS => gW cy a w9) (va_runS (As := [.ref (aO a), .int 9, .int 0, .int 0, .int 0]) (rest := []) hF (c_L_call_9 l D cy hl0 a v u_56 hO hR_58 0 0 0 H.size) (va_cwS 5 hts gL_act_L_call rfl rfl rfl (by decide +kernel) ⟨Nat.le_of_ble_eq_true rfl, Nat.le_of_ble_eq_true rfl⟩) (wrX_preS hK hP hD (zz_all _) Xok_l (fun U hU hW => Gl.at hX hS (zz_free hD (zz_all _) hS hA) hU hW)) rfl rfl hl.1 rfl (lv_room (Nat.le_of_ble_eq_true rfl)) dL_act_203 ⟨Nat.le_of_ble_eq_true rfl, Nat.le_of_ble_eq_true rfl⟩) hP hD hS hA (zz_all _) (fun _ => zz_all _) (fun r_61 u_62 H locs e_63 hP hD hS => ?_)
      obtain ⟨x_65, hR_64⟩ : r_61 = (aUndo v).1 ∧ Rep ((aUndo v).2) u_62 := by exact e_63
      subst x_65
      have hP : va_P D vwCl (gW cy a u_62) H := hP
      have hD : va_D A (gW cy a u_62) := hD
      refine W.widen (k := 40) (n := 250) (by omega) (by omega) ?_
      exact hret _ _ H locs _ u_62 dL_act_206 hP hD hS (by rw [act_6b hk hlt]; exact ⟨rfl, hR_64⟩)
    · have c_60 : ¬ 2 ≤ p9 + r9 := fun q => c_60 ((nI_leI (a := 2) (b := p9 + r9) (by omega) (by omega)).mpr q)
      have hlt : Cnt v.1 < 2 := by rw [ec]; omega
      refine lv_iconst (v := (-1)) hx9 hb dL_act_193 (by decide) ?_
      refine lv_goto (tgt := 206) hx9 hb dL_act_194 (by decide) ?_
      refine W.widen (k := 40) (n := 250) (by omega) (by omega) ?_
      exact hret _ _ H locs _ u_56 dL_act_206 hP hD hS (by rw [act_6a hk hlt]; exact ⟨rfl, hR_58⟩)
  by_cases c_66 : nI (k % 16) = 7
  · refine lv_tableIn (off := 189) (tgt := 207) hx9 hb dL_act_18 (by rw [c_66]; decide) (by rw [c_66]; decide) (by rw [c_66]; rfl) (by decide) ?_
    have hk : k % 16 = 7 := (nI_eq (a := k % 16) (b := 7) (by omega) (by omega)).mp c_66
    refine lv_iload_n hx9 hb dL_act_207 rfl (lv_at hl 1 rfl) ?_
    refine lv_iconst (v := 2) hx9 hb dL_act_208 (by decide) ?_
    refine lv_irem hx9 hb dL_act_209 (by decide) ?_
    refine zz_top (y := nI ((k / 16) % 2)) (pk_rem (d := 2) (by omega) (by decide) (by decide)) ?_
    refine lv_if_ne (tgt := 229) hx9 hb dL_act_210 (by decide) (fun c_67 => ?_) (fun c_67 => ?_)
    · have c_67 : ¬ (k / 16) % 2 = 0 := fun q => c_67 ((nI_eq (a := (k / 16) % 2) (b := 0) (by omega) (by omega)).mpr q)
      refine lv_aload_n hx9 hb dL_act_229 rfl (lv_at hl 2 rfl) ?_
      refine lv_bipush (v := 15) hx9 hb dL_act_230 (by decide) ?_
      refine lv_iload_n hx9 hb dL_act_232 rfl (lv_at hl 1 rfl) ?_
      refine lv_iconst (v := 2) hx9 hb dL_act_233 (by decide) ?_
      refine lv_idiv hx9 hb dL_act_234 (by decide) ?_
      refine zz_top (y := nI ((k / 16) / 2)) (pk_div (d := 2) (by omega) (by decide) (by decide)) ?_
      refine lv_iconst (v := 2) hx9 hb dL_act_235 (by decide) ?_
      refine lv_irem hx9 hb dL_act_236 (by decide) ?_
      refine zz_top (y := nI (((k / 16) / 2) % 2)) (pk_rem (d := 2) (by omega) (by decide) (by decide)) ?_
      refine lv_iconst (v := 0) hx9 hb dL_act_237 (by decide) ?_
      refine lv_iconst (v := 0) hx9 hb dL_act_238 (by decide) ?_
      refine wr_i (fun w9 : BS => gW cy a w9) (va_runS (As := [.ref (aO a), .int 15, .int (nI (((k / 16) / 2) % 2)), .int 0, .int 0]) (rest := []) hF (c_L_call_15 l D cy hl0 a v u_2 hO hR_4 (nI (((k / 16) / 2) % 2)) 0 0 H.size) (va_cwS 5 hts gL_act_L_call rfl rfl rfl (by decide +kernel) ⟨Nat.le_of_ble_eq_true rfl, Nat.le_of_ble_eq_true rfl⟩) (wrX_preS hK hP hD (zz_all _) Xok_l (fun U hU hW => Gl.at hX hS (zz_free hD (zz_all _) hS hA) hU hW)) rfl rfl hl.1 rfl (lv_room (Nat.le_of_ble_eq_true rfl)) dL_act_239 ⟨Nat.le_of_ble_eq_true rfl, Nat.le_of_ble_eq_true rfl⟩) hP hD hS hA (zz_all _) (fun _ => zz_all _) (fun r_68 u_69 H locs e_70 hP hD hS => ?_)
      obtain ⟨x_72, hR_71⟩ : r_68 = (aBack v (nI (((k / 16) / 2) % 2))).1 ∧ Rep ((aBack v (nI (((k / 16) / 2) % 2))).2) u_69 := by exact e_70
      subst x_72
      have hP : va_P D vwCl (gW cy a u_69) H := hP
      have hD : va_D A (gW cy a u_69) := hD
      refine W.widen (k := 40) (n := 250) (by omega) (by omega) ?_
      exact hret _ _ H locs _ u_69 dL_act_242 hP hD hS (by rw [act_7b hk c_67]; exact ⟨rfl, hR_71⟩)
    · have c_67 : (k / 16) % 2 = 0 := (nI_eq (a := (k / 16) % 2) (b := 0) (by omega) (by omega)).mp c_67
      refine lv_aload_n hx9 hb dL_act_213 rfl (lv_at hl 2 rfl) ?_
      refine lv_bipush (v := 14) hx9 hb dL_act_214 (by decide) ?_
      refine lv_iload_n hx9 hb dL_act_216 rfl (lv_at hl 1 rfl) ?_
      refine lv_iconst (v := 2) hx9 hb dL_act_217 (by decide) ?_
      refine lv_idiv hx9 hb dL_act_218 (by decide) ?_
      refine zz_top (y := nI ((k / 16) / 2)) (pk_div (d := 2) (by omega) (by decide) (by decide)) ?_
      refine lv_iconst (v := 2) hx9 hb dL_act_219 (by decide) ?_
      refine lv_irem hx9 hb dL_act_220 (by decide) ?_
      refine zz_top (y := nI (((k / 16) / 2) % 2)) (pk_rem (d := 2) (by omega) (by decide) (by decide)) ?_
      refine lv_iconst (v := 0) hx9 hb dL_act_221 (by decide) ?_
      refine lv_iconst (v := 0) hx9 hb dL_act_222 (by decide) ?_
      refine wr_i (fun w9 : BS => gW cy a w9) (va_runS (As := [.ref (aO a), .int 14, .int (nI (((k / 16) / 2) % 2)), .int 0, .int 0]) (rest := []) hF (c_L_call_14 l D cy hl0 a v u_2 hO hR_4 (nI (((k / 16) / 2) % 2)) 0 0 H.size) (va_cwS 5 hts gL_act_L_call rfl rfl rfl (by decide +kernel) ⟨Nat.le_of_ble_eq_true rfl, Nat.le_of_ble_eq_true rfl⟩) (wrX_preS hK hP hD (zz_all _) Xok_l (fun U hU hW => Gl.at hX hS (zz_free hD (zz_all _) hS hA) hU hW)) rfl rfl hl.1 rfl (lv_room (Nat.le_of_ble_eq_true rfl)) dL_act_223 ⟨Nat.le_of_ble_eq_true rfl, Nat.le_of_ble_eq_true rfl⟩) hP hD hS hA (zz_all _) (fun _ => zz_all _) (fun r_73 u_74 H locs e_75 hP hD hS => ?_)
      obtain ⟨x_77, hR_76⟩ : r_73 = (aKeep v (nI (((k / 16) / 2) % 2))).1 ∧ Rep ((aKeep v (nI (((k / 16) / 2) % 2))).2) u_74 := by exact e_75
      subst x_77
      have hP : va_P D vwCl (gW cy a u_74) H := hP
      have hD : va_D A (gW cy a u_74) := hD
      refine lv_goto (tgt := 242) hx9 hb dL_act_226 (by decide) ?_
      refine W.widen (k := 40) (n := 250) (by omega) (by omega) ?_
      exact hret _ _ H locs _ u_74 dL_act_242 hP hD hS (by rw [act_7a hk c_67]; exact ⟨rfl, hR_76⟩)
  by_cases c_78 : nI (k % 16) = 8
  · refine lv_tableIn (off := 225) (tgt := 243) hx9 hb dL_act_18 (by rw [c_78]; decide) (by rw [c_78]; decide) (by rw [c_78]; rfl) (by decide) ?_
    have hk : k % 16 = 8 := (nI_eq (a := k % 16) (b := 8) (by omega) (by omega)).mp c_78
    refine lv_aload_n hx9 hb dL_act_243 rfl (lv_at hl 2 rfl) ?_
    refine wr_i (fun w9 : BS => gW cy a w9) (va_runV (As := []) (rest := []) hF (m_best l D cy hl0 a v u_2 hO hR_4 H.size) (cwV 0 hts gL_act_X7_best rfl rfl rfl (by decide +kernel) ⟨Nat.le_of_ble_eq_true rfl, Nat.le_of_ble_eq_true rfl⟩) (wrX_preV hK hP hD (zz_all _) 0 4 rfl rfl rfl Xok_x (fun U hU hW => Gx.at hX.1 hS (zz_free hD (zz_all _) hS hA) hU hW)) rfl rfl hl.1 rfl (lv_room (Nat.le_of_ble_eq_true rfl)) dL_act_244 ⟨Nat.le_of_ble_eq_true rfl, Nat.le_of_ble_eq_true rfl⟩) hP hD hS hA (zz_all _) (fun _ => zz_all _) (fun r_79 u_80 H locs e_81 hP hD hS => ?_)
    obtain ⟨x_83, hR_82⟩ : r_79 = hBst n v.1 ∧ Rep v u_80 := by rw [Hx.n hx] at e_81; exact e_81
    subst x_83
    have hP : va_P D vwCl (gW cy a u_80) H := hP
    have hD : va_D A (gW cy a u_80) := hD
    refine lv_iconst (v := (-1)) hx9 hb dL_act_247 (by decide) ?_
    refine lv_icmp_ne (tgt := 255) hx9 hb dL_act_248 (by decide) (fun c_84 => ?_) (fun c_84 => ?_)
    · have c_84 : ¬ (hBst n v.1) = ((-1)) := c_84
      refine lv_aload_n hx9 hb dL_act_255 rfl (lv_at hl 2 rfl) ?_
      refine lv_bipush (v := 7) hx9 hb dL_act_256 (by decide) ?_
      refine lv_aload_n hx9 hb dL_act_258 rfl (lv_at hl 2 rfl) ?_
      refine wr_i (fun w9 : BS => gW cy a w9) (va_runV (As := []) (rest := [.int 7, .ref (aO a)]) hF (m_best l D cy hl0 a v u_80 hO hR_82 H.size) (cwV 0 hts gL_act_X7_best rfl rfl rfl (by decide +kernel) ⟨Nat.le_of_ble_eq_true rfl, Nat.le_of_ble_eq_true rfl⟩) (wrX_preV hK hP hD (zz_all _) 0 4 rfl rfl rfl Xok_x (fun U hU hW => Gx.at hX.1 hS (zz_free hD (zz_all _) hS hA) hU hW)) rfl rfl hl.1 rfl (lv_room (Nat.le_of_ble_eq_true rfl)) dL_act_259 ⟨Nat.le_of_ble_eq_true rfl, Nat.le_of_ble_eq_true rfl⟩) hP hD hS hA (zz_all _) (fun _ => zz_all _) (fun r_85 u_86 H locs e_87 hP hD hS => ?_)
      obtain ⟨x_89, hR_88⟩ : r_85 = hBst n v.1 ∧ Rep v u_86 := by rw [Hx.n hx] at e_87; exact e_87
      subst x_89
      have hP : va_P D vwCl (gW cy a u_86) H := hP
      have hD : va_D A (gW cy a u_86) := hD
      refine lv_iconst (v := 0) hx9 hb dL_act_262 (by decide) ?_
      refine lv_iconst (v := 0) hx9 hb dL_act_263 (by decide) ?_
      refine wr_i (fun w9 : BS => gW cy a w9) (va_runS (As := [.ref (aO a), .int 7, .int (hBst n v.1), .int 0, .int 0]) (rest := []) hF (c_L_call_7 l D cy hl0 a v u_86 hO hR_88 (hBst n v.1) 0 0 H.size) (va_cwS 5 hts gL_act_L_call rfl rfl rfl (by decide +kernel) ⟨Nat.le_of_ble_eq_true rfl, Nat.le_of_ble_eq_true rfl⟩) (wrX_preS hK hP hD (zz_all _) Xok_l (fun U hU hW => Gl.at hX hS (zz_free hD (zz_all _) hS hA) hU hW)) rfl rfl hl.1 rfl (lv_room (Nat.le_of_ble_eq_true rfl)) dL_act_264 ⟨Nat.le_of_ble_eq_true rfl, Nat.le_of_ble_eq_true rfl⟩) hP hD hS hA (zz_all _) (fun _ => zz_all _) (fun r_90 u_91 H locs e_92 hP hD hS => ?_)
      obtain ⟨x_94, hR_93⟩ : r_90 = (aPress v (hBst n v.1)).1 ∧ Rep ((aPress v (hBst n v.1)).2) u_91 := by exact e_92
      subst x_94
      have hP : va_P D vwCl (gW cy a u_91) H := hP
      have hD : va_D A (gW cy a u_91) := hD
      refine W.widen (k := 40) (n := 250) (by omega) (by omega) ?_
      exact hret _ _ H locs _ u_91 dL_act_267 hP hD hS (by rw [act_8b hx hk c_84]; exact ⟨rfl, hR_93⟩)
    · have c_84 : (hBst n v.1) = ((-1)) := c_84
      refine lv_iconst (v := (-1)) hx9 hb dL_act_251 (by decide) ?_
      refine lv_goto (tgt := 267) hx9 hb dL_act_252 (by decide) ?_
      refine W.widen (k := 40) (n := 250) (by omega) (by omega) ?_
      exact hret _ _ H locs _ u_80 dL_act_267 hP hD hS (by rw [act_8a hx hk c_84]; exact ⟨rfl, hR_82⟩)
  have hsw : (nI (k % 16)).toInt < 0 ∨ 8 < (nI (k % 16)).toInt := by
    have q0 := fun (v9 : Int32) (h : ¬ nI (k % 16) = v9) => fun (q : (nI (k % 16)).toInt = v9.toInt) => h (Int32.toInt_inj.mp q)
    have q_c_6 : ¬ (nI (k % 16)).toInt = 0 := q0 0 c_6
    have q_c_12 : ¬ (nI (k % 16)).toInt = 1 := q0 1 c_12
    have q_c_18 : ¬ (nI (k % 16)).toInt = 2 := q0 2 c_18
    have q_c_24 : ¬ (nI (k % 16)).toInt = 3 := q0 3 c_24
    have q_c_31 : ¬ (nI (k % 16)).toInt = 4 := q0 4 c_31
    have q_c_37 : ¬ (nI (k % 16)).toInt = 5 := q0 5 c_37
    have q_c_49 : ¬ (nI (k % 16)).toInt = 6 := q0 6 c_49
    have q_c_66 : ¬ (nI (k % 16)).toInt = 7 := q0 7 c_66
    have q_c_78 : ¬ (nI (k % 16)).toInt = 8 := q0 8 c_78
    omega
  refine lv_tableOut (tgt := 268) hx9 hb dL_act_18 hsw (by decide) ?_
  have q0 : ¬ k % 16 = 0 := fun h => c_6 (by rw [h]; rfl)
  have q1 : ¬ k % 16 = 1 := fun h => c_12 (by rw [h]; rfl)
  have q2 : ¬ k % 16 = 2 := fun h => c_18 (by rw [h]; rfl)
  have q3 : ¬ k % 16 = 3 := fun h => c_24 (by rw [h]; rfl)
  have q4 : ¬ k % 16 = 4 := fun h => c_31 (by rw [h]; rfl)
  have q5 : ¬ k % 16 = 5 := fun h => c_37 (by rw [h]; rfl)
  have q6 : ¬ k % 16 = 6 := fun h => c_49 (by rw [h]; rfl)
  have q7 : ¬ k % 16 = 7 := fun h => c_66 (by rw [h]; rfl)
  have q8 : ¬ k % 16 = 8 := fun h => c_78 (by rw [h]; rfl)
  have hk : 9 ≤ k % 16 := by omega
  refine lv_aload_n hx9 hb dL_act_268 rfl (lv_at hl 2 rfl) ?_
  refine lv_bipush (v := 7) hx9 hb dL_act_269 (by decide) ?_
  refine lv_iload_n hx9 hb dL_act_271 rfl (lv_at hl 1 rfl) ?_
  refine lv_iload_n hx9 hb dL_act_272 rfl (lv_at hl 0 rfl) ?_
  refine lv_irem hx9 hb dL_act_273 (nI_ne0 (by omega) (by omega)) ?_
  refine zz_top (y := nI ((k / 16) % n)) (pk_rem (by omega) (by omega) (by omega)) ?_
  refine lv_iconst (v := 0) hx9 hb dL_act_274 (by decide) ?_
  refine lv_iconst (v := 0) hx9 hb dL_act_275 (by decide) ?_
  refine wr_i (fun w9 : BS => gW cy a w9) (va_runS (As := [.ref (aO a), .int 7, .int (nI ((k / 16) % n)), .int 0, .int 0]) (rest := []) hF (c_L_call_7 l D cy hl0 a v u_2 hO hR_4 (nI ((k / 16) % n)) 0 0 H.size) (va_cwS 5 hts gL_act_L_call rfl rfl rfl (by decide +kernel) ⟨Nat.le_of_ble_eq_true rfl, Nat.le_of_ble_eq_true rfl⟩) (wrX_preS hK hP hD (zz_all _) Xok_l (fun U hU hW => Gl.at hX hS (zz_free hD (zz_all _) hS hA) hU hW)) rfl rfl hl.1 rfl (lv_room (Nat.le_of_ble_eq_true rfl)) dL_act_276 ⟨Nat.le_of_ble_eq_true rfl, Nat.le_of_ble_eq_true rfl⟩) hP hD hS hA (zz_all _) (fun _ => zz_all _) (fun r_95 u_96 H locs e_97 hP hD hS => ?_)
  obtain ⟨x_99, hR_98⟩ : r_95 = (aPress v (nI ((k / 16) % n))).1 ∧ Rep ((aPress v (nI ((k / 16) % n))).2) u_96 := by exact e_97
  subst x_99
  have hP : va_P D vwCl (gW cy a u_96) H := hP
  have hD : va_D A (gW cy a u_96) := hD
  refine W.widen (k := 40) (n := 250) (by omega) (by omega) ?_
  exact hret _ _ H locs _ u_96 dL_act_279 hP hD hS (by rw [act_9 hx hk]; exact ⟨rfl, hR_98⟩)
