abbrev rm_L_presses : Room := { frames := 14, cells := 150, slots := 900, locals := 317 }
set_option maxHeartbeats 4000000 in
set_option maxRecDepth 100000 in
theorem c_L_presses0 (l : Launch) (D : va_G) (cy : Nat → ClassId) (hl0 : l.stackTraces = false) (a c9 : AD) (v : AV) (u w : BS) (B k g : Nat) (hk9 : k < 2 ^ 31) (hg9 : k % hN v.1 = g) (hgn : g < hN v.1) (hw : hReas v.1 (nI g) = 0) (hI : Inv B v) (hR : Rep v u) (hR2 : Rep v w) (sz : Nat) : bMet l yL_presses wsL_presses rm_L_presses D cy a c9 [.int (nI k)] u w sz (fun (r : Int32) (w : BS × BS) => r = 1 ∧ ∃ v2, Sfx v2 v ∧ Rep v2 w.1 ∧ Rep v2 w.2) 150 900 := by
  refine MwiX (cc := cL_presses) (maxL := 18) (ty := .boolean) (by decide) rfl (Nat.le_of_ble_eq_true rfl) (fun _ _ q => by rw [q.1]; rfl) ?_
  intro p e s m args below meth c Q ls A hAe hsz hX0 hF hK hP hD hA hl hret
  rw [← hsz, ← hAe] at hX0
  have hX : Gl A s := hX0
  obtain ⟨hx9, hb, hml, hown, hts⟩ := id hF
  have hown : s.vm.findClass RL = some m.cls := hown
  have hl : lv_has ls 18 [(0, .ref (aO a)), (1, .ref (aO c9)), (2, .int (nI k))] := hl
  have hret : ∀ (pc : Nat) (ls : Array Slot) (H : Heap) (locs : List Loc) (r : Int32) (u : BS × BS), decode cL_presses pc = .ok (.ireturn, 1) → va_P D vwCl (gW cy a u.1 ++ gW cy c9 u.2) H → va_D A (gW cy a u.1 ++ gW cy c9 u.2) → va_S A s.heap H locs → (fun (r : Int32) (w : BS × BS) => r = 1 ∧ ∃ v2, Sfx v2 v ∧ Rep v2 w.1 ∧ Rep v2 w.2) r u → W p l e rm_L_presses s m args below meth c H locs 150 900 Q (F0 m pc ls [.int r]) := hret
  obtain ⟨n, hn1, hx⟩ := hI.1
  have hO := hI.Ok
  obtain ⟨hn, hgu, hok⟩ := hx.ok
  have hn9 := hx.n
  rw [hn9] at hg9 hgn
  obtain ⟨y, hy⟩ : ∃ y, y = hPress n v.1 (nI g) := ⟨_, rfl⟩
  have hx2 : Hx (B + 1) n (aPush v y).1 := by rw [hy]; exact hx_press hx hgn
  have hO2 : Okv (aPush v y) := ⟨hx2.O, hO.2.1, hO.2.2⟩
  have hb1 : Bk 1 (aPush v y) v := bk_push (bk_0 hI.2.2.2.1) (by decide)
  obtain ⟨⟨ua, hua, eua⟩, hbk⟩ := bk_pop hb1
  obtain ⟨v2, hv2⟩ : ∃ v2, v2 = (aUndo (aPush v y)).2 := ⟨_, rfl⟩
  rw [← hv2] at hbk
  have hsf : Sfx v2 v := bk_end hbk
  have hI2 : Inv B v2 := hI.sfx hsf
  have hO3 := hI2.Ok
  have hx3 : Hx B n v2.1 := by rw [hsf.1]; exact hx
  have hyg : y = hGo n g v.1 := hy.trans (press_0 hn hgn hw)
  obtain ⟨g1, y_fl, y_se, y_pr, y_re, y_sg, -⟩ := go_spec hgn hok (fun i hi => (hx.2.2.2 i hi).2.2.2.2.2)
  rw [← hyg] at y_fl y_se y_pr y_re y_sg
  have y_left := left_go hx hgn hw
  rw [← hyg] at y_left
  have y_ld := go_load (j := g) hn (fun i hi => by obtain ⟨-, -, ⟨w, -, w2, w3⟩, -⟩ := hx.2.2.2 i hi; exact ⟨w, w2, w3⟩)
  rw [← hyg] at y_ld
  suffices key : ∀ (H : Heap) (locs : List Loc), va_P D vwCl (gW cy a u ++ gW cy c9 w) H → va_D A (gW cy a u ++ gW cy c9 w) → va_S A s.heap H locs → W p l e rm_L_presses s m args below meth c H locs 0 0 Q (F0 m 0 ls []) from key s.heap [] hP hD va_S.rf
  intro H locs hP hD hS
  refine lv_iload_n hx9 hb dL_presses_0 rfl (lv_at hl 2 rfl) ?_
  refine lv_aload_n hx9 hb dL_presses_1 rfl (lv_at hl 0 rfl) ?_
  refine lv_iconst (v := 2) hx9 hb dL_presses_2 (by decide) ?_
  refine lv_iconst (v := 0) hx9 hb dL_presses_3 (by decide) ?_
  refine lv_iconst (v := 0) hx9 hb dL_presses_4 (by decide) ?_
  refine lv_iconst (v := 0) hx9 hb dL_presses_5 (by decide) ?_
  refine wr_i (fun w9 : BS => gW cy a w9 ++ gW cy c9 w) (va_runS (As := [.ref (aO a), .int 2, .int 0, .int 0, .int 0]) (rest := [.int (nI k)]) hF (c_L_call_2 l D cy hl0 a v u hO hR 0 0 0 H.size) (va_cwS 5 hts gL_presses_L_call rfl rfl rfl (by decide +kernel) ⟨Nat.le_of_ble_eq_true rfl, Nat.le_of_ble_eq_true rfl⟩) (wrX_preS hK hP hD (List.Perm.refl _) Xok_l (fun U hU hW => Gl.at hX hS (zz_free hD (List.Perm.refl _) hS hA) hU hW)) rfl rfl hl.1 rfl (lv_room (Nat.le_of_ble_eq_true rfl)) dL_presses_6 ⟨Nat.le_of_ble_eq_true rfl, Nat.le_of_ble_eq_true rfl⟩) hP hD hS hA (List.Perm.refl _) (fun _ => List.Perm.refl _) (fun r_1 u_2 H locs e_3 hP hD hS => ?_)
  obtain ⟨x_5, hR_4⟩ : r_1 = nI n ∧ Rep v u_2 := by rw [qAb_0 hx] at e_3; exact e_3
  subst x_5
  have hP : va_P D vwCl (gW cy a u_2 ++ gW cy c9 w) H := hP
  have hD : va_D A (gW cy a u_2 ++ gW cy c9 w) := hD
  refine lv_irem hx9 hb dL_presses_9 (nI_ne0 (by omega) (by omega)) ?_
  refine zz_top (y := nI (k % n)) (pk_rem (by omega) (by omega) (by omega)) ?_
  refine zz_top (y := nI g) (by rw [hg9]) ?_
  refine lv_istore_n (lv' := [(3, .int (nI g)), (0, .ref (aO a)), (1, .ref (aO c9)), (2, .int (nI k))]) hx9 hb dL_presses_10 rfl hl (by decide) rfl (fun ls hl => ?_)
  refine lv_aload_n hx9 hb dL_presses_11 rfl (lv_at hl 1 rfl) ?_
  refine lv_bipush (v := 10) hx9 hb dL_presses_12 (by decide) ?_
  refine lv_iload_n hx9 hb dL_presses_14 rfl (lv_at hl 0 rfl) ?_
  refine lv_iconst (v := 0) hx9 hb dL_presses_15 (by decide) ?_
  refine lv_iconst (v := 0) hx9 hb dL_presses_16 (by decide) ?_
  refine wr_i (fun w9 : BS => gW cy a w9 ++ gW cy c9 w) (va_runS (As := [.ref (aO a), .int 10, .int (nI g), .int 0, .int 0]) (rest := []) hF (c_L_call_10 l D cy hl0 a v u_2 hO hR_4 (nI g) 0 0 H.size) (va_cwS 5 hts gL_presses_L_call rfl rfl rfl (by decide +kernel) ⟨Nat.le_of_ble_eq_true rfl, Nat.le_of_ble_eq_true rfl⟩) (wrX_preS hK hP hD (List.Perm.refl _) Xok_l (fun U hU hW => Gl.at hX hS (zz_free hD (List.Perm.refl _) hS hA) hU hW)) rfl rfl hl.1 rfl (lv_room (Nat.le_of_ble_eq_true rfl)) dL_presses_17 ⟨Nat.le_of_ble_eq_true rfl, Nat.le_of_ble_eq_true rfl⟩) hP hD hS hA (List.Perm.refl _) (fun _ => List.Perm.refl _) (fun r_6 u_7 H locs e_8 hP hD hS => ?_)
  obtain ⟨x_10, hR_9⟩ : r_6 = hReas v.1 (nI g) ∧ Rep v u_7 := by rw [qWh_g hx hgn] at e_8; exact e_8
  subst x_10
  have hP : va_P D vwCl (gW cy a u_7 ++ gW cy c9 w) H := hP
  have hD : va_D A (gW cy a u_7 ++ gW cy c9 w) := hD
  refine lv_istore (lv' := [(4, .int (hReas v.1 (nI g))), (3, .int (nI g)), (0, .ref (aO a)), (1, .ref (aO c9)), (2, .int (nI k))]) hx9 hb dL_presses_20 hl (by decide) rfl (fun ls hl => ?_)
  refine lv_aload_n hx9 hb dL_presses_22 rfl (lv_at hl 2 rfl) ?_
  refine lv_bipush (v := 13) hx9 hb dL_presses_23 (by decide) ?_
  refine lv_iload_n hx9 hb dL_presses_25 rfl (lv_at hl 1 rfl) ?_
  refine lv_iconst (v := 0) hx9 hb dL_presses_26 (by decide) ?_
  refine lv_iconst (v := 0) hx9 hb dL_presses_27 (by decide) ?_
  refine wr_i (fun w9 : BS => gW cy a w9 ++ gW cy c9 w) (va_runS (As := [.ref (aO a), .int 13, .int (nI g), .int 0, .int 0]) (rest := []) hF (c_L_call_13 l D cy hl0 a v u_7 hO hR_9 (nI g) 0 0 H.size) (va_cwS 5 hts gL_presses_L_call rfl rfl rfl (by decide +kernel) ⟨Nat.le_of_ble_eq_true rfl, Nat.le_of_ble_eq_true rfl⟩) (wrX_preS hK hP hD (List.Perm.refl _) Xok_l (fun U hU hW => Gl.at hX hS (zz_free hD (List.Perm.refl _) hS hA) hU hW)) rfl rfl hl.1 rfl (lv_room (Nat.le_of_ble_eq_true rfl)) dL_presses_28 ⟨Nat.le_of_ble_eq_true rfl, Nat.le_of_ble_eq_true rfl⟩) hP hD hS hA (List.Perm.refl _) (fun _ => List.Perm.refl _) (fun r_11 u_12 H locs e_13 hP hD hS => ?_)
  obtain ⟨x_15, hR_14⟩ : r_11 = hStandR n v.1 (nI g) ∧ Rep v u_12 := by rw [qLe_g hx hgn] at e_13; exact e_13
  subst x_15
  have hP : va_P D vwCl (gW cy a u_12 ++ gW cy c9 w) H := hP
  have hD : va_D A (gW cy a u_12 ++ gW cy c9 w) := hD
  refine lv_istore (lv' := [(5, .int (hStandR n v.1 (nI g))), (4, .int (hReas v.1 (nI g))), (3, .int (nI g)), (0, .ref (aO a)), (1, .ref (aO c9)), (2, .int (nI k))]) hx9 hb dL_presses_31 hl (by decide) rfl (fun ls hl => ?_)
  refine lv_aload_n hx9 hb dL_presses_33 rfl (lv_at hl 3 rfl) ?_
  refine lv_iconst (v := 3) hx9 hb dL_presses_34 (by decide) ?_
  refine lv_iload_n hx9 hb dL_presses_35 rfl (lv_at hl 2 rfl) ?_
  refine lv_iconst (v := 0) hx9 hb dL_presses_36 (by decide) ?_
  refine lv_iconst (v := 0) hx9 hb dL_presses_37 (by decide) ?_
  refine wr_i (fun w9 : BS => gW cy a w9 ++ gW cy c9 w) (va_runS (As := [.ref (aO a), .int 3, .int (nI g), .int 0, .int 0]) (rest := []) hF (c_L_call_3 l D cy hl0 a v u_12 hO hR_14 (nI g) 0 0 H.size) (va_cwS 5 hts gL_presses_L_call rfl rfl rfl (by decide +kernel) ⟨Nat.le_of_ble_eq_true rfl, Nat.le_of_ble_eq_true rfl⟩) (wrX_preS hK hP hD (List.Perm.refl _) Xok_l (fun U hU hW => Gl.at hX hS (zz_free hD (List.Perm.refl _) hS hA) hU hW)) rfl rfl hl.1 rfl (lv_room (Nat.le_of_ble_eq_true rfl)) dL_presses_38 ⟨Nat.le_of_ble_eq_true rfl, Nat.le_of_ble_eq_true rfl⟩) hP hD hS hA (List.Perm.refl _) (fun _ => List.Perm.refl _) (fun r_16 u_17 H locs e_18 hP hD hS => ?_)
  obtain ⟨x_20, hR_19⟩ : r_16 = v.1.2.2.1 g ∧ Rep v u_17 := by rw [qGu_0 hx hgn] at e_18; exact e_18
  subst x_20
  have hP : va_P D vwCl (gW cy a u_17 ++ gW cy c9 w) H := hP
  have hD : va_D A (gW cy a u_17 ++ gW cy c9 w) := hD
  refine lv_istore (lv' := [(6, .int (v.1.2.2.1 g)), (5, .int (hStandR n v.1 (nI g))), (4, .int (hReas v.1 (nI g))), (3, .int (nI g)), (0, .ref (aO a)), (1, .ref (aO c9)), (2, .int (nI k))]) hx9 hb dL_presses_41 hl (by decide) rfl (fun ls hl => ?_)
  refine lv_aload_n hx9 hb dL_presses_43 rfl (lv_at hl 4 rfl) ?_
  refine lv_iconst (v := 2) hx9 hb dL_presses_44 (by decide) ?_
  refine lv_iconst (v := 1) hx9 hb dL_presses_45 (by decide) ?_
  refine lv_iconst (v := 0) hx9 hb dL_presses_46 (by decide) ?_
  refine lv_iconst (v := 0) hx9 hb dL_presses_47 (by decide) ?_
  refine wr_i (fun w9 : BS => gW cy a w9 ++ gW cy c9 w) (va_runS (As := [.ref (aO a), .int 2, .int 1, .int 0, .int 0]) (rest := []) hF (c_L_call_2 l D cy hl0 a v u_17 hO hR_19 1 0 0 H.size) (va_cwS 5 hts gL_presses_L_call rfl rfl rfl (by decide +kernel) ⟨Nat.le_of_ble_eq_true rfl, Nat.le_of_ble_eq_true rfl⟩) (wrX_preS hK hP hD (List.Perm.refl _) Xok_l (fun U hU hW => Gl.at hX hS (zz_free hD (List.Perm.refl _) hS hA) hU hW)) rfl rfl hl.1 rfl (lv_room (Nat.le_of_ble_eq_true rfl)) dL_presses_48 ⟨Nat.le_of_ble_eq_true rfl, Nat.le_of_ble_eq_true rfl⟩) hP hD hS hA (List.Perm.refl _) (fun _ => List.Perm.refl _) (fun r_21 u_22 H locs e_23 hP hD hS => ?_)
  obtain ⟨x_25, hR_24⟩ : r_21 = v.1.1.2.1 ∧ Rep v u_22 := by rw [qAb_1 hx] at e_23; exact e_23
  subst x_25
  have hP : va_P D vwCl (gW cy a u_22 ++ gW cy c9 w) H := hP
  have hD : va_D A (gW cy a u_22 ++ gW cy c9 w) := hD
  refine lv_istore (lv' := [(7, .int v.1.1.2.1), (6, .int (v.1.2.2.1 g)), (5, .int (hStandR n v.1 (nI g))), (4, .int (hReas v.1 (nI g))), (3, .int (nI g)), (0, .ref (aO a)), (1, .ref (aO c9)), (2, .int (nI k))]) hx9 hb dL_presses_51 hl (by decide) rfl (fun ls hl => ?_)
  have jn_73 : ∀ (u_26 : BS) (u_28 : BS) (H : Heap) (locs : List Loc) (ls : Array Slot), Rep v u_26 → Rep v u_28 → va_P D vwCl (gW cy a u_26 ++ gW cy c9 u_28) H → va_D A (gW cy a u_26 ++ gW cy c9 u_28) → va_S A s.heap H locs → lv_has ls 18 [(7, .int v.1.1.2.1), (6, .int (v.1.2.2.1 g)), (5, .int (hStandR n v.1 (nI g))), (4, .int (hReas v.1 (nI g))), (3, .int (nI g)), (0, .ref (aO a)), (1, .ref (aO c9)), (2, .int (nI k))] → W p l e rm_L_presses s m args below meth c H locs (6) (36) Q (F0 m 73 ls [.int (vHi (v.1.2.2.1 g) v.1.1.2.1 - vLo (v.1.2.2.1 g) v.1.1.2.1)]) := by
    intro u_26 u_28 H locs ls hR_27 hR_29 hP hD hS hl
    refine lv_istore (lv' := [(8, .int (vHi (v.1.2.2.1 g) v.1.1.2.1 - vLo (v.1.2.2.1 g) v.1.1.2.1)), (7, .int v.1.1.2.1), (6, .int (v.1.2.2.1 g)), (5, .int (hStandR n v.1 (nI g))), (4, .int (hReas v.1 (nI g))), (3, .int (nI g)), (0, .ref (aO a)), (1, .ref (aO c9)), (2, .int (nI k))]) hx9 hb dL_presses_73 hl (by decide) rfl (fun ls hl => ?_)
    refine lv_aload_n hx9 hb dL_presses_75 rfl (lv_at hl 6 rfl) ?_
    refine lv_iconst (v := 2) hx9 hb dL_presses_76 (by decide) ?_
    refine lv_bipush (v := 6) hx9 hb dL_presses_77 (by decide) ?_
    refine lv_iconst (v := 0) hx9 hb dL_presses_79 (by decide) ?_
    refine lv_iconst (v := 0) hx9 hb dL_presses_80 (by decide) ?_
    refine wr_i (fun w9 : BS => gW cy a w9 ++ gW cy c9 u_28) (va_runS (As := [.ref (aO a), .int 2, .int 6, .int 0, .int 0]) (rest := []) hF (c_L_call_2 l D cy hl0 a v u_26 hO hR_27 6 0 0 H.size) (va_cwS 5 hts gL_presses_L_call rfl rfl rfl (by decide +kernel) ⟨Nat.le_of_ble_eq_true rfl, Nat.le_of_ble_eq_true rfl⟩) (wrX_preS hK hP hD (List.Perm.refl _) Xok_l (fun U hU hW => Gl.at hX hS (zz_free hD (List.Perm.refl _) hS hA) hU hW)) rfl rfl hl.1 rfl (lv_room (Nat.le_of_ble_eq_true rfl)) dL_presses_81 ⟨Nat.le_of_ble_eq_true rfl, Nat.le_of_ble_eq_true rfl⟩) hP hD hS hA (List.Perm.refl _) (fun _ => List.Perm.refl _) (fun r_30 u_31 H locs e_32 hP hD hS => ?_)
    obtain ⟨x_34, hR_33⟩ : r_30 = v.1.1.2.2.1 ∧ Rep v u_31 := by rw [qAb_6 hx] at e_32; exact e_32
    subst x_34
    have hP : va_P D vwCl (gW cy a u_31 ++ gW cy c9 u_28) H := hP
    have hD : va_D A (gW cy a u_31 ++ gW cy c9 u_28) := hD
    refine lv_istore (lv' := [(9, .int v.1.1.2.2.1), (8, .int (vHi (v.1.2.2.1 g) v.1.1.2.1 - vLo (v.1.2.2.1 g) v.1.1.2.1)), (7, .int v.1.1.2.1), (6, .int (v.1.2.2.1 g)), (5, .int (hStandR n v.1 (nI g))), (4, .int (hReas v.1 (nI g))), (3, .int (nI g)), (0, .ref (aO a)), (1, .ref (aO c9)), (2, .int (nI k))]) hx9 hb dL_presses_84 hl (by decide) rfl (fun ls hl => ?_)
    refine lv_aload_n hx9 hb dL_presses_86 rfl (lv_at hl 7 rfl) ?_
    refine lv_bipush (v := 12) hx9 hb dL_presses_87 (by decide) ?_
    refine lv_iconst (v := 1) hx9 hb dL_presses_89 (by decide) ?_
    refine lv_iload_n hx9 hb dL_presses_90 rfl (lv_at hl 6 rfl) ?_
    refine lv_iconst (v := 1) hx9 hb dL_presses_91 (by decide) ?_
    refine wr_i (fun w9 : BS => gW cy a w9 ++ gW cy c9 u_28) (va_runS (As := [.ref (aO a), .int 12, .int 1, .int (nI g), .int 1]) (rest := []) hF (c_L_call_12 l D cy hl0 a v u_31 hO hR_33 1 (nI g) 1 H.size) (va_cwS 5 hts gL_presses_L_call rfl rfl rfl (by decide +kernel) ⟨Nat.le_of_ble_eq_true rfl, Nat.le_of_ble_eq_true rfl⟩) (wrX_preS hK hP hD (List.Perm.refl _) Xok_l (fun U hU hW => Gl.at hX hS (zz_free hD (List.Perm.refl _) hS hA) hU hW)) rfl rfl hl.1 rfl (lv_room (Nat.le_of_ble_eq_true rfl)) dL_presses_92 ⟨Nat.le_of_ble_eq_true rfl, Nat.le_of_ble_eq_true rfl⟩) hP hD hS hA (List.Perm.refl _) (fun _ => List.Perm.refl _) (fun r_35 u_36 H locs e_37 hP hD hS => ?_)
    obtain ⟨x_39, hR_38⟩ : r_35 = y.1.2.2.1 - v.1.1.2.2.1 ∧ Rep v u_36 := by rw [qIf_1 hx hgn, ← hy] at e_37; exact e_37
    subst x_39
    have hP : va_P D vwCl (gW cy a u_36 ++ gW cy c9 u_28) H := hP
    have hD : va_D A (gW cy a u_36 ++ gW cy c9 u_28) := hD
    refine lv_istore (lv' := [(10, .int (y.1.2.2.1 - v.1.1.2.2.1)), (9, .int v.1.1.2.2.1), (8, .int (vHi (v.1.2.2.1 g) v.1.1.2.1 - vLo (v.1.2.2.1 g) v.1.1.2.1)), (7, .int v.1.1.2.1), (6, .int (v.1.2.2.1 g)), (5, .int (hStandR n v.1 (nI g))), (4, .int (hReas v.1 (nI g))), (3, .int (nI g)), (0, .ref (aO a)), (1, .ref (aO c9)), (2, .int (nI k))]) hx9 hb dL_presses_95 hl (by decide) rfl (fun ls hl => ?_)
    refine lv_aload_n hx9 hb dL_presses_97 rfl (lv_at hl 8 rfl) ?_
    refine lv_bipush (v := 12) hx9 hb dL_presses_98 (by decide) ?_
    refine lv_iconst (v := 1) hx9 hb dL_presses_100 (by decide) ?_
    refine lv_iload_n hx9 hb dL_presses_101 rfl (lv_at hl 7 rfl) ?_
    refine lv_iconst (v := 2) hx9 hb dL_presses_102 (by decide) ?_
    refine wr_i (fun w9 : BS => gW cy a w9 ++ gW cy c9 u_28) (va_runS (As := [.ref (aO a), .int 12, .int 1, .int (nI g), .int 2]) (rest := []) hF (c_L_call_12 l D cy hl0 a v u_36 hO hR_38 1 (nI g) 2 H.size) (va_cwS 5 hts gL_presses_L_call rfl rfl rfl (by decide +kernel) ⟨Nat.le_of_ble_eq_true rfl, Nat.le_of_ble_eq_true rfl⟩) (wrX_preS hK hP hD (List.Perm.refl _) Xok_l (fun U hU hW => Gl.at hX hS (zz_free hD (List.Perm.refl _) hS hA) hU hW)) rfl rfl hl.1 rfl (lv_room (Nat.le_of_ble_eq_true rfl)) dL_presses_103 ⟨Nat.le_of_ble_eq_true rfl, Nat.le_of_ble_eq_true rfl⟩) hP hD hS hA (List.Perm.refl _) (fun _ => List.Perm.refl _) (fun r_40 u_41 H locs e_42 hP hD hS => ?_)
    obtain ⟨x_44, hR_43⟩ : r_40 = hAG n y ∧ Rep v u_41 := by rw [qIf_2 hx hgn, ← hy] at e_42; exact e_42
    subst x_44
    have hP : va_P D vwCl (gW cy a u_41 ++ gW cy c9 u_28) H := hP
    have hD : va_D A (gW cy a u_41 ++ gW cy c9 u_28) := hD
    refine lv_istore (lv' := [(11, .int (hAG n y)), (10, .int (y.1.2.2.1 - v.1.1.2.2.1)), (9, .int v.1.1.2.2.1), (8, .int (vHi (v.1.2.2.1 g) v.1.1.2.1 - vLo (v.1.2.2.1 g) v.1.1.2.1)), (7, .int v.1.1.2.1), (6, .int (v.1.2.2.1 g)), (5, .int (hStandR n v.1 (nI g))), (4, .int (hReas v.1 (nI g))), (3, .int (nI g)), (0, .ref (aO a)), (1, .ref (aO c9)), (2, .int (nI k))]) hx9 hb dL_presses_106 hl (by decide) rfl (fun ls hl => ?_)
    refine lv_aload_n hx9 hb dL_presses_108 rfl (lv_at hl 9 rfl) ?_
    refine lv_bipush (v := 12) hx9 hb dL_presses_109 (by decide) ?_
    refine lv_iconst (v := 1) hx9 hb dL_presses_111 (by decide) ?_
    refine lv_iload_n hx9 hb dL_presses_112 rfl (lv_at hl 8 rfl) ?_
    refine lv_iconst (v := 3) hx9 hb dL_presses_113 (by decide) ?_
    refine wr_i (fun w9 : BS => gW cy a w9 ++ gW cy c9 u_28) (va_runS (As := [.ref (aO a), .int 12, .int 1, .int (nI g), .int 3]) (rest := []) hF (c_L_call_12 l D cy hl0 a v u_41 hO hR_43 1 (nI g) 3 H.size) (va_cwS 5 hts gL_presses_L_call rfl rfl rfl (by decide +kernel) ⟨Nat.le_of_ble_eq_true rfl, Nat.le_of_ble_eq_true rfl⟩) (wrX_preS hK hP hD (List.Perm.refl _) Xok_l (fun U hU hW => Gl.at hX hS (zz_free hD (List.Perm.refl _) hS hA) hU hW)) rfl rfl hl.1 rfl (lv_room (Nat.le_of_ble_eq_true rfl)) dL_presses_114 ⟨Nat.le_of_ble_eq_true rfl, Nat.le_of_ble_eq_true rfl⟩) hP hD hS hA (List.Perm.refl _) (fun _ => List.Perm.refl _) (fun r_45 u_46 H locs e_47 hP hD hS => ?_)
    obtain ⟨x_49, hR_48⟩ : r_45 = hGI n y 2 ∧ Rep v u_46 := by rw [qIf_3 hx hgn, ← hy] at e_47; exact e_47
    subst x_49
    have hP : va_P D vwCl (gW cy a u_46 ++ gW cy c9 u_28) H := hP
    have hD : va_D A (gW cy a u_46 ++ gW cy c9 u_28) := hD
    refine lv_istore (lv' := [(12, .int (hGI n y 2)), (11, .int (hAG n y)), (10, .int (y.1.2.2.1 - v.1.1.2.2.1)), (9, .int v.1.1.2.2.1), (8, .int (vHi (v.1.2.2.1 g) v.1.1.2.1 - vLo (v.1.2.2.1 g) v.1.1.2.1)), (7, .int v.1.1.2.1), (6, .int (v.1.2.2.1 g)), (5, .int (hStandR n v.1 (nI g))), (4, .int (hReas v.1 (nI g))), (3, .int (nI g)), (0, .ref (aO a)), (1, .ref (aO c9)), (2, .int (nI k))]) hx9 hb dL_presses_117 hl (by decide) rfl (fun ls hl => ?_)
    refine lv_aload_n hx9 hb dL_presses_119 rfl (lv_at hl 10 rfl) ?_
    refine lv_iconst (v := 2) hx9 hb dL_presses_120 (by decide) ?_
    refine lv_bipush (v := 8) hx9 hb dL_presses_121 (by decide) ?_
    refine lv_iconst (v := 0) hx9 hb dL_presses_123 (by decide) ?_
    refine lv_iconst (v := 0) hx9 hb dL_presses_124 (by decide) ?_
    refine wr_i (fun w9 : BS => gW cy a w9 ++ gW cy c9 u_28) (va_runS (As := [.ref (aO a), .int 2, .int 8, .int 0, .int 0]) (rest := []) hF (c_L_call_2 l D cy hl0 a v u_46 hO hR_48 8 0 0 H.size) (va_cwS 5 hts gL_presses_L_call rfl rfl rfl (by decide +kernel) ⟨Nat.le_of_ble_eq_true rfl, Nat.le_of_ble_eq_true rfl⟩) (wrX_preS hK hP hD (List.Perm.refl _) Xok_l (fun U hU hW => Gl.at hX hS (zz_free hD (List.Perm.refl _) hS hA) hU hW)) rfl rfl hl.1 rfl (lv_room (Nat.le_of_ble_eq_true rfl)) dL_presses_125 ⟨Nat.le_of_ble_eq_true rfl, Nat.le_of_ble_eq_true rfl⟩) hP hD hS hA (List.Perm.refl _) (fun _ => List.Perm.refl _) (fun r_50 u_51 H locs e_52 hP hD hS => ?_)
    obtain ⟨x_54, hR_53⟩ : r_50 = v.1.1.2.2.2.2.1 ∧ Rep v u_51 := by rw [qAb_8 hx] at e_52; exact e_52
    subst x_54
    have hP : va_P D vwCl (gW cy a u_51 ++ gW cy c9 u_28) H := hP
    have hD : va_D A (gW cy a u_51 ++ gW cy c9 u_28) := hD
    refine lv_istore (lv' := [(13, .int v.1.1.2.2.2.2.1), (12, .int (hGI n y 2)), (11, .int (hAG n y)), (10, .int (y.1.2.2.1 - v.1.1.2.2.1)), (9, .int v.1.1.2.2.1), (8, .int (vHi (v.1.2.2.1 g) v.1.1.2.1 - vLo (v.1.2.2.1 g) v.1.1.2.1)), (7, .int v.1.1.2.1), (6, .int (v.1.2.2.1 g)), (5, .int (hStandR n v.1 (nI g))), (4, .int (hReas v.1 (nI g))), (3, .int (nI g)), (0, .ref (aO a)), (1, .ref (aO c9)), (2, .int (nI k))]) hx9 hb dL_presses_128 hl (by decide) rfl (fun ls hl => ?_)
    refine lv_aload_n hx9 hb dL_presses_130 rfl (lv_at hl 11 rfl) ?_
    refine lv_iconst (v := 2) hx9 hb dL_presses_131 (by decide) ?_
    refine lv_iconst (v := 2) hx9 hb dL_presses_132 (by decide) ?_
    refine lv_iconst (v := 0) hx9 hb dL_presses_133 (by decide) ?_
    refine lv_iconst (v := 0) hx9 hb dL_presses_134 (by decide) ?_
    refine wr_i (fun w9 : BS => gW cy a w9 ++ gW cy c9 u_28) (va_runS (As := [.ref (aO a), .int 2, .int 2, .int 0, .int 0]) (rest := []) hF (c_L_call_2 l D cy hl0 a v u_51 hO hR_53 2 0 0 H.size) (va_cwS 5 hts gL_presses_L_call rfl rfl rfl (by decide +kernel) ⟨Nat.le_of_ble_eq_true rfl, Nat.le_of_ble_eq_true rfl⟩) (wrX_preS hK hP hD (List.Perm.refl _) Xok_l (fun U hU hW => Gl.at hX hS (zz_free hD (List.Perm.refl _) hS hA) hU hW)) rfl rfl hl.1 rfl (lv_room (Nat.le_of_ble_eq_true rfl)) dL_presses_135 ⟨Nat.le_of_ble_eq_true rfl, Nat.le_of_ble_eq_true rfl⟩) hP hD hS hA (List.Perm.refl _) (fun _ => List.Perm.refl _) (fun r_55 u_56 H locs e_57 hP hD hS => ?_)
    obtain ⟨x_59, hR_58⟩ : r_55 = hWR n v.1 ∧ Rep v u_56 := by rw [qAb_2 hx] at e_57; exact e_57
    subst x_59
    have hP : va_P D vwCl (gW cy a u_56 ++ gW cy c9 u_28) H := hP
    have hD : va_D A (gW cy a u_56 ++ gW cy c9 u_28) := hD
    refine lv_istore (lv' := [(14, .int (hWR n v.1)), (13, .int v.1.1.2.2.2.2.1), (12, .int (hGI n y 2)), (11, .int (hAG n y)), (10, .int (y.1.2.2.1 - v.1.1.2.2.1)), (9, .int v.1.1.2.2.1), (8, .int (vHi (v.1.2.2.1 g) v.1.1.2.1 - vLo (v.1.2.2.1 g) v.1.1.2.1)), (7, .int v.1.1.2.1), (6, .int (v.1.2.2.1 g)), (5, .int (hStandR n v.1 (nI g))), (4, .int (hReas v.1 (nI g))), (3, .int (nI g)), (0, .ref (aO a)), (1, .ref (aO c9)), (2, .int (nI k))]) hx9 hb dL_presses_138 hl (by decide) rfl (fun ls hl => ?_)
    refine lv_aload_n hx9 hb dL_presses_140 rfl (lv_at hl 12 rfl) ?_
    refine lv_iconst (v := 5) hx9 hb dL_presses_141 (by decide) ?_
    refine lv_iconst (v := 0) hx9 hb dL_presses_142 (by decide) ?_
    refine lv_iconst (v := 0) hx9 hb dL_presses_143 (by decide) ?_
    refine lv_iconst (v := 0) hx9 hb dL_presses_144 (by decide) ?_
    refine wr_i (fun w9 : BS => gW cy a w9 ++ gW cy c9 u_28) (va_runS (As := [.ref (aO a), .int 5, .int 0, .int 0, .int 0]) (rest := []) hF (c_L_call_5 l D cy hl0 a v u_56 hO hR_58 0 0 0 H.size) (va_cwS 5 hts gL_presses_L_call rfl rfl rfl (by decide +kernel) ⟨Nat.le_of_ble_eq_true rfl, Nat.le_of_ble_eq_true rfl⟩) (wrX_preS hK hP hD (List.Perm.refl _) Xok_l (fun U hU hW => Gl.at hX hS (zz_free hD (List.Perm.refl _) hS hA) hU hW)) rfl rfl hl.1 rfl (lv_room (Nat.le_of_ble_eq_true rfl)) dL_presses_145 ⟨Nat.le_of_ble_eq_true rfl, Nat.le_of_ble_eq_true rfl⟩) hP hD hS hA (List.Perm.refl _) (fun _ => List.Perm.refl _) (fun r_60 u_61 H locs e_62 hP hD hS => ?_)
    obtain ⟨x_64, hR_63⟩ : r_60 = v.1.2.1 0 ∧ Rep v u_61 := by rw [qSe_0] at e_62; exact e_62
    subst x_64
    have hP : va_P D vwCl (gW cy a u_61 ++ gW cy c9 u_28) H := hP
    have hD : va_D A (gW cy a u_61 ++ gW cy c9 u_28) := hD
    refine lv_istore (lv' := [(15, .int (v.1.2.1 0)), (14, .int (hWR n v.1)), (13, .int v.1.1.2.2.2.2.1), (12, .int (hGI n y 2)), (11, .int (hAG n y)), (10, .int (y.1.2.2.1 - v.1.1.2.2.1)), (9, .int v.1.1.2.2.1), (8, .int (vHi (v.1.2.2.1 g) v.1.1.2.1 - vLo (v.1.2.2.1 g) v.1.1.2.1)), (7, .int v.1.1.2.1), (6, .int (v.1.2.2.1 g)), (5, .int (hStandR n v.1 (nI g))), (4, .int (hReas v.1 (nI g))), (3, .int (nI g)), (0, .ref (aO a)), (1, .ref (aO c9)), (2, .int (nI k))]) hx9 hb dL_presses_148 hl (by decide) rfl (fun ls hl => ?_)
    refine lv_aload_n hx9 hb dL_presses_150 rfl (lv_at hl 13 rfl) ?_
    refine lv_bipush (v := 12) hx9 hb dL_presses_151 (by decide) ?_
    refine lv_iconst (v := 1) hx9 hb dL_presses_153 (by decide) ?_
    refine lv_iload_n hx9 hb dL_presses_154 rfl (lv_at hl 12 rfl) ?_
    refine lv_iconst (v := 0) hx9 hb dL_presses_155 (by decide) ?_
    refine wr_i (fun w9 : BS => gW cy a w9 ++ gW cy c9 u_28) (va_runS (As := [.ref (aO a), .int 12, .int 1, .int (nI g), .int 0]) (rest := []) hF (c_L_call_12 l D cy hl0 a v u_61 hO hR_63 1 (nI g) 0 H.size) (va_cwS 5 hts gL_presses_L_call rfl rfl rfl (by decide +kernel) ⟨Nat.le_of_ble_eq_true rfl, Nat.le_of_ble_eq_true rfl⟩) (wrX_preS hK hP hD (List.Perm.refl _) Xok_l (fun U hU hW => Gl.at hX hS (zz_free hD (List.Perm.refl _) hS hA) hU hW)) rfl rfl hl.1 rfl (lv_room (Nat.le_of_ble_eq_true rfl)) dL_presses_156 ⟨Nat.le_of_ble_eq_true rfl, Nat.le_of_ble_eq_true rfl⟩) hP hD hS hA (List.Perm.refl _) (fun _ => List.Perm.refl _) (fun r_65 u_66 H locs e_67 hP hD hS => ?_)
    obtain ⟨x_69, hR_68⟩ : r_65 = y.1.2.2.2.1 - v.1.1.2.2.2.1 ∧ Rep v u_66 := by rw [qIf_0 hx hgn, ← hy] at e_67; exact e_67
    subst x_69
    have hP : va_P D vwCl (gW cy a u_66 ++ gW cy c9 u_28) H := hP
    have hD : va_D A (gW cy a u_66 ++ gW cy c9 u_28) := hD
    refine lv_iload hx9 hb dL_presses_159 (lv_at hl 11 rfl) ?_
    refine lv_if_ne (tgt := 168) hx9 hb dL_presses_161 (by decide) (fun c_70 => ?_) (fun c_70 => ?_)
    · exact absurd hw c_70
    · have c_70 : (hReas v.1 (nI g)) = 0 := c_70
      refine lv_iconst (v := 1) hx9 hb dL_presses_164 (by decide) ?_
      refine lv_goto (tgt := 169) hx9 hb dL_presses_165 (by decide) ?_
      refine lv_icmp_ne (tgt := 324) hx9 hb dL_presses_169 (by decide) (fun c_71 => ?_) (fun c_71 => ?_)
      · exact absurd (by rw [y_pr]; exact i_subl _ _) c_71
      · have c_71 : (y.1.2.2.2.1 - v.1.1.2.2.2.1) = 1 := c_71
        refine lv_aload_n hx9 hb dL_presses_172 rfl (lv_at hl 13 rfl) ?_
        refine lv_bipush (v := 12) hx9 hb dL_presses_173 (by decide) ?_
        refine lv_iconst (v := 1) hx9 hb dL_presses_175 (by decide) ?_
        refine lv_iload_n hx9 hb dL_presses_176 rfl (lv_at hl 12 rfl) ?_
        refine lv_iconst (v := 4) hx9 hb dL_presses_177 (by decide) ?_
        refine wr_i (fun w9 : BS => gW cy a w9 ++ gW cy c9 u_28) (va_runS (As := [.ref (aO a), .int 12, .int 1, .int (nI g), .int 4]) (rest := []) hF (c_L_call_12 l D cy hl0 a v u_66 hO hR_68 1 (nI g) 4 H.size) (va_cwS 5 hts gL_presses_L_call rfl rfl rfl (by decide +kernel) ⟨Nat.le_of_ble_eq_true rfl, Nat.le_of_ble_eq_true rfl⟩) (wrX_preS hK hP hD (List.Perm.refl _) Xok_l (fun U hU hW => Gl.at hX hS (zz_free hD (List.Perm.refl _) hS hA) hU hW)) rfl rfl hl.1 rfl (lv_room (Nat.le_of_ble_eq_true rfl)) dL_presses_178 ⟨Nat.le_of_ble_eq_true rfl, Nat.le_of_ble_eq_true rfl⟩) hP hD hS hA (List.Perm.refl _) (fun _ => List.Perm.refl _) (fun r_72 u_73 H locs e_74 hP hD hS => ?_)
        obtain ⟨x_76, hR_75⟩ : r_72 = y.1.2.1 ∧ Rep v u_73 := by rw [qIf_4 hx hgn, ← hy] at e_74; exact e_74
        subst x_76
        have hP : va_P D vwCl (gW cy a u_73 ++ gW cy c9 u_28) H := hP
        have hD : va_D A (gW cy a u_73 ++ gW cy c9 u_28) := hD
        refine lv_iload hx9 hb dL_presses_181 (lv_at hl 11 rfl) ?_
        refine lv_if_ne (tgt := 191) hx9 hb dL_presses_183 (by decide) (fun c_77 => ?_) (fun c_77 => ?_)
        · exact absurd hw c_77
        · have c_77 : (hReas v.1 (nI g)) = 0 := c_77
          refine lv_iload hx9 hb dL_presses_186 (lv_at hl 9 rfl) ?_
          refine lv_goto (tgt := 193) hx9 hb dL_presses_188 (by decide) ?_
          refine lv_icmp_ne (tgt := 324) hx9 hb dL_presses_193 (by decide) (fun c_78 => ?_) (fun c_78 => ?_)
          · exact absurd y_fl c_78
          · have c_78 : y.1.2.1 = (v.1.2.2.1 g) := c_78
            refine lv_aload_n hx9 hb dL_presses_196 rfl (lv_at hl 13 rfl) ?_
            refine lv_bipush (v := 7) hx9 hb dL_presses_197 (by decide) ?_
            refine lv_iload_n hx9 hb dL_presses_199 rfl (lv_at hl 12 rfl) ?_
            refine lv_iconst (v := 0) hx9 hb dL_presses_200 (by decide) ?_
            refine lv_iconst (v := 0) hx9 hb dL_presses_201 (by decide) ?_
            refine wr_i (fun w9 : BS => gW cy a w9 ++ gW cy c9 u_28) (va_runS (As := [.ref (aO a), .int 7, .int (nI g), .int 0, .int 0]) (rest := []) hF (c_L_call_7 l D cy hl0 a v u_73 hO hR_75 (nI g) 0 0 H.size) (va_cwS 5 hts gL_presses_L_call rfl rfl rfl (by decide +kernel) ⟨Nat.le_of_ble_eq_true rfl, Nat.le_of_ble_eq_true rfl⟩) (wrX_preS hK hP hD (List.Perm.refl _) Xok_l (fun U hU hW => Gl.at hX hS (zz_free hD (List.Perm.refl _) hS hA) hU hW)) rfl rfl hl.1 rfl (lv_room (Nat.le_of_ble_eq_true rfl)) dL_presses_202 ⟨Nat.le_of_ble_eq_true rfl, Nat.le_of_ble_eq_true rfl⟩) hP hD hS hA (List.Perm.refl _) (fun _ => List.Perm.refl _) (fun r_79 u_80 H locs e_81 hP hD hS => ?_)
            obtain ⟨x_83, hR_82⟩ : r_79 = hReas v.1 (nI g) ∧ Rep ((aPush v y)) u_80 := by rw [aPress_g hx hgn, ← hy] at e_81; exact e_81
            subst x_83
            have hP : va_P D vwCl (gW cy a u_80 ++ gW cy c9 u_28) H := hP
            have hD : va_D A (gW cy a u_80 ++ gW cy c9 u_28) := hD
            refine lv_iload hx9 hb dL_presses_205 (lv_at hl 11 rfl) ?_
            refine lv_icmp_ne (tgt := 324) hx9 hb dL_presses_207 (by decide) (fun c_84 => ?_) (fun c_84 => ?_)
            · exact absurd rfl c_84
            · have c_84 : (hReas v.1 (nI g)) = (hReas v.1 (nI g)) := c_84
              refine lv_aload_n hx9 hb dL_presses_210 rfl (lv_at hl 14 rfl) ?_
              refine lv_bipush (v := 7) hx9 hb dL_presses_211 (by decide) ?_
              refine lv_iload_n hx9 hb dL_presses_213 rfl (lv_at hl 12 rfl) ?_
              refine lv_iconst (v := 0) hx9 hb dL_presses_214 (by decide) ?_
              refine lv_iconst (v := 0) hx9 hb dL_presses_215 (by decide) ?_
              refine wr_i (fun w9 : BS => gW cy a u_80 ++ gW cy c9 w9) (va_runS (As := [.ref (aO c9), .int 7, .int (nI g), .int 0, .int 0]) (rest := []) hF (c_L_call_7 l D cy hl0 c9 v u_28 hO hR_29 (nI g) 0 0 H.size) (va_cwS 5 hts gL_presses_L_call rfl rfl rfl (by decide +kernel) ⟨Nat.le_of_ble_eq_true rfl, Nat.le_of_ble_eq_true rfl⟩) (wrX_preS hK hP hD List.perm_append_comm Xok_l (fun U hU hW => Gl.at hX hS (zz_free hD List.perm_append_comm hS hA) hU hW)) rfl rfl hl.1 rfl (lv_room (Nat.le_of_ble_eq_true rfl)) dL_presses_216 ⟨Nat.le_of_ble_eq_true rfl, Nat.le_of_ble_eq_true rfl⟩) hP hD hS hA List.perm_append_comm (fun _ => List.perm_append_comm) (fun r_85 u_86 H locs e_87 hP hD hS => ?_)
              obtain ⟨x_89, hR_88⟩ : r_85 = hReas v.1 (nI g) ∧ Rep ((aPush v y)) u_86 := by rw [aPress_g hx hgn, ← hy] at e_87; exact e_87
              subst x_89
              have hP : va_P D vwCl (gW cy a u_80 ++ gW cy c9 u_86) H := hP
              have hD : va_D A (gW cy a u_80 ++ gW cy c9 u_86) := hD
              refine lv_iload hx9 hb dL_presses_219 (lv_at hl 11 rfl) ?_
              refine lv_icmp_ne (tgt := 324) hx9 hb dL_presses_221 (by decide) (fun c_90 => ?_) (fun c_90 => ?_)
              · exact absurd rfl c_90
              · have c_90 : (hReas v.1 (nI g)) = (hReas v.1 (nI g)) := c_90
                refine lv_aload_n hx9 hb dL_presses_224 rfl (lv_at hl 13 rfl) ?_
                refine lv_iconst (v := 2) hx9 hb dL_presses_225 (by decide) ?_
                refine lv_bipush (v := 6) hx9 hb dL_presses_226 (by decide) ?_
                refine lv_iconst (v := 0) hx9 hb dL_presses_228 (by decide) ?_
                refine lv_iconst (v := 0) hx9 hb dL_presses_229 (by decide) ?_
                refine wr_i (fun w9 : BS => gW cy a w9 ++ gW cy c9 u_86) (va_runS (As := [.ref (aO a), .int 2, .int 6, .int 0, .int 0]) (rest := []) hF (c_L_call_2 l D cy hl0 a ((aPush v y)) u_80 hO2 hR_82 6 0 0 H.size) (va_cwS 5 hts gL_presses_L_call rfl rfl rfl (by decide +kernel) ⟨Nat.le_of_ble_eq_true rfl, Nat.le_of_ble_eq_true rfl⟩) (wrX_preS hK hP hD (List.Perm.refl _) Xok_l (fun U hU hW => Gl.at hX hS (zz_free hD (List.Perm.refl _) hS hA) hU hW)) rfl rfl hl.1 rfl (lv_room (Nat.le_of_ble_eq_true rfl)) dL_presses_230 ⟨Nat.le_of_ble_eq_true rfl, Nat.le_of_ble_eq_true rfl⟩) hP hD hS hA (List.Perm.refl _) (fun _ => List.Perm.refl _) (fun r_91 u_92 H locs e_93 hP hD hS => ?_)
                obtain ⟨x_95, hR_94⟩ : r_91 = y.1.2.2.1 ∧ Rep ((aPush v y)) u_92 := by rw [qAb_6 hx2] at e_93; exact e_93
                subst x_95
                have hP : va_P D vwCl (gW cy a u_92 ++ gW cy c9 u_86) H := hP
                have hD : va_D A (gW cy a u_92 ++ gW cy c9 u_86) := hD
                refine lv_iload hx9 hb dL_presses_233 (lv_at hl 6 rfl) ?_
                refine lv_iload hx9 hb dL_presses_235 (lv_at hl 5 rfl) ?_
                refine lv_iadd hx9 hb dL_presses_237 ?_
                refine lv_icmp_ne (tgt := 324) hx9 hb dL_presses_238 (by decide) (fun c_96 => ?_) (fun c_96 => ?_)
                · exact absurd (i_addsub _ _).symm c_96
                · have c_96 : y.1.2.2.1 = (v.1.1.2.2.1 + (y.1.2.2.1 - v.1.1.2.2.1)) := c_96
                  refine lv_iload hx9 hb dL_presses_241 (lv_at hl 5 rfl) ?_
                  refine lv_iload hx9 hb dL_presses_243 (lv_at hl 11 rfl) ?_
                  refine lv_if_ne (tgt := 264) hx9 hb dL_presses_245 (by decide) (fun c_97 => ?_) (fun c_97 => ?_)
                  · exact absurd hw c_97
                  · have c_97 : (hReas v.1 (nI g)) = 0 := c_97
                    refine lv_iload hx9 hb dL_presses_248 (lv_at hl 7 rfl) ?_
                    refine lv_aload_n hx9 hb dL_presses_250 rfl (lv_at hl 13 rfl) ?_
                    refine lv_iconst (v := 5) hx9 hb dL_presses_251 (by decide) ?_
                    refine lv_iconst (v := 2) hx9 hb dL_presses_252 (by decide) ?_
                    refine lv_iconst (v := 0) hx9 hb dL_presses_253 (by decide) ?_
                    refine lv_iconst (v := 0) hx9 hb dL_presses_254 (by decide) ?_
                    refine wr_i (fun w9 : BS => gW cy a w9 ++ gW cy c9 u_86) (va_runS (As := [.ref (aO a), .int 5, .int 2, .int 0, .int 0]) (rest := [.int (vHi (v.1.2.2.1 g) v.1.1.2.1 - vLo (v.1.2.2.1 g) v.1.1.2.1), .int (y.1.2.2.1 - v.1.1.2.2.1)]) hF (c_L_call_5 l D cy hl0 a ((aPush v y)) u_92 hO2 hR_94 2 0 0 H.size) (va_cwS 5 hts gL_presses_L_call rfl rfl rfl (by decide +kernel) ⟨Nat.le_of_ble_eq_true rfl, Nat.le_of_ble_eq_true rfl⟩) (wrX_preS hK hP hD (List.Perm.refl _) Xok_l (fun U hU hW => Gl.at hX hS (zz_free hD (List.Perm.refl _) hS hA) hU hW)) rfl rfl hl.1 rfl (lv_room (Nat.le_of_ble_eq_true rfl)) dL_presses_255 ⟨Nat.le_of_ble_eq_true rfl, Nat.le_of_ble_eq_true rfl⟩) hP hD hS hA (List.Perm.refl _) (fun _ => List.Perm.refl _) (fun r_98 u_99 H locs e_100 hP hD hS => ?_)
                    obtain ⟨x_102, hR_101⟩ : r_98 = y.2.1 2 ∧ Rep ((aPush v y)) u_99 := by rw [qSe_2] at e_100; exact e_100
                    subst x_102
                    have hP : va_P D vwCl (gW cy a u_99 ++ gW cy c9 u_86) H := hP
                    have hD : va_D A (gW cy a u_99 ++ gW cy c9 u_86) := hD
                    refine lv_imul hx9 hb dL_presses_258 ?_
                    refine lv_iconst (v := 5) hx9 hb dL_presses_259 (by decide) ?_
                    refine lv_iadd hx9 hb dL_presses_260 ?_
                    refine lv_goto (tgt := 265) hx9 hb dL_presses_261 (by decide) ?_
                    refine lv_icmp_ne (tgt := 324) hx9 hb dL_presses_265 (by decide) (fun c_103 => ?_) (fun c_103 => ?_)
                    · exact absurd (by rw [y_sg, y_se]; exact i_subl _ _) c_103
                    · have c_103 : (y.1.2.2.1 - v.1.1.2.2.1) = (((vHi (v.1.2.2.1 g) v.1.1.2.1 - vLo (v.1.2.2.1 g) v.1.1.2.1) * (y.2.1 2)) + 5) := c_103
                      refine lv_aload_n hx9 hb dL_presses_268 rfl (lv_at hl 13 rfl) ?_
                      refine lv_iconst (v := 2) hx9 hb dL_presses_269 (by decide) ?_
                      refine lv_bipush (v := 10) hx9 hb dL_presses_270 (by decide) ?_
                      refine lv_iconst (v := 0) hx9 hb dL_presses_272 (by decide) ?_
                      refine lv_iconst (v := 0) hx9 hb dL_presses_273 (by decide) ?_
                      refine wr_i (fun w9 : BS => gW cy a w9 ++ gW cy c9 u_86) (va_runS (As := [.ref (aO a), .int 2, .int 10, .int 0, .int 0]) (rest := []) hF (c_L_call_2 l D cy hl0 a ((aPush v y)) u_99 hO2 hR_101 10 0 0 H.size) (va_cwS 5 hts gL_presses_L_call rfl rfl rfl (by decide +kernel) ⟨Nat.le_of_ble_eq_true rfl, Nat.le_of_ble_eq_true rfl⟩) (wrX_preS hK hP hD (List.Perm.refl _) Xok_l (fun U hU hW => Gl.at hX hS (zz_free hD (List.Perm.refl _) hS hA) hU hW)) rfl rfl hl.1 rfl (lv_room (Nat.le_of_ble_eq_true rfl)) dL_presses_274 ⟨Nat.le_of_ble_eq_true rfl, Nat.le_of_ble_eq_true rfl⟩) hP hD hS hA (List.Perm.refl _) (fun _ => List.Perm.refl _) (fun r_104 u_105 H locs e_106 hP hD hS => ?_)
                      obtain ⟨x_108, hR_107⟩ : r_104 = hAG n y ∧ Rep ((aPush v y)) u_105 := by rw [qAb_10 hx2] at e_106; exact e_106
                      subst x_108
                      have hP : va_P D vwCl (gW cy a u_105 ++ gW cy c9 u_86) H := hP
                      have hD : va_D A (gW cy a u_105 ++ gW cy c9 u_86) := hD
                      refine lv_iload hx9 hb dL_presses_277 (lv_at hl 4 rfl) ?_
                      refine lv_icmp_ne (tgt := 324) hx9 hb dL_presses_279 (by decide) (fun c_109 => ?_) (fun c_109 => ?_)
                      · exact absurd rfl c_109
                      · have c_109 : (hAG n y) = (hAG n y) := c_109
                        refine lv_aload_n hx9 hb dL_presses_282 rfl (lv_at hl 13 rfl) ?_
                        refine lv_iconst (v := 2) hx9 hb dL_presses_283 (by decide) ?_
                        refine lv_iconst (v := 5) hx9 hb dL_presses_284 (by decide) ?_
                        refine lv_iconst (v := 0) hx9 hb dL_presses_285 (by decide) ?_
                        refine lv_iconst (v := 0) hx9 hb dL_presses_286 (by decide) ?_
                        refine wr_i (fun w9 : BS => gW cy a w9 ++ gW cy c9 u_86) (va_runS (As := [.ref (aO a), .int 2, .int 5, .int 0, .int 0]) (rest := []) hF (c_L_call_2 l D cy hl0 a ((aPush v y)) u_105 hO2 hR_107 5 0 0 H.size) (va_cwS 5 hts gL_presses_L_call rfl rfl rfl (by decide +kernel) ⟨Nat.le_of_ble_eq_true rfl, Nat.le_of_ble_eq_true rfl⟩) (wrX_preS hK hP hD (List.Perm.refl _) Xok_l (fun U hU hW => Gl.at hX hS (zz_free hD (List.Perm.refl _) hS hA) hU hW)) rfl rfl hl.1 rfl (lv_room (Nat.le_of_ble_eq_true rfl)) dL_presses_287 ⟨Nat.le_of_ble_eq_true rfl, Nat.le_of_ble_eq_true rfl⟩) hP hD hS hA (List.Perm.refl _) (fun _ => List.Perm.refl _) (fun r_110 u_111 H locs e_112 hP hD hS => ?_)
                        obtain ⟨x_114, hR_113⟩ : r_110 = hGI n y 2 ∧ Rep ((aPush v y)) u_111 := by rw [qAb_5 hx2] at e_112; exact e_112
                        subst x_114
                        have hP : va_P D vwCl (gW cy a u_111 ++ gW cy c9 u_86) H := hP
                        have hD : va_D A (gW cy a u_111 ++ gW cy c9 u_86) := hD
                        refine lv_iload hx9 hb dL_presses_290 (lv_at hl 3 rfl) ?_
                        refine lv_icmp_ne (tgt := 324) hx9 hb dL_presses_292 (by decide) (fun c_115 => ?_) (fun c_115 => ?_)
                        · exact absurd rfl c_115
                        · have c_115 : (hGI n y 2) = (hGI n y 2) := c_115
                          refine lv_aload_n hx9 hb dL_presses_295 rfl (lv_at hl 13 rfl) ?_
                          refine lv_iconst (v := 2) hx9 hb dL_presses_296 (by decide) ?_
                          refine lv_bipush (v := 8) hx9 hb dL_presses_297 (by decide) ?_
                          refine lv_iconst (v := 0) hx9 hb dL_presses_299 (by decide) ?_
                          refine lv_iconst (v := 0) hx9 hb dL_presses_300 (by decide) ?_
                          refine wr_i (fun w9 : BS => gW cy a w9 ++ gW cy c9 u_86) (va_runS (As := [.ref (aO a), .int 2, .int 8, .int 0, .int 0]) (rest := []) hF (c_L_call_2 l D cy hl0 a ((aPush v y)) u_111 hO2 hR_113 8 0 0 H.size) (va_cwS 5 hts gL_presses_L_call rfl rfl rfl (by decide +kernel) ⟨Nat.le_of_ble_eq_true rfl, Nat.le_of_ble_eq_true rfl⟩) (wrX_preS hK hP hD (List.Perm.refl _) Xok_l (fun U hU hW => Gl.at hX hS (zz_free hD (List.Perm.refl _) hS hA) hU hW)) rfl rfl hl.1 rfl (lv_room (Nat.le_of_ble_eq_true rfl)) dL_presses_301 ⟨Nat.le_of_ble_eq_true rfl, Nat.le_of_ble_eq_true rfl⟩) hP hD hS hA (List.Perm.refl _) (fun _ => List.Perm.refl _) (fun r_116 u_117 H locs e_118 hP hD hS => ?_)
                          obtain ⟨x_120, hR_119⟩ : r_116 = y.1.2.2.2.2.1 ∧ Rep ((aPush v y)) u_117 := by rw [qAb_8 hx2] at e_118; exact e_118
                          subst x_120
                          have hP : va_P D vwCl (gW cy a u_117 ++ gW cy c9 u_86) H := hP
                          have hD : va_D A (gW cy a u_117 ++ gW cy c9 u_86) := hD
                          refine lv_iload hx9 hb dL_presses_304 (lv_at hl 2 rfl) ?_
                          refine lv_iload hx9 hb dL_presses_306 (lv_at hl 11 rfl) ?_
                          refine lv_if_ne (tgt := 315) hx9 hb dL_presses_308 (by decide) (fun c_121 => ?_) (fun c_121 => ?_)
                          · exact absurd hw c_121
                          · have c_121 : (hReas v.1 (nI g)) = 0 := c_121
                            refine lv_iconst (v := 0) hx9 hb dL_presses_311 (by decide) ?_
                            refine lv_goto (tgt := 316) hx9 hb dL_presses_312 (by decide) ?_
                            refine lv_iadd hx9 hb dL_presses_316 ?_
                            refine lv_icmp_ne (tgt := 324) hx9 hb dL_presses_317 (by decide) (fun c_122 => ?_) (fun c_122 => ?_)
                            · exact absurd (y_re.trans (Int32.add_zero _).symm) c_122
                            · have c_122 : y.1.2.2.2.2.1 = (v.1.1.2.2.2.2.1 + 0) := c_122
                              refine lv_iconst (v := 1) hx9 hb dL_presses_320 (by decide) ?_
                              refine lv_goto (tgt := 325) hx9 hb dL_presses_321 (by decide) ?_
                              refine lv_istore (lv' := [(16, .int 1), (15, .int (v.1.2.1 0)), (14, .int (hWR n v.1)), (13, .int v.1.1.2.2.2.2.1), (12, .int (hGI n y 2)), (11, .int (hAG n y)), (10, .int (y.1.2.2.1 - v.1.1.2.2.1)), (9, .int v.1.1.2.2.1), (8, .int (vHi (v.1.2.2.1 g) v.1.1.2.1 - vLo (v.1.2.2.1 g) v.1.1.2.1)), (7, .int v.1.1.2.1), (6, .int (v.1.2.2.1 g)), (5, .int (hStandR n v.1 (nI g))), (4, .int (hReas v.1 (nI g))), (3, .int (nI g)), (0, .ref (aO a)), (1, .ref (aO c9)), (2, .int (nI k))]) hx9 hb dL_presses_325 hl (by decide) rfl (fun ls hl => ?_)
                              refine lv_aload_n hx9 hb dL_presses_327 rfl (lv_at hl 14 rfl) ?_
                              refine lv_iconst (v := 2) hx9 hb dL_presses_328 (by decide) ?_
                              refine lv_iconst (v := 2) hx9 hb dL_presses_329 (by decide) ?_
                              refine lv_iconst (v := 0) hx9 hb dL_presses_330 (by decide) ?_
                              refine lv_iconst (v := 0) hx9 hb dL_presses_331 (by decide) ?_
                              refine wr_i (fun w9 : BS => gW cy a w9 ++ gW cy c9 u_86) (va_runS (As := [.ref (aO a), .int 2, .int 2, .int 0, .int 0]) (rest := []) hF (c_L_call_2 l D cy hl0 a ((aPush v y)) u_117 hO2 hR_119 2 0 0 H.size) (va_cwS 5 hts gL_presses_L_call rfl rfl rfl (by decide +kernel) ⟨Nat.le_of_ble_eq_true rfl, Nat.le_of_ble_eq_true rfl⟩) (wrX_preS hK hP hD (List.Perm.refl _) Xok_l (fun U hU hW => Gl.at hX hS (zz_free hD (List.Perm.refl _) hS hA) hU hW)) rfl rfl hl.1 rfl (lv_room (Nat.le_of_ble_eq_true rfl)) dL_presses_332 ⟨Nat.le_of_ble_eq_true rfl, Nat.le_of_ble_eq_true rfl⟩) hP hD hS hA (List.Perm.refl _) (fun _ => List.Perm.refl _) (fun r_123 u_124 H locs e_125 hP hD hS => ?_)
                              obtain ⟨x_127, hR_126⟩ : r_123 = hWR n y ∧ Rep ((aPush v y)) u_124 := by rw [qAb_2 hx2] at e_125; exact e_125
                              subst x_127
                              have hP : va_P D vwCl (gW cy a u_124 ++ gW cy c9 u_86) H := hP
                              have hD : va_D A (gW cy a u_124 ++ gW cy c9 u_86) := hD
                              refine lv_istore (lv' := [(17, .int (hWR n y)), (16, .int 1), (15, .int (v.1.2.1 0)), (14, .int (hWR n v.1)), (13, .int v.1.1.2.2.2.2.1), (12, .int (hGI n y 2)), (11, .int (hAG n y)), (10, .int (y.1.2.2.1 - v.1.1.2.2.1)), (9, .int v.1.1.2.2.1), (8, .int (vHi (v.1.2.2.1 g) v.1.1.2.1 - vLo (v.1.2.2.1 g) v.1.1.2.1)), (7, .int v.1.1.2.1), (6, .int (v.1.2.2.1 g)), (5, .int (hStandR n v.1 (nI g))), (4, .int (hReas v.1 (nI g))), (3, .int (nI g)), (0, .ref (aO a)), (1, .ref (aO c9)), (2, .int (nI k))]) hx9 hb dL_presses_335 hl (by decide) rfl (fun ls hl => ?_)
                              refine lv_iload hx9 hb dL_presses_337 (lv_at hl 1 rfl) ?_
                              refine lv_if_eq (tgt := 392) hx9 hb dL_presses_339 (by decide) (fun c_128 => ?_) (fun c_128 => ?_)
                              · exact absurd c_128 (by decide)
                              · refine lv_iload hx9 hb dL_presses_342 (lv_at hl 13 rfl) ?_
                                refine lv_if_gt (tgt := 374) hx9 hb dL_presses_344 (by decide) (fun c_129 => ?_) (fun c_129 => ?_)
                                · exact absurd c_129 (by rw [hw]; decide)
                                · have c_129 : ¬ 0 < (hReas v.1 (nI g)) := c_129
                                  refine lv_aload_n hx9 hb dL_presses_347 rfl (lv_at hl 15 rfl) ?_
                                  refine lv_iconst (v := 2) hx9 hb dL_presses_348 (by decide) ?_
                                  refine lv_iconst (v := 1) hx9 hb dL_presses_349 (by decide) ?_
                                  refine lv_iconst (v := 0) hx9 hb dL_presses_350 (by decide) ?_
                                  refine lv_iconst (v := 0) hx9 hb dL_presses_351 (by decide) ?_
                                  refine wr_i (fun w9 : BS => gW cy a w9 ++ gW cy c9 u_86) (va_runS (As := [.ref (aO a), .int 2, .int 1, .int 0, .int 0]) (rest := []) hF (c_L_call_2 l D cy hl0 a ((aPush v y)) u_124 hO2 hR_126 1 0 0 H.size) (va_cwS 5 hts gL_presses_L_call rfl rfl rfl (by decide +kernel) ⟨Nat.le_of_ble_eq_true rfl, Nat.le_of_ble_eq_true rfl⟩) (wrX_preS hK hP hD (List.Perm.refl _) Xok_l (fun U hU hW => Gl.at hX hS (zz_free hD (List.Perm.refl _) hS hA) hU hW)) rfl rfl hl.1 rfl (lv_room (Nat.le_of_ble_eq_true rfl)) dL_presses_352 ⟨Nat.le_of_ble_eq_true rfl, Nat.le_of_ble_eq_true rfl⟩) hP hD hS hA (List.Perm.refl _) (fun _ => List.Perm.refl _) (fun r_130 u_131 H locs e_132 hP hD hS => ?_)
                                  obtain ⟨x_134, hR_133⟩ : r_130 = y.1.2.1 ∧ Rep ((aPush v y)) u_131 := by rw [qAb_1 hx2] at e_132; exact e_132
                                  subst x_134
                                  have hP : va_P D vwCl (gW cy a u_131 ++ gW cy c9 u_86) H := hP
                                  have hD : va_D A (gW cy a u_131 ++ gW cy c9 u_86) := hD
                                  refine lv_iload hx9 hb dL_presses_355 (lv_at hl 11 rfl) ?_
                                  refine lv_icmp_ne (tgt := 392) hx9 hb dL_presses_357 (by decide) (fun c_135 => ?_) (fun c_135 => ?_)
                                  · exact absurd y_fl c_135
                                  · have c_135 : y.1.2.1 = (v.1.2.2.1 g) := c_135
                                    refine lv_aload_n hx9 hb dL_presses_360 rfl (lv_at hl 15 rfl) ?_
                                    refine lv_iconst (v := 4) hx9 hb dL_presses_361 (by decide) ?_
                                    refine lv_iload hx9 hb dL_presses_362 (lv_at hl 11 rfl) ?_
                                    refine lv_iconst (v := 0) hx9 hb dL_presses_364 (by decide) ?_
                                    refine lv_iconst (v := 0) hx9 hb dL_presses_365 (by decide) ?_
                                    refine wr_i (fun w9 : BS => gW cy a w9 ++ gW cy c9 u_86) (va_runS (As := [.ref (aO a), .int 4, .int (v.1.2.2.1 g), .int 0, .int 0]) (rest := []) hF (c_L_call_4 l D cy hl0 a ((aPush v y)) u_131 hO2 hR_133 (v.1.2.2.1 g) 0 0 H.size) (va_cwS 5 hts gL_presses_L_call rfl rfl rfl (by decide +kernel) ⟨Nat.le_of_ble_eq_true rfl, Nat.le_of_ble_eq_true rfl⟩) (wrX_preS hK hP hD (List.Perm.refl _) Xok_l (fun U hU hW => Gl.at hX hS (zz_free hD (List.Perm.refl _) hS hA) hU hW)) rfl rfl hl.1 rfl (lv_room (Nat.le_of_ble_eq_true rfl)) dL_presses_366 ⟨Nat.le_of_ble_eq_true rfl, Nat.le_of_ble_eq_true rfl⟩) hP hD hS hA (List.Perm.refl _) (fun _ => List.Perm.refl _) (fun r_136 u_137 H locs e_138 hP hD hS => ?_)
                                    obtain ⟨x_140, hR_139⟩ : r_136 = hFS n y (v.1.2.2.1 g) 0 ∧ Rep ((aPush v y)) u_137 := by rw [qFl_0 hx2 (bu_f hx hgn)] at e_138; exact e_138
                                    subst x_140
                                    have hP : va_P D vwCl (gW cy a u_137 ++ gW cy c9 u_86) H := hP
                                    have hD : va_D A (gW cy a u_137 ++ gW cy c9 u_86) := hD
                                    refine lv_iload hx9 hb dL_presses_369 (lv_at hl 12 rfl) ?_
                                    refine lv_icmp_ne (tgt := 392) hx9 hb dL_presses_371 (by decide) (fun c_141 => ?_) (fun c_141 => ?_)
                                    · exact absurd y_left c_141
                                    · have c_141 : (hFS n y (v.1.2.2.1 g) 0) = (hStandR n v.1 (nI g)) := c_141
                                      have jn_388 : ∀ (u_142 : BS) (u_144 : BS) (H : Heap) (locs : List Loc) (ls : Array Slot), Rep ((aPush v y)) u_142 → Rep ((aPush v y)) u_144 → va_P D vwCl (gW cy a u_142 ++ gW cy c9 u_144) H → va_D A (gW cy a u_142 ++ gW cy c9 u_144) → va_S A s.heap H locs → lv_has ls 18 [(17, .int (hWR n y)), (16, .int 1), (15, .int (v.1.2.1 0)), (14, .int (hWR n v.1)), (13, .int v.1.1.2.2.2.2.1), (12, .int (hGI n y 2)), (11, .int (hAG n y)), (10, .int (y.1.2.2.1 - v.1.1.2.2.1)), (9, .int v.1.1.2.2.1), (8, .int (vHi (v.1.2.2.1 g) v.1.1.2.1 - vLo (v.1.2.2.1 g) v.1.1.2.1)), (7, .int v.1.1.2.1), (6, .int (v.1.2.2.1 g)), (5, .int (hStandR n v.1 (nI g))), (4, .int (hReas v.1 (nI g))), (3, .int (nI g)), (0, .ref (aO a)), (1, .ref (aO c9)), (2, .int (nI k))] → W p l e rm_L_presses s m args below meth c H locs (45) (252) Q (F0 m 388 ls []) := by
                                        intro u_142 u_144 H locs ls hR_143 hR_145 hP hD hS hl
                                        refine lv_iconst (v := 1) hx9 hb dL_presses_388 (by decide) ?_
                                        refine lv_goto (tgt := 393) hx9 hb dL_presses_389 (by decide) ?_
                                        refine lv_istore (lv' := [(16, .int 1), (17, .int (hWR n y)), (15, .int (v.1.2.1 0)), (14, .int (hWR n v.1)), (13, .int v.1.1.2.2.2.2.1), (12, .int (hGI n y 2)), (11, .int (hAG n y)), (10, .int (y.1.2.2.1 - v.1.1.2.2.1)), (9, .int v.1.1.2.2.1), (8, .int (vHi (v.1.2.2.1 g) v.1.1.2.1 - vLo (v.1.2.2.1 g) v.1.1.2.1)), (7, .int v.1.1.2.1), (6, .int (v.1.2.2.1 g)), (5, .int (hStandR n v.1 (nI g))), (4, .int (hReas v.1 (nI g))), (3, .int (nI g)), (0, .ref (aO a)), (1, .ref (aO c9)), (2, .int (nI k))]) hx9 hb dL_presses_393 hl (by decide) rfl (fun ls hl => ?_)
                                        refine lv_iload hx9 hb dL_presses_395 (lv_at hl 0 rfl) ?_
                                        refine lv_if_eq (tgt := 461) hx9 hb dL_presses_397 (by decide) (fun c_146 => ?_) (fun c_146 => ?_)
                                        · exact absurd c_146 (by decide)
                                        · refine lv_aload_n hx9 hb dL_presses_400 rfl (lv_at hl 15 rfl) ?_
                                          refine lv_bipush (v := 9) hx9 hb dL_presses_401 (by decide) ?_
                                          refine lv_iconst (v := 0) hx9 hb dL_presses_403 (by decide) ?_
                                          refine lv_iconst (v := 0) hx9 hb dL_presses_404 (by decide) ?_
                                          refine lv_iconst (v := 0) hx9 hb dL_presses_405 (by decide) ?_
                                          refine wr_i (fun w9 : BS => gW cy a w9 ++ gW cy c9 u_144) (va_runS (As := [.ref (aO a), .int 9, .int 0, .int 0, .int 0]) (rest := []) hF (c_L_call_9 l D cy hl0 a ((aPush v y)) u_142 hO2 hR_143 0 0 0 H.size) (va_cwS 5 hts gL_presses_L_call rfl rfl rfl (by decide +kernel) ⟨Nat.le_of_ble_eq_true rfl, Nat.le_of_ble_eq_true rfl⟩) (wrX_preS hK hP hD (List.Perm.refl _) Xok_l (fun U hU hW => Gl.at hX hS (zz_free hD (List.Perm.refl _) hS hA) hU hW)) rfl rfl hl.1 rfl (lv_room (Nat.le_of_ble_eq_true rfl)) dL_presses_406 ⟨Nat.le_of_ble_eq_true rfl, Nat.le_of_ble_eq_true rfl⟩) hP hD hS hA (List.Perm.refl _) (fun _ => List.Perm.refl _) (fun r_147 u_148 H locs e_149 hP hD hS => ?_)
                                          obtain ⟨x_151, hR_150⟩ : r_147 = nI ua ∧ Rep v2 u_148 := by rw [eua, ← hv2] at e_149; exact e_149
                                          subst x_151
                                          have hP : va_P D vwCl (gW cy a u_148 ++ gW cy c9 u_144) H := hP
                                          have hD : va_D A (gW cy a u_148 ++ gW cy c9 u_144) := hD
                                          refine rd_S (As := [.int (nI ua)]) (rest := []) hF (c_L_thrown l D cy (nI ua) (thr_n _ hua)) (va_cwS 1 hts gL_presses_L_thrown rfl rfl rfl (by decide +kernel) ⟨Nat.le_of_ble_eq_true rfl, Nat.le_of_ble_eq_true rfl⟩) hK (fun k q h => by simp at h) rfl hl.1 rfl (Nat.le_of_ble_eq_true rfl) dL_presses_409 ⟨Nat.le_of_ble_eq_true rfl, Nat.le_of_ble_eq_true rfl⟩ ?_
                                          refine lv_if_ne (tgt := 461) hx9 hb dL_presses_412 (by decide) (fun c_152 => ?_) (fun c_152 => ?_)
                                          · exact absurd c_152 (by decide)
                                          · refine lv_aload_n hx9 hb dL_presses_415 rfl (lv_at hl 16 rfl) ?_
                                            refine lv_bipush (v := 9) hx9 hb dL_presses_416 (by decide) ?_
                                            refine lv_iconst (v := 0) hx9 hb dL_presses_418 (by decide) ?_
                                            refine lv_iconst (v := 0) hx9 hb dL_presses_419 (by decide) ?_
                                            refine lv_iconst (v := 0) hx9 hb dL_presses_420 (by decide) ?_
                                            refine wr_i (fun w9 : BS => gW cy a u_148 ++ gW cy c9 w9) (va_runS (As := [.ref (aO c9), .int 9, .int 0, .int 0, .int 0]) (rest := []) hF (c_L_call_9 l D cy hl0 c9 ((aPush v y)) u_144 hO2 hR_145 0 0 0 H.size) (va_cwS 5 hts gL_presses_L_call rfl rfl rfl (by decide +kernel) ⟨Nat.le_of_ble_eq_true rfl, Nat.le_of_ble_eq_true rfl⟩) (wrX_preS hK hP hD List.perm_append_comm Xok_l (fun U hU hW => Gl.at hX hS (zz_free hD List.perm_append_comm hS hA) hU hW)) rfl rfl hl.1 rfl (lv_room (Nat.le_of_ble_eq_true rfl)) dL_presses_421 ⟨Nat.le_of_ble_eq_true rfl, Nat.le_of_ble_eq_true rfl⟩) hP hD hS hA List.perm_append_comm (fun _ => List.perm_append_comm) (fun r_153 u_154 H locs e_155 hP hD hS => ?_)
                                            obtain ⟨x_157, hR_156⟩ : r_153 = nI ua ∧ Rep v2 u_154 := by rw [eua, ← hv2] at e_155; exact e_155
                                            subst x_157
                                            have hP : va_P D vwCl (gW cy a u_148 ++ gW cy c9 u_154) H := hP
                                            have hD : va_D A (gW cy a u_148 ++ gW cy c9 u_154) := hD
                                            refine rd_S (As := [.int (nI ua)]) (rest := []) hF (c_L_thrown l D cy (nI ua) (thr_n _ hua)) (va_cwS 1 hts gL_presses_L_thrown rfl rfl rfl (by decide +kernel) ⟨Nat.le_of_ble_eq_true rfl, Nat.le_of_ble_eq_true rfl⟩) hK (fun k q h => by simp at h) rfl hl.1 rfl (Nat.le_of_ble_eq_true rfl) dL_presses_424 ⟨Nat.le_of_ble_eq_true rfl, Nat.le_of_ble_eq_true rfl⟩ ?_
                                            refine lv_if_ne (tgt := 461) hx9 hb dL_presses_427 (by decide) (fun c_158 => ?_) (fun c_158 => ?_)
                                            · exact absurd c_158 (by decide)
                                            · refine lv_aload_n hx9 hb dL_presses_430 rfl (lv_at hl 15 rfl) ?_
                                              refine lv_iconst (v := 2) hx9 hb dL_presses_431 (by decide) ?_
                                              refine lv_iconst (v := 1) hx9 hb dL_presses_432 (by decide) ?_
                                              refine lv_iconst (v := 0) hx9 hb dL_presses_433 (by decide) ?_
                                              refine lv_iconst (v := 0) hx9 hb dL_presses_434 (by decide) ?_
                                              refine wr_i (fun w9 : BS => gW cy a w9 ++ gW cy c9 u_154) (va_runS (As := [.ref (aO a), .int 2, .int 1, .int 0, .int 0]) (rest := []) hF (c_L_call_2 l D cy hl0 a v2 u_148 hO3 hR_150 1 0 0 H.size) (va_cwS 5 hts gL_presses_L_call rfl rfl rfl (by decide +kernel) ⟨Nat.le_of_ble_eq_true rfl, Nat.le_of_ble_eq_true rfl⟩) (wrX_preS hK hP hD (List.Perm.refl _) Xok_l (fun U hU hW => Gl.at hX hS (zz_free hD (List.Perm.refl _) hS hA) hU hW)) rfl rfl hl.1 rfl (lv_room (Nat.le_of_ble_eq_true rfl)) dL_presses_435 ⟨Nat.le_of_ble_eq_true rfl, Nat.le_of_ble_eq_true rfl⟩) hP hD hS hA (List.Perm.refl _) (fun _ => List.Perm.refl _) (fun r_159 u_160 H locs e_161 hP hD hS => ?_)
                                              obtain ⟨x_163, hR_162⟩ : r_159 = v.1.1.2.1 ∧ Rep v2 u_160 := by rw [qAb_1 hx3, hsf.1] at e_161; exact e_161
                                              subst x_163
                                              have hP : va_P D vwCl (gW cy a u_160 ++ gW cy c9 u_154) H := hP
                                              have hD : va_D A (gW cy a u_160 ++ gW cy c9 u_154) := hD
                                              refine lv_iload hx9 hb dL_presses_438 (lv_at hl 10 rfl) ?_
                                              refine lv_icmp_ne (tgt := 461) hx9 hb dL_presses_440 (by decide) (fun c_164 => ?_) (fun c_164 => ?_)
                                              · exact absurd rfl c_164
                                              · have c_164 : v.1.1.2.1 = v.1.1.2.1 := c_164
                                                refine lv_aload_n hx9 hb dL_presses_443 rfl (lv_at hl 15 rfl) ?_
                                                refine lv_iconst (v := 2) hx9 hb dL_presses_444 (by decide) ?_
                                                refine lv_bipush (v := 6) hx9 hb dL_presses_445 (by decide) ?_
                                                refine lv_iconst (v := 0) hx9 hb dL_presses_447 (by decide) ?_
                                                refine lv_iconst (v := 0) hx9 hb dL_presses_448 (by decide) ?_
                                                refine wr_i (fun w9 : BS => gW cy a w9 ++ gW cy c9 u_154) (va_runS (As := [.ref (aO a), .int 2, .int 6, .int 0, .int 0]) (rest := []) hF (c_L_call_2 l D cy hl0 a v2 u_160 hO3 hR_162 6 0 0 H.size) (va_cwS 5 hts gL_presses_L_call rfl rfl rfl (by decide +kernel) ⟨Nat.le_of_ble_eq_true rfl, Nat.le_of_ble_eq_true rfl⟩) (wrX_preS hK hP hD (List.Perm.refl _) Xok_l (fun U hU hW => Gl.at hX hS (zz_free hD (List.Perm.refl _) hS hA) hU hW)) rfl rfl hl.1 rfl (lv_room (Nat.le_of_ble_eq_true rfl)) dL_presses_449 ⟨Nat.le_of_ble_eq_true rfl, Nat.le_of_ble_eq_true rfl⟩) hP hD hS hA (List.Perm.refl _) (fun _ => List.Perm.refl _) (fun r_165 u_166 H locs e_167 hP hD hS => ?_)
                                                obtain ⟨x_169, hR_168⟩ : r_165 = v.1.1.2.2.1 ∧ Rep v2 u_166 := by rw [qAb_6 hx3, hsf.1] at e_167; exact e_167
                                                subst x_169
                                                have hP : va_P D vwCl (gW cy a u_166 ++ gW cy c9 u_154) H := hP
                                                have hD : va_D A (gW cy a u_166 ++ gW cy c9 u_154) := hD
                                                refine lv_iload hx9 hb dL_presses_452 (lv_at hl 8 rfl) ?_
                                                refine lv_icmp_ne (tgt := 461) hx9 hb dL_presses_454 (by decide) (fun c_170 => ?_) (fun c_170 => ?_)
                                                · exact absurd rfl c_170
                                                · have c_170 : v.1.1.2.2.1 = v.1.1.2.2.1 := c_170
                                                  refine lv_iconst (v := 1) hx9 hb dL_presses_457 (by decide) ?_
                                                  refine lv_goto (tgt := 462) hx9 hb dL_presses_458 (by decide) ?_
                                                  refine W.widen (k := 150) (n := 900) (by omega) (by omega) ?_
                                                  exact hret _ _ H locs _ (u_166, u_154) dL_presses_462 hP hD hS ⟨rfl, v2, hsf, hR_168, hR_156⟩
                                      refine lv_iload hx9 hb dL_presses_374 (lv_at hl 0 rfl) ?_
                                      refine lv_iload hx9 hb dL_presses_376 (lv_at hl 3 rfl) ?_
                                      refine lv_icmp_le (tgt := 388) hx9 hb dL_presses_378 (by decide) (fun c_171 => ?_) (fun c_171 => ?_)
                                      · have c_171 : (hWR n y) ≤ (hWR n v.1) := c_171
                                        refine W.widen (k := 45) (n := 252) (by omega) (by omega) ?_
                                        exact jn_388 u_137 u_86 _ _ _ hR_139 hR_88 hP hD hS (lv_sub hl [0, 1, 2, 3, 4, 5, 6, 7, 8, 9, 10, 11, 12, 13, 14, 15, 16, 17] rfl)
                                      · have c_171 : ¬ (hWR n y) ≤ (hWR n v.1) := c_171
                                        refine lv_iload hx9 hb dL_presses_381 (lv_at hl 0 rfl) ?_
                                        refine lv_iload hx9 hb dL_presses_383 (lv_at hl 2 rfl) ?_
                                        refine lv_icmp_gt (tgt := 392) hx9 hb dL_presses_385 (by decide) (fun c_172 => ?_) (fun c_172 => ?_)
                                        · exact absurd c_172 (y_ld.elim (fun q => absurd q c_171) id)
                                        · have c_172 : ¬ (v.1.2.1 0) < (hWR n y) := c_172
                                          refine W.widen (k := 45) (n := 252) (by omega) (by omega) ?_
                                          exact jn_388 u_137 u_86 _ _ _ hR_139 hR_88 hP hD hS (lv_sub hl [0, 1, 2, 3, 4, 5, 6, 7, 8, 9, 10, 11, 12, 13, 14, 15, 16, 17] rfl)
  refine lv_iload hx9 hb dL_presses_53 (lv_at hl 1 rfl) ?_
  refine lv_iload hx9 hb dL_presses_55 (lv_at hl 0 rfl) ?_
  refine lv_icmp_le (tgt := 68) hx9 hb dL_presses_57 (by decide) (fun c_173 => ?_) (fun c_173 => ?_)
  · have c_173 : (v.1.2.2.1 g) ≤ v.1.1.2.1 := c_173
    refine lv_iload hx9 hb dL_presses_68 (lv_at hl 0 rfl) ?_
    refine lv_iload hx9 hb dL_presses_70 (lv_at hl 1 rfl) ?_
    refine lv_isub hx9 hb dL_presses_72 ?_
    refine W.widen (k := 6) (n := 36) (by omega) (by omega) ?_
    refine zz_top (y := vHi (v.1.2.2.1 g) v.1.1.2.1 - vLo (v.1.2.2.1 g) v.1.1.2.1) (way_2 c_173) ?_
    exact jn_73 u_22 w _ _ _ hR_24 hR2 hP hD hS (lv_sub hl [0, 1, 2, 3, 4, 5, 6, 7] rfl)
  · have c_173 : ¬ (v.1.2.2.1 g) ≤ v.1.1.2.1 := c_173
    refine lv_iload hx9 hb dL_presses_60 (lv_at hl 1 rfl) ?_
    refine lv_iload hx9 hb dL_presses_62 (lv_at hl 0 rfl) ?_
    refine lv_isub hx9 hb dL_presses_64 ?_
    refine lv_goto (tgt := 73) hx9 hb dL_presses_65 (by decide) ?_
    refine W.widen (k := 6) (n := 36) (by omega) (by omega) ?_
    refine zz_top (y := vHi (v.1.2.2.1 g) v.1.1.2.1 - vLo (v.1.2.2.1 g) v.1.1.2.1) (way_1 c_173) ?_
    exact jn_73 u_22 w _ _ _ hR_24 hR2 hP hD hS (lv_sub hl [0, 1, 2, 3, 4, 5, 6, 7] rfl)
