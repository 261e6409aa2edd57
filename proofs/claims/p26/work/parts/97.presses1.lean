set_option maxHeartbeats 4000000 in
set_option maxRecDepth 100000 in
theorem c_L_presses1 (l : Launch) (D : va_G) (cy : Nat → ClassId) (hl0 : l.stackTraces = false) (a c9 : AD) (v : AV) (u w : BS) (B k g : Nat) (hk9 : k < 2 ^ 31) (hg9 : k % hN v.1 = g) (hgn : g < hN v.1) (hw : ¬ hReas v.1 (nI g) = 0) (hI : Inv B v) (hR : Rep v u) (hR2 : Rep v w) (sz : Nat) : bMet l yL_presses wsL_presses rm_L_presses D cy a c9 [.int (nI k)] u w sz (fun (r : Int32) (w : BS × BS) => r = 1 ∧ ∃ v2, Sfx v2 v ∧ Rep v2 w.1 ∧ Rep v2 w.2) 150 900 := by
  refine MwiX (cc := cL_presses) (maxL := 18) (ty := .boolean) (by decide) rfl (Nat.le_of_ble_eq_true rfl) (fun _ _ q => by rw [q.1]; rfl) ?_
  intro p e s m args below meth c Q ls A hAe hsz hX0 hF hK hP hD hA hl hret
  rw [← hsz, ← hAe] at hX0
  have hX : Gl A s := hX0
  obtain ⟨hx9, hb, hml, hown, hts⟩ := id hF
  have hown : s.vm.findClass RL = some m.cls := hown
  have hl : lv_has ls 18 [(0, .ref (aO a)), (1, .ref (aO c9)), (2, .int (nI k))] := hl
  have hret : ∀ (pc : Nat) (ls : Array Slot) (H : Heap) (locs : List Loc) (r : Int32) (u : BS × BS), decode cL_presses pc = .ok (.ireturn, 1) → va_P D vwCl (gW cy a u.1 ++ gW cy c9 u.2) H → va_D A (gW cy a u.1 ++ gW cy c9 u.2) → va_S A s.heap H locs → (fun (r : Int32) (w : BS × BS) => r = 1 ∧ ∃ v2, Sfx v2 v ∧ Rep v2 w.1 ∧ Rep v2 w.2) r u → W p l e rm_L_presses s m args below meth c H locs 150 900 Q (F0 m pc ls [.int r]) := hret
  obtain ⟨n, hn1, hx⟩ := hI.1
  have hO := hI.Ok
  obtain ⟨hn, hgu, hok⟩ := hx.ok
  have hn9 := hx.n
  rw [hn9] at hg9 hgn
  obtain ⟨y, hy⟩ : ∃ y, y = hPress n v.1 (nI g) := ⟨_, rfl⟩
  have hx2 : Hx (B + 1) n (aPush v y).1 := by rw [hy]; exact hx_press hx hgn
  have hO2 : Okv (aPush v y) := ⟨hx2.O, hO.2.1, hO.2.2⟩
  have hb1 : Bk 1 (aPush v y) v := bk_push (bk_0 hI.2.2.2.1) (by decide)
  obtain ⟨⟨ua, hua, eua⟩, hbk⟩ := bk_pop hb1
  obtain ⟨v2, hv2⟩ : ∃ v2, v2 = (aUndo (aPush v y)).2 := ⟨_, rfl⟩
  rw [← hv2] at hbk
  have hsf : Sfx v2 v := bk_end hbk
  have hI2 : Inv B v2 := hI.sfx hsf
  have hO3 := hI2.Ok
  have hx3 : Hx B n v2.1 := by rw [hsf.1]; exact hx
  have hyg : y = hRef v.1 := hy.trans (press_1 hn hgu hgn hw)
  obtain ⟨y_fl, y_se, y_pr, y_re, y_wr⟩ := ref_all (n := n) (x := v.1)
  rw [← hyg] at y_fl y_se y_pr y_re y_wr
  suffices key : ∀ (H : Heap) (locs : List Loc), va_P D vwCl (gW cy a u ++ gW cy c9 w) H → va_D A (gW cy a u ++ gW cy c9 w) → va_S A s.heap H locs → W p l e rm_L_presses s m args below meth c H locs 0 0 Q (F0 m 0 ls []) from key s.heap [] hP hD va_S.rf
  intro H locs hP hD hS
  refine lv_iload_n hx9 hb dL_presses_0 rfl (lv_at hl 2 rfl) ?_
  refine lv_aload_n hx9 hb dL_presses_1 rfl (lv_at hl 0 rfl) ?_
  refine lv_iconst (v := 2) hx9 hb dL_presses_2 (by decide) ?_
  refine lv_iconst (v := 0) hx9 hb dL_presses_3 (by decide) ?_
  refine lv_iconst (v := 0) hx9 hb dL_presses_4 (by decide) ?_
  refine lv_iconst (v := 0) hx9 hb dL_presses_5 (by decide) ?_
  refine wr_i (fun w9 : BS => gW cy a w9 ++ gW cy c9 w) (va_runS (As := [.ref (aO a), .int 2, .int 0, .int 0, .int 0]) (rest := [.int (nI k)]) hF (c_L_call_2 l D cy hl0 a v u hO hR 0 0 0 H.size) (va_cwS 5 hts gL_presses_L_call rfl rfl rfl (by decide +kernel) ⟨Nat.le_of_ble_eq_true rfl, Nat.le_of_ble_eq_true rfl⟩) (wrX_preS hK hP hD (List.Perm.refl _) Xok_l (fun U hU hW => Gl.at hX hS (zz_free hD (List.Perm.refl _) hS hA) hU hW)) rfl rfl hl.1 rfl (lv_room (Nat.le_of_ble_eq_true rfl)) dL_presses_6 ⟨Nat.le_of_ble_eq_true rfl, Nat.le_of_ble_eq_true rfl⟩) hP hD hS hA (List.Perm.refl _) (fun _ => List.Perm.refl _) (fun r_1 u_2 H locs e_3 hP hD hS => ?_)
  obtain ⟨x_5, hR_4⟩ : r_1 = nI n ∧ Rep v u_2 := by rw [qAb_0 hx] at e_3; exact e_3
  subst x_5
  have hP : va_P D vwCl (gW cy a u_2 ++ gW cy c9 w) H := hP
  have hD : va_D A (gW cy a u_2 ++ gW cy c9 w) := hD
  refine lv_irem hx9 hb dL_presses_9 (nI_ne0 (by omega) (by omega)) ?_
  refine zz_top (y := nI (k % n)) (pk_rem (by omega) (by omega) (by omega)) ?_
  refine zz_top (y := nI g) (by rw [hg9]) ?_
  refine lv_istore_n (lv' := [(3, .int (nI g)), (0, .ref (aO a)), (1, .ref (aO c9)), (2, .int (nI k))]) hx9 hb dL_presses_10 rfl hl (by decide) rfl (fun ls hl => ?_)
  refine lv_aload_n hx9 hb dL_presses_11 rfl (lv_at hl 1 rfl) ?_
  refine lv_bipush (v := 10) hx9 hb dL_presses_12 (by decide) ?_
  refine lv_iload_n hx9 hb dL_presses_14 rfl (lv_at hl 0 rfl) ?_
  refine lv_iconst (v := 0) hx9 hb dL_presses_15 (by decide) ?_
  refine lv_iconst (v := 0) hx9 hb dL_presses_16 (by decide) ?_
  refine wr_i (fun w9 : BS => gW cy a w9 ++ gW cy c9 w) (va_runS (As := [.ref (aO a), .int 10, .int (nI g), .int 0, .int 0]) (rest := []) hF (c_L_call_10 l D cy hl0 a v u_2 hO hR_4 (nI g) 0 0 H.size) (va_cwS 5 hts gL_presses_L_call rfl rfl rfl (by decide +kernel) ⟨Nat.le_of_ble_eq_true rfl, Nat.le_of_ble_eq_true rfl⟩) (wrX_preS hK hP hD (List.Perm.refl _) Xok_l (fun U hU hW => Gl.at hX hS (zz_free hD (List.Perm.refl _) hS hA) hU hW)) rfl rfl hl.1 rfl (lv_room (Nat.le_of_ble_eq_true rfl)) dL_presses_17 ⟨Nat.le_of_ble_eq_true rfl, Nat.le_of_ble_eq_true rfl⟩) hP hD hS hA (List.Perm.refl _) (fun _ => List.Perm.refl _) (fun r_6 u_7 H locs e_8 hP hD hS => ?_)
  obtain ⟨x_10, hR_9⟩ : r_6 = hReas v.1 (nI g) ∧ Rep v u_7 := by rw [qWh_g hx hgn] at e_8; exact e_8
  subst x_10
  have hP : va_P D vwCl (gW cy a u_7 ++ gW cy c9 w) H := hP
  have hD : va_D A (gW cy a u_7 ++ gW cy c9 w) := hD
  refine lv_istore (lv' := [(4, .int (hReas v.1 (nI g))), (3, .int (nI g)), (0, .ref (aO a)), (1, .ref (aO c9)), (2, .int (nI k))]) hx9 hb dL_presses_20 hl (by decide) rfl (fun ls hl => ?_)
  refine lv_aload_n hx9 hb dL_presses_22 rfl (lv_at hl 2 rfl) ?_
  refine lv_bipush (v := 13) hx9 hb dL_presses_23 (by decide) ?_
  refine lv_iload_n hx9 hb dL_presses_25 rfl (lv_at hl 1 rfl) ?_
  refine lv_iconst (v := 0) hx9 hb dL_presses_26 (by decide) ?_
  refine lv_iconst (v := 0) hx9 hb dL_presses_27 (by decide) ?_
  refine wr_i (fun w9 : BS => gW cy a w9 ++ gW cy c9 w) (va_runS (As := [.ref (aO a), .int 13, .int (nI g), .int 0, .int 0]) (rest := []) hF (c_L_call_13 l D cy hl0 a v u_7 hO hR_9 (nI g) 0 0 H.size) (va_cwS 5 hts gL_presses_L_call rfl rfl rfl (by decide +kernel) ⟨Nat.le_of_ble_eq_true rfl, Nat.le_of_ble_eq_true rfl⟩) (wrX_preS hK hP hD (List.Perm.refl _) Xok_l (fun U hU hW => Gl.at hX hS (zz_free hD (List.Perm.refl _) hS hA) hU hW)) rfl rfl hl.1 rfl (lv_room (Nat.le_of_ble_eq_true rfl)) dL_presses_28 ⟨Nat.le_of_ble_eq_true rfl, Nat.le_of_ble_eq_true rfl⟩) hP hD hS hA (List.Perm.refl _) (fun _ => List.Perm.refl _) (fun r_11 u_12 H locs e_13 hP hD hS => ?_)
  obtain ⟨x_15, hR_14⟩ : r_11 = hStandR n v.1 (nI g) ∧ Rep v u_12 := by rw [qLe_g hx hgn] at e_13; exact e_13
  subst x_15
  have hP : va_P D vwCl (gW cy a u_12 ++ gW cy c9 w) H := hP
  have hD : va_D A (gW cy a u_12 ++ gW cy c9 w) := hD
  refine lv_istore (lv' := [(5, .int (hStandR n v.1 (nI g))), (4, .int (hReas v.1 (nI g))), (3, .int (nI g)), (0, .ref (aO a)), (1, .ref (aO c9)), (2, .int (nI k))]) hx9 hb dL_presses_31 hl (by decide) rfl (fun ls hl => ?_)
  refine lv_aload_n hx9 hb dL_presses_33 rfl (lv_at hl 3 rfl) ?_
  refine lv_iconst (v := 3) hx9 hb dL_presses_34 (by decide) ?_
  refine lv_iload_n hx9 hb dL_presses_35 rfl (lv_at hl 2 rfl) ?_
  refine lv_iconst (v := 0) hx9 hb dL_presses_36 (by decide) ?_
  refine lv_iconst (v := 0) hx9 hb dL_presses_37 (by decide) ?_
  refine wr_i (fun w9 : BS => gW cy a w9 ++ gW cy c9 w) (va_runS (As := [.ref (aO a), .int 3, .int (nI g), .int 0, .int 0]) (rest := []) hF (c_L_call_3 l D cy hl0 a v u_12 hO hR_14 (nI g) 0 0 H.size) (va_cwS 5 hts gL_presses_L_call rfl rfl rfl (by decide +kernel) ⟨Nat.le_of_ble_eq_true rfl, Nat.le_of_ble_eq_true rfl⟩) (wrX_preS hK hP hD (List.Perm.refl _) Xok_l (fun U hU hW => Gl.at hX hS (zz_free hD (List.Perm.refl _) hS hA) hU hW)) rfl rfl hl.1 rfl (lv_room (Nat.le_of_ble_eq_true rfl)) dL_presses_38 ⟨Nat.le_of_ble_eq_true rfl, Nat.le_of_ble_eq_true rfl⟩) hP hD hS hA (List.Perm.refl _) (fun _ => List.Perm.refl _) (fun r_16 u_17 H locs e_18 hP hD hS => ?_)
  obtain ⟨x_20, hR_19⟩ : r_16 = v.1.2.2.1 g ∧ Rep v u_17 := by rw [qGu_0 hx hgn] at e_18; exact e_18
  subst x_20
  have hP : va_P D vwCl (gW cy a u_17 ++ gW cy c9 w) H := hP
  have hD : va_D A (gW cy a u_17 ++ gW cy c9 w) := hD
  refine lv_istore (lv' := [(6, .int (v.1.2.2.1 g)), (5, .int (hStandR n v.1 (nI g))), (4, .int (hReas v.1 (nI g))), (3, .int (nI g)), (0, .ref (aO a)), (1, .ref (aO c9)), (2, .int (nI k))]) hx9 hb dL_presses_41 hl (by decide) rfl (fun ls hl => ?_)
  refine lv_aload_n hx9 hb dL_presses_43 rfl (lv_at hl 4 rfl) ?_
  refine lv_iconst (v := 2) hx9 hb dL_presses_44 (by decide) ?_
  refine lv_iconst (v := 1) hx9 hb dL_presses_45 (by decide) ?_
  refine lv_iconst (v := 0) hx9 hb dL_presses_46 (by decide) ?_
  refine lv_iconst (v := 0) hx9 hb dL_presses_47 (by decide) ?_
  refine wr_i (fun w9 : BS => gW cy a w9 ++ gW cy c9 w) (va_runS (As := [.ref (aO a), .int 2, .int 1, .int 0, .int 0]) (rest := []) hF (c_L_call_2 l D cy hl0 a v u_17 hO hR_19 1 0 0 H.size) (va_cwS 5 hts gL_presses_L_call rfl rfl rfl (by decide +kernel) ⟨Nat.le_of_ble_eq_true rfl, Nat.le_of_ble_eq_true rfl⟩) (wrX_preS hK hP hD (List.Perm.refl _) Xok_l (fun U hU hW => Gl.at hX hS (zz_free hD (List.Perm.refl _) hS hA) hU hW)) rfl rfl hl.1 rfl (lv_room (Nat.le_of_ble_eq_true rfl)) dL_presses_48 ⟨Nat.le_of_ble_eq_true rfl, Nat.le_of_ble_eq_true rfl⟩) hP hD hS hA (List.Perm.refl _) (fun _ => List.Perm.refl _) (fun r_21 u_22 H locs e_23 hP hD hS => ?_)
  obtain ⟨x_25, hR_24⟩ : r_21 = v.1.1.2.1 ∧ Rep v u_22 := by rw [qAb_1 hx] at e_23; exact e_23
  subst x_25
  have hP : va_P D vwCl (gW cy a u_22 ++ gW cy c9 w) H := hP
  have hD : va_D A (gW cy a u_22 ++ gW cy c9 w) := hD
  refine lv_istore (lv' := [(7, .int v.1.1.2.1), (6, .int (v.1.2.2.1 g)), (5, .int (hStandR n v.1 (nI g))), (4, .int (hReas v.1 (nI g))), (3, .int (nI g)), (0, .ref (aO a)), (1, .ref (aO c9)), (2, .int (nI k))]) hx9 hb dL_presses_51 hl (by decide) rfl (fun ls hl => ?_)
  have jn_73 : ∀ (u_26 : BS) (u_28 : BS) (H : Heap) (locs : List Loc) (ls : Array Slot), Rep v u_26 → Rep v u_28 → va_P D vwCl (gW cy a u_26 ++ gW cy c9 u_28) H → va_D A (gW cy a u_26 ++ gW cy c9 u_28) → va_S A s.heap H locs → lv_has ls 18 [(7, .int v.1.1.2.1), (6, .int (v.1.2.2.1 g)), (5, .int (hStandR n v.1 (nI g))), (4, .int (hReas v.1 (nI g))), (3, .int (nI g)), (0, .ref (aO a)), (1, .ref (aO c9)), (2, .int (nI k))] → W p l e rm_L_presses s m args below meth c H locs (6) (36) Q (F0 m 73 ls [.int (vHi (v.1.2.2.1 g) v.1.1.2.1 - vLo (v.1.2.2.1 g) v.1.1.2.1)]) := by
    intro u_26 u_28 H locs ls hR_27 hR_29 hP hD hS hl
    refine lv_istore (lv' := [(8, .int (vHi (v.1.2.2.1 g) v.1.1.2.1 - vLo (v.1.2.2.1 g) v.1.1.2.1)), (7, .int v.1.1.2.1), (6, .int (v.1.2.2.1 g)), (5, .int (hStandR n v.1 (nI g))), (4, .int (hReas v.1 (nI g))), (3, .int (nI g)), (0, .ref (aO a)), (1, .ref (aO c9)), (2, .int (nI k))]) hx9 hb dL_presses_73 hl (by decide) rfl (fun ls hl => ?_)
    refine lv_aload_n hx9 hb dL_presses_75 rfl (lv_at hl 6 rfl) ?_
    refine lv_iconst (v := 2) hx9 hb dL_presses_76 (by decide) ?_
    refine lv_bipush (v := 6) hx9 hb dL_presses_77 (by decide) ?_
    refine lv_iconst (v := 0) hx9 hb dL_presses_79 (by decide) ?_
    refine lv_iconst (v := 0) hx9 hb dL_presses_80 (by decide) ?_
    refine wr_i (fun w9 : BS => gW cy a w9 ++ gW cy c9 u_28) (va_runS (As := [.ref (aO a), .int 2, .int 6, .int 0, .int 0]) (rest := []) hF (c_L_call_2 l D cy hl0 a v u_26 hO hR_27 6 0 0 H.size) (va_cwS 5 hts gL_presses_L_call rfl rfl rfl (by decide +kernel) ⟨Nat.le_of_ble_eq_true rfl, Nat.le_of_ble_eq_true rfl⟩) (wrX_preS hK hP hD (List.Perm.refl _) Xok_l (fun U hU hW => Gl.at hX hS (zz_free hD (List.Perm.refl _) hS hA) hU hW)) rfl rfl hl.1 rfl (lv_room (Nat.le_of_ble_eq_true rfl)) dL_presses_81 ⟨Nat.le_of_ble_eq_true rfl, Nat.le_of_ble_eq_true rfl⟩) hP hD hS hA (List.Perm.refl _) (fun _ => List.Perm.refl _) (fun r_30 u_31 H locs e_32 hP hD hS => ?_)
    obtain ⟨x_34, hR_33⟩ : r_30 = v.1.1.2.2.1 ∧ Rep v u_31 := by rw [qAb_6 hx] at e_32; exact e_32
    subst x_34
    have hP : va_P D vwCl (gW cy a u_31 ++ gW cy c9 u_28) H := hP
    have hD : va_D A (gW cy a u_31 ++ gW cy c9 u_28) := hD
    refine lv_istore (lv' := [(9, .int v.1.1.2.2.1), (8, .int (vHi (v.1.2.2.1 g) v.1.1.2.1 - vLo (v.1.2.2.1 g) v.1.1.2.1)), (7, .int v.1.1.2.1), (6, .int (v.1.2.2.1 g)), (5, .int (hStandR n v.1 (nI g))), (4, .int (hReas v.1 (nI g))), (3, .int (nI g)), (0, .ref (aO a)), (1, .ref (aO c9)), (2, .int (nI k))]) hx9 hb dL_presses_84 hl (by decide) rfl (fun ls hl => ?_)
    refine lv_aload_n hx9 hb dL_presses_86 rfl (lv_at hl 7 rfl) ?_
    refine lv_bipush (v := 12) hx9 hb dL_presses_87 (by decide) ?_
    refine lv_iconst (v := 1) hx9 hb dL_presses_89 (by decide) ?_
    refine lv_iload_n hx9 hb dL_presses_90 rfl (lv_at hl 6 rfl) ?_
    refine lv_iconst (v := 1) hx9 hb dL_presses_91 (by decide) ?_
    refine wr_i (fun w9 : BS => gW cy a w9 ++ gW cy c9 u_28) (va_runS (As := [.ref (aO a), .int 12, .int 1, .int (nI g), .int 1]) (rest := []) hF (c_L_call_12 l D cy hl0 a v u_31 hO hR_33 1 (nI g) 1 H.size) (va_cwS 5 hts gL_presses_L_call rfl rfl rfl (by decide +kernel) ⟨Nat.le_of_ble_eq_true rfl, Nat.le_of_ble_eq_true rfl⟩) (wrX_preS hK hP hD (List.Perm.refl _) Xok_l (fun U hU hW => Gl.at hX hS (zz_free hD (List.Perm.refl _) hS hA) hU hW)) rfl rfl hl.1 rfl (lv_room (Nat.le_of_ble_eq_true rfl)) dL_presses_92 ⟨Nat.le_of_ble_eq_true rfl, Nat.le_of_ble_eq_true rfl⟩) hP hD hS hA (List.Perm.refl _) (fun _ => List.Perm.refl _) (fun r_35 u_36 H locs e_37 hP hD hS => ?_)
    obtain ⟨x_39, hR_38⟩ : r_35 = y.1.2.2.1 - v.1.1.2.2.1 ∧ Rep v u_36 := by rw [qIf_1 hx hgn, ← hy] at e_37; exact e_37
    subst x_39
    have hP : va_P D vwCl (gW cy a u_36 ++ gW cy c9 u_28) H := hP
    have hD : va_D A (gW cy a u_36 ++ gW cy c9 u_28) := hD
    refine lv_istore (lv' := [(10, .int (y.1.2.2.1 - v.1.1.2.2.1)), (9, .int v.1.1.2.2.1), (8, .int (vHi (v.1.2.2.1 g) v.1.1.2.1 - vLo (v.1.2.2.1 g) v.1.1.2.1)), (7, .int v.1.1.2.1), (6, .int (v.1.2.2.1 g)), (5, .int (hStandR n v.1 (nI g))), (4, .int (hReas v.1 (nI g))), (3, .int (nI g)), (0, .ref (aO a)), (1, .ref (aO c9)), (2, .int (nI k))]) hx9 hb dL_presses_95 hl (by decide) rfl (fun ls hl => ?_)
    refine lv_aload_n hx9 hb dL_presses_97 rfl (lv_at hl 8 rfl) ?_
    refine lv_bipush (v := 12) hx9 hb dL_presses_98 (by decide) ?_
    refine lv_iconst (v := 1) hx9 hb dL_presses_100 (by decide) ?_
    refine lv_iload_n hx9 hb dL_presses_101 rfl (lv_at hl 7 rfl) ?_
    refine lv_iconst (v := 2) hx9 hb dL_presses_102 (by decide) ?_
    refine wr_i (fun w9 : BS => gW cy a w9 ++ gW cy c9 u_28) (va_runS (As := [.ref (aO a), .int 12, .int 1, .int (nI g), .int 2]) (rest := []) hF (c_L_call_12 l D cy hl0 a v u_36 hO hR_38 1 (nI g) 2 H.size) (va_cwS 5 hts gL_presses_L_call rfl rfl rfl (by decide +kernel) ⟨Nat.le_of_ble_eq_true rfl, Nat.le_of_ble_eq_true rfl⟩) (wrX_preS hK hP hD (List.Perm.refl _) Xok_l (fun U hU hW => Gl.at hX hS (zz_free hD (List.Perm.refl _) hS hA) hU hW)) rfl rfl hl.1 rfl (lv_room (Nat.le_of_ble_eq_true rfl)) dL_presses_103 ⟨Nat.le_of_ble_eq_true rfl, Nat.le_of_ble_eq_true rfl⟩) hP hD hS hA (List.Perm.refl _) (fun _ => List.Perm.refl _) (fun r_40 u_41 H locs e_42 hP hD hS => ?_)
    obtain ⟨x_44, hR_43⟩ : r_40 = hAG n y ∧ Rep v u_41 := by rw [qIf_2 hx hgn, ← hy] at e_42; exact e_42
    subst x_44
    have hP : va_P D vwCl (gW cy a u_41 ++ gW cy c9 u_28) H := hP
    have hD : va_D A (gW cy a u_41 ++ gW cy c9 u_28) := hD
    refine lv_istore (lv' := [(11, .int (hAG n y)), (10, .int (y.1.2.2.1 - v.1.1.2.2.1)), (9, .int v.1.1.2.2.1), (8, .int (vHi (v.1.2.2.1 g) v.1.1.2.1 - vLo (v.1.2.2.1 g) v.1.1.2.1)), (7, .int v.1.1.2.1), (6, .int (v.1.2.2.1 g)), (5, .int (hStandR n v.1 (nI g))), (4, .int (hReas v.1 (nI g))), (3, .int (nI g)), (0, .ref (aO a)), (1, .ref (aO c9)), (2, .int (nI k))]) hx9 hb dL_presses_106 hl (by decide) rfl (fun ls hl => ?_)
    refine lv_aload_n hx9 hb dL_presses_108 rfl (lv_at hl 9 rfl) ?_
    refine lv_bipush (v := 12) hx9 hb dL_presses_109 (by decide) ?_
    refine lv_iconst (v := 1) hx9 hb dL_presses_111 (by decide) ?_
    refine lv_iload_n hx9 hb dL_presses_112 rfl (lv_at hl 8 rfl) ?_
    refine lv_iconst (v := 3) hx9 hb dL_presses_113 (by decide) ?_
    refine wr_i (fun w9 : BS => gW cy a w9 ++ gW cy c9 u_28) (va_runS (As := [.ref (aO a), .int 12, .int 1, .int (nI g), .int 3]) (rest := []) hF (c_L_call_12 l D cy hl0 a v u_41 hO hR_43 1 (nI g) 3 H.size) (va_cwS 5 hts gL_presses_L_call rfl rfl rfl (by decide +kernel) ⟨Nat.le_of_ble_eq_true rfl, Nat.le_of_ble_eq_true rfl⟩) (wrX_preS hK hP hD (List.Perm.refl _) Xok_l (fun U hU hW => Gl.at hX hS (zz_free hD (List.Perm.refl _) hS hA) hU hW)) rfl rfl hl.1 rfl (lv_room (Nat.le_of_ble_eq_true rfl)) dL_presses_114 ⟨Nat.le_of_ble_eq_true rfl, Nat.le_of_ble_eq_true rfl⟩) hP hD hS hA (List.Perm.refl _) (fun _ => List.Perm.refl _) (fun r_45 u_46 H locs e_47 hP hD hS => ?_)
    obtain ⟨x_49, hR_48⟩ : r_45 = hGI n y 2 ∧ Rep v u_46 := by rw [qIf_3 hx hgn, ← hy] at e_47; exact e_47
    subst x_49
    have hP : va_P D vwCl (gW cy a u_46 ++ gW cy c9 u_28) H := hP
    have hD : va_D A (gW cy a u_46 ++ gW cy c9 u_28) := hD
    refine lv_istore (lv' := [(12, .int (hGI n y 2)), (11, .int (hAG n y)), (10, .int (y.1.2.2.1 - v.1.1.2.2.1)), (9, .int v.1.1.2.2.1), (8, .int (vHi (v.1.2.2.1 g) v.1.1.2.1 - vLo (v.1.2.2.1 g) v.1.1.2.1)), (7, .int v.1.1.2.1), (6, .int (v.1.2.2.1 g)), (5, .int (hStandR n v.1 (nI g))), (4, .int (hReas v.1 (nI g))), (3, .int (nI g)), (0, .ref (aO a)), (1, .ref (aO c9)), (2, .int (nI k))]) hx9 hb dL_presses_117 hl (by decide) rfl (fun ls hl => ?_)
    refine lv_aload_n hx9 hb dL_presses_119 rfl (lv_at hl 10 rfl) ?_
    refine lv_iconst (v := 2) hx9 hb dL_presses_120 (by decide) ?_
    refine lv_bipush (v := 8) hx9 hb dL_presses_121 (by decide) ?_
    refine lv_iconst (v := 0) hx9 hb dL_presses_123 (by decide) ?_
    refine lv_iconst (v := 0) hx9 hb dL_presses_124 (by decide) ?_
    refine wr_i (fun w9 : BS => gW cy a w9 ++ gW cy c9 u_28) (va_runS (As := [.ref (aO a), .int 2, .int 8, .int 0, .int 0]) (rest := []) hF (c_L_call_2 l D cy hl0 a v u_46 hO hR_48 8 0 0 H.size) (va_cwS 5 hts gL_presses_L_call rfl rfl rfl (by decide +kernel) ⟨Nat.le_of_ble_eq_true rfl, Nat.le_of_ble_eq_true rfl⟩) (wrX_preS hK hP hD (List.Perm.refl _) Xok_l (fun U hU hW => Gl.at hX hS (zz_free hD (List.Perm.refl _) hS hA) hU hW)) rfl rfl hl.1 rfl (lv_room (Nat.le_of_ble_eq_true rfl)) dL_presses_125 ⟨Nat.le_of_ble_eq_true rfl, Nat.le_of_ble_eq_true rfl⟩) hP hD hS hA (List.Perm.refl _) (fun _ => List.Perm.refl _) (fun r_50 u_51 H locs e_52 hP hD hS => ?_)
    obtain ⟨x_54, hR_53⟩ : r_50 = v.1.1.2.2.2.2.1 ∧ Rep v u_51 := by rw [qAb_8 hx] at e_52; exact e_52
    subst x_54
    have hP : va_P D vwCl (gW cy a u_51 ++ gW cy c9 u_28) H := hP
    have hD : va_D A (gW cy a u_51 ++ gW cy c9 u_28) := hD
    refine lv_istore (lv' := [(13, .int v.1.1.2.2.2.2.1), (12, .int (hGI n y 2)), (11, .int (hAG n y)), (10, .int (y.1.2.2.1 - v.1.1.2.2.1)), (9, .int v.1.1.2.2.1), (8, .int (vHi (v.1.2.2.1 g) v.1.1.2.1 - vLo (v.1.2.2.1 g) v.1.1.2.1)), (7, .int v.1.1.2.1), (6, .int (v.1.2.2.1 g)), (5, .int (hStandR n v.1 (nI g))), (4, .int (hReas v.1 (nI g))), (3, .int (nI g)), (0, .ref (aO a)), (1, .ref (aO c9)), (2, .int (nI k))]) hx9 hb dL_presses_128 hl (by decide) rfl (fun ls hl => ?_)
    refine lv_aload_n hx9 hb dL_presses_130 rfl (lv_at hl 11 rfl) ?_
    refine lv_iconst (v := 2) hx9 hb dL_presses_131 (by decide) ?_
    refine lv_iconst (v := 2) hx9 hb dL_presses_132 (by decide) ?_
    refine lv_iconst (v := 0) hx9 hb dL_presses_133 (by decide) ?_
    refine lv_iconst (v := 0) hx9 hb dL_presses_134 (by decide) ?_
    refine wr_i (fun w9 : BS => gW cy a w9 ++ gW cy c9 u_28) (va_runS (As := [.ref (aO a), .int 2, .int 2, .int 0, .int 0]) (rest := []) hF (c_L_call_2 l D cy hl0 a v u_51 hO hR_53 2 0 0 H.size) (va_cwS 5 hts gL_presses_L_call rfl rfl rfl (by decide +kernel) ⟨Nat.le_of_ble_eq_true rfl, Nat.le_of_ble_eq_true rfl⟩) (wrX_preS hK hP hD (List.Perm.refl _) Xok_l (fun U hU hW => Gl.at hX hS (zz_free hD (List.Perm.refl _) hS hA) hU hW)) rfl rfl hl.1 rfl (lv_room (Nat.le_of_ble_eq_true rfl)) dL_presses_135 ⟨Nat.le_of_ble_eq_true rfl, Nat.le_of_ble_eq_true rfl⟩) hP hD hS hA (List.Perm.refl _) (fun _ => List.Perm.refl _) (fun r_55 u_56 H locs e_57 hP hD hS => ?_)
    obtain ⟨x_59, hR_58⟩ : r_55 = hWR n v.1 ∧ Rep v u_56 := by rw [qAb_2 hx] at e_57; exact e_57
    subst x_59
    have hP : va_P D vwCl (gW cy a u_56 ++ gW cy c9 u_28) H := hP
    have hD : va_D A (gW cy a u_56 ++ gW cy c9 u_28) := hD
    refine lv_istore (lv' := [(14, .int (hWR n v.1)), (13, .int v.1.1.2.2.2.2.1), (12, .int (hGI n y 2)), (11, .int (hAG n y)), (10, .int (y.1.2.2.1 - v.1.1.2.2.1)), (9, .int v.1.1.2.2.1), (8, .int (vHi (v.1.2.2.1 g) v.1.1.2.1 - vLo (v.1.2.2.1 g) v.1.1.2.1)), (7, .int v.1.1.2.1), (6, .int (v.1.2.2.1 g)), (5, .int (hStandR n v.1 (nI g))), (4, .int (hReas v.1 (nI g))), (3, .int (nI g)), (0, .ref (aO a)), (1, .ref (aO c9)), (2, .int (nI k))]) hx9 hb dL_presses_138 hl (by decide) rfl (fun ls hl => ?_)
    refine lv_aload_n hx9 hb dL_presses_140 rfl (lv_at hl 12 rfl) ?_
    refine lv_iconst (v := 5) hx9 hb dL_presses_141 (by decide) ?_
    refine lv_iconst (v := 0) hx9 hb dL_presses_142 (by decide) ?_
    refine lv_iconst (v := 0) hx9 hb dL_presses_143 (by decide) ?_
    refine lv_iconst (v := 0) hx9 hb dL_presses_144 (by decide) ?_
    refine wr_i (fun w9 : BS => gW cy a w9 ++ gW cy c9 u_28) (va_runS (As := [.ref (aO a), .int 5, .int 0, .int 0, .int 0]) (rest := []) hF (c_L_call_5 l D cy hl0 a v u_56 hO hR_58 0 0 0 H.size) (va_cwS 5 hts gL_presses_L_call rfl rfl rfl (by decide +kernel) ⟨Nat.le_of_ble_eq_true rfl, Nat.le_of_ble_eq_true rfl⟩) (wrX_preS hK hP hD (List.Perm.refl _) Xok_l (fun U hU hW => Gl.at hX hS (zz_free hD (List.Perm.refl _) hS hA) hU hW)) rfl rfl hl.1 rfl (lv_room (Nat.le_of_ble_eq_true rfl)) dL_presses_145 ⟨Nat.le_of_ble_eq_true rfl, Nat.le_of_ble_eq_true rfl⟩) hP hD hS hA (List.Perm.refl _) (fun _ => List.Perm.refl _) (fun r_60 u_61 H locs e_62 hP hD hS => ?_)
    obtain ⟨x_64, hR_63⟩ : r_60 = v.1.2.1 0 ∧ Rep v u_61 := by rw [qSe_0] at e_62; exact e_62
    subst x_64
    have hP : va_P D vwCl (gW cy a u_61 ++ gW cy c9 u_28) H := hP
    have hD : va_D A (gW cy a u_61 ++ gW cy c9 u_28) := hD
    refine lv_istore (lv' := [(15, .int (v.1.2.1 0)), (14, .int (hWR n v.1)), (13, .int v.1.1.2.2.2.2.1), (12, .int (hGI n y 2)), (11, .int (hAG n y)), (10, .int (y.1.2.2.1 - v.1.1.2.2.1)), (9, .int v.1.1.2.2.1), (8, .int (vHi (v.1.2.2.1 g) v.1.1.2.1 - vLo (v.1.2.2.1 g) v.1.1.2.1)), (7, .int v.1.1.2.1), (6, .int (v.1.2.2.1 g)), (5, .int (hStandR n v.1 (nI g))), (4, .int (hReas v.1 (nI g))), (3, .int (nI g)), (0, .ref (aO a)), (1, .ref (aO c9)), (2, .int (nI k))]) hx9 hb dL_presses_148 hl (by decide) rfl (fun ls hl => ?_)
    refine lv_aload_n hx9 hb dL_presses_150 rfl (lv_at hl 13 rfl) ?_
    refine lv_bipush (v := 12) hx9 hb dL_presses_151 (by decide) ?_
    refine lv_iconst (v := 1) hx9 hb dL_presses_153 (by decide) ?_
    refine lv_iload_n hx9 hb dL_presses_154 rfl (lv_at hl 12 rfl) ?_
    refine lv_iconst (v := 0) hx9 hb dL_presses_155 (by decide) ?_
    refine wr_i (fun w9 : BS => gW cy a w9 ++ gW cy c9 u_28) (va_runS (As := [.ref (aO a), .int 12, .int 1, .int (nI g), .int 0]) (rest := []) hF (c_L_call_12 l D cy hl0 a v u_61 hO hR_63 1 (nI g) 0 H.size) (va_cwS 5 hts gL_presses_L_call rfl rfl rfl (by decide +kernel) ⟨Nat.le_of_ble_eq_true rfl, Nat.le_of_ble_eq_true rfl⟩) (wrX_preS hK hP hD (List.Perm.refl _) Xok_l (fun U hU hW => Gl.at hX hS (zz_free hD (List.Perm.refl _) hS hA) hU hW)) rfl rfl hl.1 rfl (lv_room (Nat.le_of_ble_eq_true rfl)) dL_presses_156 ⟨Nat.le_of_ble_eq_true rfl, Nat.le_of_ble_eq_true rfl⟩) hP hD hS hA (List.Perm.refl _) (fun _ => List.Perm.refl _) (fun r_65 u_66 H locs e_67 hP hD hS => ?_)
    obtain ⟨x_69, hR_68⟩ : r_65 = y.1.2.2.2.1 - v.1.1.2.2.2.1 ∧ Rep v u_66 := by rw [qIf_0 hx hgn, ← hy] at e_67; exact e_67
    subst x_69
    have hP : va_P D vwCl (gW cy a u_66 ++ gW cy c9 u_28) H := hP
    have hD : va_D A (gW cy a u_66 ++ gW cy c9 u_28) := hD
    refine lv_iload hx9 hb dL_presses_159 (lv_at hl 11 rfl) ?_
    refine lv_if_ne (tgt := 168) hx9 hb dL_presses_161 (by decide) (fun c_70 => ?_) (fun c_70 => ?_)
    · have c_70 : ¬ (hReas v.1 (nI g)) = 0 := c_70
      refine lv_iconst (v := 0) hx9 hb dL_presses_168 (by decide) ?_
      refine lv_icmp_ne (tgt := 324) hx9 hb dL_presses_169 (by decide) (fun c_71 => ?_) (fun c_71 => ?_)
      · exact absurd (by rw [y_pr]; exact i_zero _) c_71
      · have c_71 : (y.1.2.2.2.1 - v.1.1.2.2.2.1) = 0 := c_71
        refine lv_aload_n hx9 hb dL_presses_172 rfl (lv_at hl 13 rfl) ?_
        refine lv_bipush (v := 12) hx9 hb dL_presses_173 (by decide) ?_
        refine lv_iconst (v := 1) hx9 hb dL_presses_175 (by decide) ?_
        refine lv_iload_n hx9 hb dL_presses_176 rfl (lv_at hl 12 rfl) ?_
        refine lv_iconst (v := 4) hx9 hb dL_presses_177 (by decide) ?_
        refine wr_i (fun w9 : BS => gW cy a w9 ++ gW cy c9 u_28) (va_runS (As := [.ref (aO a), .int 12, .int 1, .int (nI g), .int 4]) (rest := []) hF (c_L_call_12 l D cy hl0 a v u_66 hO hR_68 1 (nI g) 4 H.size) (va_cwS 5 hts gL_presses_L_call rfl rfl rfl (by decide +kernel) ⟨Nat.le_of_ble_eq_true rfl, Nat.le_of_ble_eq_true rfl⟩) (wrX_preS hK hP hD (List.Perm.refl _) Xok_l (fun U hU hW => Gl.at hX hS (zz_free hD (List.Perm.refl _) hS hA) hU hW)) rfl rfl hl.1 rfl (lv_room (Nat.le_of_ble_eq_true rfl)) dL_presses_178 ⟨Nat.le_of_ble_eq_true rfl, Nat.le_of_ble_eq_true rfl⟩) hP hD hS hA (List.Perm.refl _) (fun _ => List.Perm.refl _) (fun r_72 u_73 H locs e_74 hP hD hS => ?_)
        obtain ⟨x_76, hR_75⟩ : r_72 = y.1.2.1 ∧ Rep v u_73 := by rw [qIf_4 hx hgn, ← hy] at e_74; exact e_74
        subst x_76
        have hP : va_P D vwCl (gW cy a u_73 ++ gW cy c9 u_28) H := hP
        have hD : va_D A (gW cy a u_73 ++ gW cy c9 u_28) := hD
        refine lv_iload hx9 hb dL_presses_181 (lv_at hl 11 rfl) ?_
        refine lv_if_ne (tgt := 191) hx9 hb dL_presses_183 (by decide) (fun c_77 => ?_) (fun c_77 => ?_)
        · have c_77 : ¬ (hReas v.1 (nI g)) = 0 := c_77
          refine lv_iload hx9 hb dL_presses_191 (lv_at hl 8 rfl) ?_
          refine lv_icmp_ne (tgt := 324) hx9 hb dL_presses_193 (by decide) (fun c_78 => ?_) (fun c_78 => ?_)
          · exact absurd y_fl c_78
          · have c_78 : y.1.2.1 = v.1.1.2.1 := c_78
            refine lv_aload_n hx9 hb dL_presses_196 rfl (lv_at hl 13 rfl) ?_
            refine lv_bipush (v := 7) hx9 hb dL_presses_197 (by decide) ?_
            refine lv_iload_n hx9 hb dL_presses_199 rfl (lv_at hl 12 rfl) ?_
            refine lv_iconst (v := 0) hx9 hb dL_presses_200 (by decide) ?_
            refine lv_iconst (v := 0) hx9 hb dL_presses_201 (by decide) ?_
            refine wr_i (fun w9 : BS => gW cy a w9 ++ gW cy c9 u_28) (va_runS (As := [.ref (aO a), .int 7, .int (nI g), .int 0, .int 0]) (rest := []) hF (c_L_call_7 l D cy hl0 a v u_73 hO hR_75 (nI g) 0 0 H.size) (va_cwS 5 hts gL_presses_L_call rfl rfl rfl (by decide +kernel) ⟨Nat.le_of_ble_eq_true rfl, Nat.le_of_ble_eq_true rfl⟩) (wrX_preS hK hP hD (List.Perm.refl _) Xok_l (fun U hU hW => Gl.at hX hS (zz_free hD (List.Perm.refl _) hS hA) hU hW)) rfl rfl hl.1 rfl (lv_room (Nat.le_of_ble_eq_true rfl)) dL_presses_202 ⟨Nat.le_of_ble_eq_true rfl, Nat.le_of_ble_eq_true rfl⟩) hP hD hS hA (List.Perm.refl _) (fun _ => List.Perm.refl _) (fun r_79 u_80 H locs e_81 hP hD hS => ?_)
            obtain ⟨x_83, hR_82⟩ : r_79 = hReas v.1 (nI g) ∧ Rep ((aPush v y)) u_80 := by rw [aPress_g hx hgn, ← hy] at e_81; exact e_81
            subst x_83
            have hP : va_P D vwCl (gW cy a u_80 ++ gW cy c9 u_28) H := hP
            have hD : va_D A (gW cy a u_80 ++ gW cy c9 u_28) := hD
            refine lv_iload hx9 hb dL_presses_205 (lv_at hl 11 rfl) ?_
            refine lv_icmp_ne (tgt := 324) hx9 hb dL_presses_207 (by decide) (fun c_84 => ?_) (fun c_84 => ?_)
            · exact absurd rfl c_84
            · have c_84 : (hReas v.1 (nI g)) = (hReas v.1 (nI g)) := c_84
              refine lv_aload_n hx9 hb dL_presses_210 rfl (lv_at hl 14 rfl) ?_
              refine lv_bipush (v := 7) hx9 hb dL_presses_211 (by decide) ?_
              refine lv_iload_n hx9 hb dL_presses_213 rfl (lv_at hl 12 rfl) ?_
              refine lv_iconst (v := 0) hx9 hb dL_presses_214 (by decide) ?_
              refine lv_iconst (v := 0) hx9 hb dL_presses_215 (by decide) ?_
              refine wr_i (fun w9 : BS => gW cy a u_80 ++ gW cy c9 w9) (va_runS (As := [.ref (aO c9), .int 7, .int (nI g), .int 0, .int 0]) (rest := []) hF (c_L_call_7 l D cy hl0 c9 v u_28 hO hR_29 (nI g) 0 0 H.size) (va_cwS 5 hts gL_presses_L_call rfl rfl rfl (by decide +kernel) ⟨Nat.le_of_ble_eq_true rfl, Nat.le_of_ble_eq_true rfl⟩) (wrX_preS hK hP hD List.perm_append_comm Xok_l (fun U hU hW => Gl.at hX hS (zz_free hD List.perm_append_comm hS hA) hU hW)) rfl rfl hl.1 rfl (lv_room (Nat.le_of_ble_eq_true rfl)) dL_presses_216 ⟨Nat.le_of_ble_eq_true rfl, Nat.le_of_ble_eq_true rfl⟩) hP hD hS hA List.perm_append_comm (fun _ => List.perm_append_comm) (fun r_85 u_86 H locs e_87 hP hD hS => ?_)
              obtain ⟨x_89, hR_88⟩ : r_85 = hReas v.1 (nI g) ∧ Rep ((aPush v y)) u_86 := by rw [aPress_g hx hgn, ← hy] at e_87; exact e_87
              subst x_89
              have hP : va_P D vwCl (gW cy a u_80 ++ gW cy c9 u_86) H := hP
              have hD : va_D A (gW cy a u_80 ++ gW cy c9 u_86) := hD
              refine lv_iload hx9 hb dL_presses_219 (lv_at hl 11 rfl) ?_
              refine lv_icmp_ne (tgt := 324) hx9 hb dL_presses_221 (by decide) (fun c_90 => ?_) (fun c_90 => ?_)
              · exact absurd rfl c_90
              · have c_90 : (hReas v.1 (nI g)) = (hReas v.1 (nI g)) := c_90
                refine lv_aload_n hx9 hb dL_presses_224 rfl (lv_at hl 13 rfl) ?_
                refine lv_iconst (v := 2) hx9 hb dL_presses_225 (by decide) ?_
                refine lv_bipush (v := 6) hx9 hb dL_presses_226 (by decide) ?_
                refine lv_iconst (v := 0) hx9 hb dL_presses_228 (by decide) ?_
                refine lv_iconst (v := 0) hx9 hb dL_presses_229 (by decide) ?_
                refine wr_i (fun w9 : BS => gW cy a w9 ++ gW cy c9 u_86) (va_runS (As := [.ref (aO a), .int 2, .int 6, .int 0, .int 0]) (rest := []) hF (c_L_call_2 l D cy hl0 a ((aPush v y)) u_80 hO2 hR_82 6 0 0 H.size) (va_cwS 5 hts gL_presses_L_call rfl rfl rfl (by decide +kernel) ⟨Nat.le_of_ble_eq_true rfl, Nat.le_of_ble_eq_true rfl⟩) (wrX_preS hK hP hD (List.Perm.refl _) Xok_l (fun U hU hW => Gl.at hX hS (zz_free hD (List.Perm.refl _) hS hA) hU hW)) rfl rfl hl.1 rfl (lv_room (Nat.le_of_ble_eq_true rfl)) dL_presses_230 ⟨Nat.le_of_ble_eq_true rfl, Nat.le_of_ble_eq_true rfl⟩) hP hD hS hA (List.Perm.refl _) (fun _ => List.Perm.refl _) (fun r_91 u_92 H locs e_93 hP hD hS => ?_)
                obtain ⟨x_95, hR_94⟩ : r_91 = y.1.2.2.1 ∧ Rep ((aPush v y)) u_92 := by rw [qAb_6 hx2] at e_93; exact e_93
                subst x_95
                have hP : va_P D vwCl (gW cy a u_92 ++ gW cy c9 u_86) H := hP
                have hD : va_D A (gW cy a u_92 ++ gW cy c9 u_86) := hD
                refine lv_iload hx9 hb dL_presses_233 (lv_at hl 6 rfl) ?_
                refine lv_iload hx9 hb dL_presses_235 (lv_at hl 5 rfl) ?_
                refine lv_iadd hx9 hb dL_presses_237 ?_
                refine lv_icmp_ne (tgt := 324) hx9 hb dL_presses_238 (by decide) (fun c_96 => ?_) (fun c_96 => ?_)
                · exact absurd (i_addsub _ _).symm c_96
                · have c_96 : y.1.2.2.1 = (v.1.1.2.2.1 + (y.1.2.2.1 - v.1.1.2.2.1)) := c_96
                  refine lv_iload hx9 hb dL_presses_241 (lv_at hl 5 rfl) ?_
                  refine lv_iload hx9 hb dL_presses_243 (lv_at hl 11 rfl) ?_
                  refine lv_if_ne (tgt := 264) hx9 hb dL_presses_245 (by decide) (fun c_97 => ?_) (fun c_97 => ?_)
                  · have c_97 : ¬ (hReas v.1 (nI g)) = 0 := c_97
                    refine lv_iconst (v := 0) hx9 hb dL_presses_264 (by decide) ?_
                    refine lv_icmp_ne (tgt := 324) hx9 hb dL_presses_265 (by decide) (fun c_98 => ?_) (fun c_98 => ?_)
                    · exact absurd (by rw [y_se]; exact i_zero _) c_98
                    · have c_98 : (y.1.2.2.1 - v.1.1.2.2.1) = 0 := c_98
                      refine lv_aload_n hx9 hb dL_presses_268 rfl (lv_at hl 13 rfl) ?_
                      refine lv_iconst (v := 2) hx9 hb dL_presses_269 (by decide) ?_
                      refine lv_bipush (v := 10) hx9 hb dL_presses_270 (by decide) ?_
                      refine lv_iconst (v := 0) hx9 hb dL_presses_272 (by decide) ?_
                      refine lv_iconst (v := 0) hx9 hb dL_presses_273 (by decide) ?_
                      refine wr_i (fun w9 : BS => gW cy a w9 ++ gW cy c9 u_86) (va_runS (As := [.ref (aO a), .int 2, .int 10, .int 0, .int 0]) (rest := []) hF (c_L_call_2 l D cy hl0 a ((aPush v y)) u_92 hO2 hR_94 10 0 0 H.size) (va_cwS 5 hts gL_presses_L_call rfl rfl rfl (by decide +kernel) ⟨Nat.le_of_ble_eq_true rfl, Nat.le_of_ble_eq_true rfl⟩) (wrX_preS hK hP hD (List.Perm.refl _) Xok_l (fun U hU hW => Gl.at hX hS (zz_free hD (List.Perm.refl _) hS hA) hU hW)) rfl rfl hl.1 rfl (lv_room (Nat.le_of_ble_eq_true rfl)) dL_presses_274 ⟨Nat.le_of_ble_eq_true rfl, Nat.le_of_ble_eq_true rfl⟩) hP hD hS hA (List.Perm.refl _) (fun _ => List.Perm.refl _) (fun r_99 u_100 H locs e_101 hP hD hS => ?_)
                      obtain ⟨x_103, hR_102⟩ : r_99 = hAG n y ∧ Rep ((aPush v y)) u_100 := by rw [qAb_10 hx2] at e_101; exact e_101
                      subst x_103
                      have hP : va_P D vwCl (gW cy a u_100 ++ gW cy c9 u_86) H := hP
                      have hD : va_D A (gW cy a u_100 ++ gW cy c9 u_86) := hD
                      refine lv_iload hx9 hb dL_presses_277 (lv_at hl 4 rfl) ?_
                      refine lv_icmp_ne (tgt := 324) hx9 hb dL_presses_279 (by decide) (fun c_104 => ?_) (fun c_104 => ?_)
                      · exact absurd rfl c_104
                      · have c_104 : (hAG n y) = (hAG n y) := c_104
                        refine lv_aload_n hx9 hb dL_presses_282 rfl (lv_at hl 13 rfl) ?_
                        refine lv_iconst (v := 2) hx9 hb dL_presses_283 (by decide) ?_
                        refine lv_iconst (v := 5) hx9 hb dL_presses_284 (by decide) ?_
                        refine lv_iconst (v := 0) hx9 hb dL_presses_285 (by decide) ?_
                        refine lv_iconst (v := 0) hx9 hb dL_presses_286 (by decide) ?_
                        refine wr_i (fun w9 : BS => gW cy a w9 ++ gW cy c9 u_86) (va_runS (As := [.ref (aO a), .int 2, .int 5, .int 0, .int 0]) (rest := []) hF (c_L_call_2 l D cy hl0 a ((aPush v y)) u_100 hO2 hR_102 5 0 0 H.size) (va_cwS 5 hts gL_presses_L_call rfl rfl rfl (by decide +kernel) ⟨Nat.le_of_ble_eq_true rfl, Nat.le_of_ble_eq_true rfl⟩) (wrX_preS hK hP hD (List.Perm.refl _) Xok_l (fun U hU hW => Gl.at hX hS (zz_free hD (List.Perm.refl _) hS hA) hU hW)) rfl rfl hl.1 rfl (lv_room (Nat.le_of_ble_eq_true rfl)) dL_presses_287 ⟨Nat.le_of_ble_eq_true rfl, Nat.le_of_ble_eq_true rfl⟩) hP hD hS hA (List.Perm.refl _) (fun _ => List.Perm.refl _) (fun r_105 u_106 H locs e_107 hP hD hS => ?_)
                        obtain ⟨x_109, hR_108⟩ : r_105 = hGI n y 2 ∧ Rep ((aPush v y)) u_106 := by rw [qAb_5 hx2] at e_107; exact e_107
                        subst x_109
                        have hP : va_P D vwCl (gW cy a u_106 ++ gW cy c9 u_86) H := hP
                        have hD : va_D A (gW cy a u_106 ++ gW cy c9 u_86) := hD
                        refine lv_iload hx9 hb dL_presses_290 (lv_at hl 3 rfl) ?_
                        refine lv_icmp_ne (tgt := 324) hx9 hb dL_presses_292 (by decide) (fun c_110 => ?_) (fun c_110 => ?_)
                        · exact absurd rfl c_110
                        · have c_110 : (hGI n y 2) = (hGI n y 2) := c_110
                          refine lv_aload_n hx9 hb dL_presses_295 rfl (lv_at hl 13 rfl) ?_
                          refine lv_iconst (v := 2) hx9 hb dL_presses_296 (by decide) ?_
                          refine lv_bipush (v := 8) hx9 hb dL_presses_297 (by decide) ?_
                          refine lv_iconst (v := 0) hx9 hb dL_presses_299 (by decide) ?_
                          refine lv_iconst (v := 0) hx9 hb dL_presses_300 (by decide) ?_
                          refine wr_i (fun w9 : BS => gW cy a w9 ++ gW cy c9 u_86) (va_runS (As := [.ref (aO a), .int 2, .int 8, .int 0, .int 0]) (rest := []) hF (c_L_call_2 l D cy hl0 a ((aPush v y)) u_106 hO2 hR_108 8 0 0 H.size) (va_cwS 5 hts gL_presses_L_call rfl rfl rfl (by decide +kernel) ⟨Nat.le_of_ble_eq_true rfl, Nat.le_of_ble_eq_true rfl⟩) (wrX_preS hK hP hD (List.Perm.refl _) Xok_l (fun U hU hW => Gl.at hX hS (zz_free hD (List.Perm.refl _) hS hA) hU hW)) rfl rfl hl.1 rfl (lv_room (Nat.le_of_ble_eq_true rfl)) dL_presses_301 ⟨Nat.le_of_ble_eq_true rfl, Nat.le_of_ble_eq_true rfl⟩) hP hD hS hA (List.Perm.refl _) (fun _ => List.Perm.refl _) (fun r_111 u_112 H locs e_113 hP hD hS => ?_)
                          obtain ⟨x_115, hR_114⟩ : r_111 = y.1.2.2.2.2.1 ∧ Rep ((aPush v y)) u_112 := by rw [qAb_8 hx2] at e_113; exact e_113
                          subst x_115
                          have hP : va_P D vwCl (gW cy a u_112 ++ gW cy c9 u_86) H := hP
                          have hD : va_D A (gW cy a u_112 ++ gW cy c9 u_86) := hD
                          refine lv_iload hx9 hb dL_presses_304 (lv_at hl 2 rfl) ?_
                          refine lv_iload hx9 hb dL_presses_306 (lv_at hl 11 rfl) ?_
                          refine lv_if_ne (tgt := 315) hx9 hb dL_presses_308 (by decide) (fun c_116 => ?_) (fun c_116 => ?_)
                          · have c_116 : ¬ (hReas v.1 (nI g)) = 0 := c_116
                            refine lv_iconst (v := 1) hx9 hb dL_presses_315 (by decide) ?_
                            refine lv_iadd hx9 hb dL_presses_316 ?_
                            refine lv_icmp_ne (tgt := 324) hx9 hb dL_presses_317 (by decide) (fun c_117 => ?_) (fun c_117 => ?_)
                            · exact absurd y_re c_117
                            · have c_117 : y.1.2.2.2.2.1 = (v.1.1.2.2.2.2.1 + 1) := c_117
                              refine lv_iconst (v := 1) hx9 hb dL_presses_320 (by decide) ?_
                              refine lv_goto (tgt := 325) hx9 hb dL_presses_321 (by decide) ?_
                              refine lv_istore (lv' := [(16, .int 1), (15, .int (v.1.2.1 0)), (14, .int (hWR n v.1)), (13, .int v.1.1.2.2.2.2.1), (12, .int (hGI n y 2)), (11, .int (hAG n y)), (10, .int (y.1.2.2.1 - v.1.1.2.2.1)), (9, .int v.1.1.2.2.1), (8, .int (vHi (v.1.2.2.1 g) v.1.1.2.1 - vLo (v.1.2.2.1 g) v.1.1.2.1)), (7, .int v.1.1.2.1), (6, .int (v.1.2.2.1 g)), (5, .int (hStandR n v.1 (nI g))), (4, .int (hReas v.1 (nI g))), (3, .int (nI g)), (0, .ref (aO a)), (1, .ref (aO c9)), (2, .int (nI k))]) hx9 hb dL_presses_325 hl (by decide) rfl (fun ls hl => ?_)
                              refine lv_aload_n hx9 hb dL_presses_327 rfl (lv_at hl 14 rfl) ?_
                              refine lv_iconst (v := 2) hx9 hb dL_presses_328 (by decide) ?_
                              refine lv_iconst (v := 2) hx9 hb dL_presses_329 (by decide) ?_
                              refine lv_iconst (v := 0) hx9 hb dL_presses_330 (by decide) ?_
                              refine lv_iconst (v := 0) hx9 hb dL_presses_331 (by decide) ?_
                              refine wr_i (fun w9 : BS => gW cy a w9 ++ gW cy c9 u_86) (va_runS (As := [.ref (aO a), .int 2, .int 2, .int 0, .int 0]) (rest := []) hF (c_L_call_2 l D cy hl0 a ((aPush v y)) u_112 hO2 hR_114 2 0 0 H.size) (va_cwS 5 hts gL_presses_L_call rfl rfl rfl (by decide +kernel) ⟨Nat.le_of_ble_eq_true rfl, Nat.le_of_ble_eq_true rfl⟩) (wrX_preS hK hP hD (List.Perm.refl _) Xok_l (fun U hU hW => Gl.at hX hS (zz_free hD (List.Perm.refl _) hS hA) hU hW)) rfl rfl hl.1 rfl (lv_room (Nat.le_of_ble_eq_true rfl)) dL_presses_332 ⟨Nat.le_of_ble_eq_true rfl, Nat.le_of_ble_eq_true rfl⟩) hP hD hS hA (List.Perm.refl _) (fun _ => List.Perm.refl _) (fun r_118 u_119 H locs e_120 hP hD hS => ?_)
                              obtain ⟨x_122, hR_121⟩ : r_118 = hWR n y ∧ Rep ((aPush v y)) u_119 := by rw [qAb_2 hx2] at e_120; exact e_120
                              subst x_122
                              have hP : va_P D vwCl (gW cy a u_119 ++ gW cy c9 u_86) H := hP
                              have hD : va_D A (gW cy a u_119 ++ gW cy c9 u_86) := hD
                              refine lv_istore (lv' := [(17, .int (hWR n y)), (16, .int 1), (15, .int (v.1.2.1 0)), (14, .int (hWR n v.1)), (13, .int v.1.1.2.2.2.2.1), (12, .int (hGI n y 2)), (11, .int (hAG n y)), (10, .int (y.1.2.2.1 - v.1.1.2.2.1)), (9, .int v.1.1.2.2.1), (8, .int (vHi (v.1.2.2.1 g) v.1.1.2.1 - vLo (v.1.2.2.1 g) v.1.1.2.1)), (7, .int v.1.1.2.1), (6, .int (v.1.2.2.1 g)), (5, .int (hStandR n v.1 (nI g))), (4, .int (hReas v.1 (nI g))), (3, .int (nI g)), (0, .ref (aO a)), (1, .ref (aO c9)), (2, .int (nI k))]) hx9 hb dL_presses_335 hl (by decide) rfl (fun ls hl => ?_)
                              refine lv_iload hx9 hb dL_presses_337 (lv_at hl 1 rfl) ?_
                              refine lv_if_eq (tgt := 392) hx9 hb dL_presses_339 (by decide) (fun c_123 => ?_) (fun c_123 => ?_)
                              · exact absurd c_123 (by decide)
                              · refine lv_iload hx9 hb dL_presses_342 (lv_at hl 13 rfl) ?_
                                refine lv_if_gt (tgt := 374) hx9 hb dL_presses_344 (by decide) (fun c_124 => ?_) (fun c_124 => ?_)
                                · have c_124 : 0 < (hReas v.1 (nI g)) := c_124
                                  have jn_388 : ∀ (u_125 : BS) (u_127 : BS) (H : Heap) (locs : List Loc) (ls : Array Slot), Rep ((aPush v y)) u_125 → Rep ((aPush v y)) u_127 → va_P D vwCl (gW cy a u_125 ++ gW cy c9 u_127) H → va_D A (gW cy a u_125 ++ gW cy c9 u_127) → va_S A s.heap H locs → lv_has ls 18 [(17, .int (hWR n y)), (16, .int 1), (15, .int (v.1.2.1 0)), (14, .int (hWR n v.1)), (13, .int v.1.1.2.2.2.2.1), (12, .int (hGI n y 2)), (11, .int (hAG n y)), (10, .int (y.1.2.2.1 - v.1.1.2.2.1)), (9, .int v.1.1.2.2.1), (8, .int (vHi (v.1.2.2.1 g) v.1.1.2.1 - vLo (v.1.2.2.1 g) v.1.1.2.1)), (7, .int v.1.1.2.1), (6, .int (v.1.2.2.1 g)), (5, .int (hStandR n v.1 (nI g))), (4, .int (hReas v.1 (nI g))), (3, .int (nI g)), (0, .ref (aO a)), (1, .ref (aO c9)), (2, .int (nI k))] → W p l e rm_L_presses s m args below meth c H locs (42) (234) Q (F0 m 388 ls []) := by
                                    intro u_125 u_127 H locs ls hR_126 hR_128 hP hD hS hl
                                    refine lv_iconst (v := 1) hx9 hb dL_presses_388 (by decide) ?_
                                    refine lv_goto (tgt := 393) hx9 hb dL_presses_389 (by decide) ?_
                                    refine lv_istore (lv' := [(16, .int 1), (17, .int (hWR n y)), (15, .int (v.1.2.1 0)), (14, .int (hWR n v.1)), (13, .int v.1.1.2.2.2.2.1), (12, .int (hGI n y 2)), (11, .int (hAG n y)), (10, .int (y.1.2.2.1 - v.1.1.2.2.1)), (9, .int v.1.1.2.2.1), (8, .int (vHi (v.1.2.2.1 g) v.1.1.2.1 - vLo (v.1.2.2.1 g) v.1.1.2.1)), (7, .int v.1.1.2.1), (6, .int (v.1.2.2.1 g)), (5, .int (hStandR n v.1 (nI g))), (4, .int (hReas v.1 (nI g))), (3, .int (nI g)), (0, .ref (aO a)), (1, .ref (aO c9)), (2, .int (nI k))]) hx9 hb dL_presses_393 hl (by decide) rfl (fun ls hl => ?_)
                                    refine lv_iload hx9 hb dL_presses_395 (lv_at hl 0 rfl) ?_
                                    refine lv_if_eq (tgt := 461) hx9 hb dL_presses_397 (by decide) (fun c_129 => ?_) (fun c_129 => ?_)
                                    · exact absurd c_129 (by decide)
                                    · refine lv_aload_n hx9 hb dL_presses_400 rfl (lv_at hl 15 rfl) ?_
                                      refine lv_bipush (v := 9) hx9 hb dL_presses_401 (by decide) ?_
                                      refine lv_iconst (v := 0) hx9 hb dL_presses_403 (by decide) ?_
                                      refine lv_iconst (v := 0) hx9 hb dL_presses_404 (by decide) ?_
                                      refine lv_iconst (v := 0) hx9 hb dL_presses_405 (by decide) ?_
                                      refine wr_i (fun w9 : BS => gW cy a w9 ++ gW cy c9 u_127) (va_runS (As := [.ref (aO a), .int 9, .int 0, .int 0, .int 0]) (rest := []) hF (c_L_call_9 l D cy hl0 a ((aPush v y)) u_125 hO2 hR_126 0 0 0 H.size) (va_cwS 5 hts gL_presses_L_call rfl rfl rfl (by decide +kernel) ⟨Nat.le_of_ble_eq_true rfl, Nat.le_of_ble_eq_true rfl⟩) (wrX_preS hK hP hD (List.Perm.refl _) Xok_l (fun U hU hW => Gl.at hX hS (zz_free hD (List.Perm.refl _) hS hA) hU hW)) rfl rfl hl.1 rfl (lv_room (Nat.le_of_ble_eq_true rfl)) dL_presses_406 ⟨Nat.le_of_ble_eq_true rfl, Nat.le_of_ble_eq_true rfl⟩) hP hD hS hA (List.Perm.refl _) (fun _ => List.Perm.refl _) (fun r_130 u_131 H locs e_132 hP hD hS => ?_)
                                      obtain ⟨x_134, hR_133⟩ : r_130 = nI ua ∧ Rep v2 u_131 := by rw [eua, ← hv2] at e_132; exact e_132
                                      subst x_134
                                      have hP : va_P D vwCl (gW cy a u_131 ++ gW cy c9 u_127) H := hP
                                      have hD : va_D A (gW cy a u_131 ++ gW cy c9 u_127) := hD
                                      refine rd_S (As := [.int (nI ua)]) (rest := []) hF (c_L_thrown l D cy (nI ua) (thr_n _ hua)) (va_cwS 1 hts gL_presses_L_thrown rfl rfl rfl (by decide +kernel) ⟨Nat.le_of_ble_eq_true rfl, Nat.le_of_ble_eq_true rfl⟩) hK (fun k q h => by simp at h) rfl hl.1 rfl (Nat.le_of_ble_eq_true rfl) dL_presses_409 ⟨Nat.le_of_ble_eq_true rfl, Nat.le_of_ble_eq_true rfl⟩ ?_
                                      refine lv_if_ne (tgt := 461) hx9 hb dL_presses_412 (by decide) (fun c_135 => ?_) (fun c_135 => ?_)
                                      · exact absurd c_135 (by decide)
                                      · refine lv_aload_n hx9 hb dL_presses_415 rfl (lv_at hl 16 rfl) ?_
                                        refine lv_bipush (v := 9) hx9 hb dL_presses_416 (by decide) ?_
                                        refine lv_iconst (v := 0) hx9 hb dL_presses_418 (by decide) ?_
                                        refine lv_iconst (v := 0) hx9 hb dL_presses_419 (by decide) ?_
                                        refine lv_iconst (v := 0) hx9 hb dL_presses_420 (by decide) ?_
                                        refine wr_i (fun w9 : BS => gW cy a u_131 ++ gW cy c9 w9) (va_runS (As := [.ref (aO c9), .int 9, .int 0, .int 0, .int 0]) (rest := []) hF (c_L_call_9 l D cy hl0 c9 ((aPush v y)) u_127 hO2 hR_128 0 0 0 H.size) (va_cwS 5 hts gL_presses_L_call rfl rfl rfl (by decide +kernel) ⟨Nat.le_of_ble_eq_true rfl, Nat.le_of_ble_eq_true rfl⟩) (wrX_preS hK hP hD List.perm_append_comm Xok_l (fun U hU hW => Gl.at hX hS (zz_free hD List.perm_append_comm hS hA) hU hW)) rfl rfl hl.1 rfl (lv_room (Nat.le_of_ble_eq_true rfl)) dL_presses_421 ⟨Nat.le_of_ble_eq_true rfl, Nat.le_of_ble_eq_true rfl⟩) hP hD hS hA List.perm_append_comm (fun _ => List.perm_append_comm) (fun r_136 u_137 H locs e_138 hP hD hS => ?_)
                                        obtain ⟨x_140, hR_139⟩ : r_136 = nI ua ∧ Rep v2 u_137 := by rw [eua, ← hv2] at e_138; exact e_138
                                        subst x_140
                                        have hP : va_P D vwCl (gW cy a u_131 ++ gW cy c9 u_137) H := hP
                                        have hD : va_D A (gW cy a u_131 ++ gW cy c9 u_137) := hD
                                        refine rd_S (As := [.int (nI ua)]) (rest := []) hF (c_L_thrown l D cy (nI ua) (thr_n _ hua)) (va_cwS 1 hts gL_presses_L_thrown rfl rfl rfl (by decide +kernel) ⟨Nat.le_of_ble_eq_true rfl, Nat.le_of_ble_eq_true rfl⟩) hK (fun k q h => by simp at h) rfl hl.1 rfl (Nat.le_of_ble_eq_true rfl) dL_presses_424 ⟨Nat.le_of_ble_eq_true rfl, Nat.le_of_ble_eq_true rfl⟩ ?_
                                        refine lv_if_ne (tgt := 461) hx9 hb dL_presses_427 (by decide) (fun c_141 => ?_) (fun c_141 => ?_)
                                        · exact absurd c_141 (by decide)
                                        · refine lv_aload_n hx9 hb dL_presses_430 rfl (lv_at hl 15 rfl) ?_
                                          refine lv_iconst (v := 2) hx9 hb dL_presses_431 (by decide) ?_
                                          refine lv_iconst (v := 1) hx9 hb dL_presses_432 (by decide) ?_
                                          refine lv_iconst (v := 0) hx9 hb dL_presses_433 (by decide) ?_
                                          refine lv_iconst (v := 0) hx9 hb dL_presses_434 (by decide) ?_
                                          refine wr_i (fun w9 : BS => gW cy a w9 ++ gW cy c9 u_137) (va_runS (As := [.ref (aO a), .int 2, .int 1, .int 0, .int 0]) (rest := []) hF (c_L_call_2 l D cy hl0 a v2 u_131 hO3 hR_133 1 0 0 H.size) (va_cwS 5 hts gL_presses_L_call rfl rfl rfl (by decide +kernel) ⟨Nat.le_of_ble_eq_true rfl, Nat.le_of_ble_eq_true rfl⟩) (wrX_preS hK hP hD (List.Perm.refl _) Xok_l (fun U hU hW => Gl.at hX hS (zz_free hD (List.Perm.refl _) hS hA) hU hW)) rfl rfl hl.1 rfl (lv_room (Nat.le_of_ble_eq_true rfl)) dL_presses_435 ⟨Nat.le_of_ble_eq_true rfl, Nat.le_of_ble_eq_true rfl⟩) hP hD hS hA (List.Perm.refl _) (fun _ => List.Perm.refl _) (fun r_142 u_143 H locs e_144 hP hD hS => ?_)
                                          obtain ⟨x_146, hR_145⟩ : r_142 = v.1.1.2.1 ∧ Rep v2 u_143 := by rw [qAb_1 hx3, hsf.1] at e_144; exact e_144
                                          subst x_146
                                          have hP : va_P D vwCl (gW cy a u_143 ++ gW cy c9 u_137) H := hP
                                          have hD : va_D A (gW cy a u_143 ++ gW cy c9 u_137) := hD
                                          refine lv_iload hx9 hb dL_presses_438 (lv_at hl 10 rfl) ?_
                                          refine lv_icmp_ne (tgt := 461) hx9 hb dL_presses_440 (by decide) (fun c_147 => ?_) (fun c_147 => ?_)
                                          · exact absurd rfl c_147
                                          · have c_147 : v.1.1.2.1 = v.1.1.2.1 := c_147
                                            refine lv_aload_n hx9 hb dL_presses_443 rfl (lv_at hl 15 rfl) ?_
                                            refine lv_iconst (v := 2) hx9 hb dL_presses_444 (by decide) ?_
                                            refine lv_bipush (v := 6) hx9 hb dL_presses_445 (by decide) ?_
                                            refine lv_iconst (v := 0) hx9 hb dL_presses_447 (by decide) ?_
                                            refine lv_iconst (v := 0) hx9 hb dL_presses_448 (by decide) ?_
                                            refine wr_i (fun w9 : BS => gW cy a w9 ++ gW cy c9 u_137) (va_runS (As := [.ref (aO a), .int 2, .int 6, .int 0, .int 0]) (rest := []) hF (c_L_call_2 l D cy hl0 a v2 u_143 hO3 hR_145 6 0 0 H.size) (va_cwS 5 hts gL_presses_L_call rfl rfl rfl (by decide +kernel) ⟨Nat.le_of_ble_eq_true rfl, Nat.le_of_ble_eq_true rfl⟩) (wrX_preS hK hP hD (List.Perm.refl _) Xok_l (fun U hU hW => Gl.at hX hS (zz_free hD (List.Perm.refl _) hS hA) hU hW)) rfl rfl hl.1 rfl (lv_room (Nat.le_of_ble_eq_true rfl)) dL_presses_449 ⟨Nat.le_of_ble_eq_true rfl, Nat.le_of_ble_eq_true rfl⟩) hP hD hS hA (List.Perm.refl _) (fun _ => List.Perm.refl _) (fun r_148 u_149 H locs e_150 hP hD hS => ?_)
                                            obtain ⟨x_152, hR_151⟩ : r_148 = v.1.1.2.2.1 ∧ Rep v2 u_149 := by rw [qAb_6 hx3, hsf.1] at e_150; exact e_150
                                            subst x_152
                                            have hP : va_P D vwCl (gW cy a u_149 ++ gW cy c9 u_137) H := hP
                                            have hD : va_D A (gW cy a u_149 ++ gW cy c9 u_137) := hD
                                            refine lv_iload hx9 hb dL_presses_452 (lv_at hl 8 rfl) ?_
                                            refine lv_icmp_ne (tgt := 461) hx9 hb dL_presses_454 (by decide) (fun c_153 => ?_) (fun c_153 => ?_)
                                            · exact absurd rfl c_153
                                            · have c_153 : v.1.1.2.2.1 = v.1.1.2.2.1 := c_153
                                              refine lv_iconst (v := 1) hx9 hb dL_presses_457 (by decide) ?_
                                              refine lv_goto (tgt := 462) hx9 hb dL_presses_458 (by decide) ?_
                                              refine W.widen (k := 150) (n := 900) (by omega) (by omega) ?_
                                              exact hret _ _ H locs _ (u_149, u_137) dL_presses_462 hP hD hS ⟨rfl, v2, hsf, hR_151, hR_139⟩
                                  refine lv_iload hx9 hb dL_presses_374 (lv_at hl 0 rfl) ?_
                                  refine lv_iload hx9 hb dL_presses_376 (lv_at hl 3 rfl) ?_
                                  refine lv_icmp_le (tgt := 388) hx9 hb dL_presses_378 (by decide) (fun c_154 => ?_) (fun c_154 => ?_)
                                  · have c_154 : (hWR n y) ≤ (hWR n v.1) := c_154
                                    refine W.widen (k := 42) (n := 234) (by omega) (by omega) ?_
                                    exact jn_388 u_119 u_86 _ _ _ hR_121 hR_88 hP hD hS (lv_sub hl [0, 1, 2, 3, 4, 5, 6, 7, 8, 9, 10, 11, 12, 13, 14, 15, 16, 17] rfl)
                                  · exact absurd (by rw [y_wr]; exact Int32.le_refl _) c_154
                                · exact absurd (reas_pos hx hgn hw) c_124
                          · exact absurd c_116 hw
                  · exact absurd c_97 hw
        · exact absurd c_77 hw
    · exact absurd c_70 hw
  refine lv_iload hx9 hb dL_presses_53 (lv_at hl 1 rfl) ?_
  refine lv_iload hx9 hb dL_presses_55 (lv_at hl 0 rfl) ?_
  refine lv_icmp_le (tgt := 68) hx9 hb dL_presses_57 (by decide) (fun c_155 => ?_) (fun c_155 => ?_)
  · have c_155 : (v.1.2.2.1 g) ≤ v.1.1.2.1 := c_155
    refine lv_iload hx9 hb dL_presses_68 (lv_at hl 0 rfl) ?_
    refine lv_iload hx9 hb dL_presses_70 (lv_at hl 1 rfl) ?_
    refine lv_isub hx9 hb dL_presses_72 ?_
    refine W.widen (k := 6) (n := 36) (by omega) (by omega) ?_
    refine zz_top (y := vHi (v.1.2.2.1 g) v.1.1.2.1 - vLo (v.1.2.2.1 g) v.1.1.2.1) (way_2 c_155) ?_
    exact jn_73 u_22 w _ _ _ hR_24 hR2 hP hD hS (lv_sub hl [0, 1, 2, 3, 4, 5, 6, 7] rfl)
  · have c_155 : ¬ (v.1.2.2.1 g) ≤ v.1.1.2.1 := c_155
    refine lv_iload hx9 hb dL_presses_60 (lv_at hl 1 rfl) ?_
    refine lv_iload hx9 hb dL_presses_62 (lv_at hl 0 rfl) ?_
    refine lv_isub hx9 hb dL_presses_64 ?_
    refine lv_goto (tgt := 73) hx9 hb dL_presses_65 (by decide) ?_
    refine W.widen (k := 6) (n := 36) (by omega) (by omega) ?_
    refine zz_top (y := vHi (v.1.2.2.1 g) v.1.1.2.1 - vLo (v.1.2.2.1 g) v.1.1.2.1) (way_1 c_155) ?_
    exact jn_73 u_22 w _ _ _ hR_24 hR2 hP hD hS (lv_sub hl [0, 1, 2, 3, 4, 5, 6, 7] rfl)
/-- a press brings what was told, and taken back all is as before -/
theorem c_L_presses (l : Launch) (D : va_G) (cy : Nat → ClassId) (hl0 : l.stackTraces = false) (a c9 : AD) (v : AV) (u w : BS) (B k : Nat) (hk9 : k < 2 ^ 31) (hI : Inv B v) (hR : Rep v u) (hR2 : Rep v w) (sz : Nat) : bMet l yL_presses wsL_presses rm_L_presses D cy a c9 [.int (nI k)] u w sz (fun (r : Int32) (w : BS × BS) => r = 1 ∧ ∃ v2, Sfx v2 v ∧ Rep v2 w.1 ∧ Rep v2 w.2) 150 900 := by
  have hg : k % hN v.1 < hN v.1 := by
    obtain ⟨n, hn1, hx⟩ := hI.1
    rw [hx.n]
    exact Nat.mod_lt _ hn1
  by_cases hw : hReas v.1 (nI (k % hN v.1)) = 0
  · exact c_L_presses0 l D cy hl0 a c9 v u w B k _ hk9 rfl hg hw hI hR hR2 sz
  · exact c_L_presses1 l D cy hl0 a c9 v u w B k _ hk9 rfl hg hw hI hR hR2 sz
