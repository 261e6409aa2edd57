abbrev rm_L_holds : Room := { frames := 14, cells := 300, slots := 1800, locals := 317 }
set_option maxHeartbeats 4000000 in
set_option maxRecDepth 100000 in
/-- what holds in each hotel -/
theorem c_L_holds (l : Launch) (D : va_G) (cy : Nat → ClassId) (hl0 : l.stackTraces = false) (a : AD) (v : AV) (u : BS) (B : Nat) (hB : B ≤ 1000) (hI : Inv B v) (hR : Rep v u) (sz : Nat) : aMet l yL_holds wsL_holds rm_L_holds D cy a [] u sz (fun (r : Int32) (w : BS) => r = 1 ∧ Rep v w) 300 1800 := by
  refine MwiX (cc := cL_holds) (maxL := 16) (ty := .boolean) (by decide) rfl (Nat.le_of_ble_eq_true rfl) (fun _ _ q => by rw [q.1]; rfl) ?_
  intro p e s m args below meth c Q ls A hAe hsz hX0 hF hK hP hD hA hl hret
  rw [← hsz, ← hAe] at hX0
  have hX : Gl A s := hX0
  obtain ⟨hx9, hb, hml, hown, hts⟩ := id hF
  have hown : s.vm.findClass RL = some m.cls := hown
  have hl : lv_has ls 16 [(0, .ref (aO a))] := hl
  have hret : ∀ (pc : Nat) (ls : Array Slot) (H : Heap) (locs : List Loc) (r : Int32) (u : BS), decode cL_holds pc = .ok (.ireturn, 1) → va_P D vwCl (gW cy a u) H → va_D A (gW cy a u) → va_S A s.heap H locs → (fun (r : Int32) (w : BS) => r = 1 ∧ Rep v w) r u → W p l e rm_L_holds s m args below meth c H locs 300 1800 Q (F0 m pc ls [.int r]) := hret
  obtain ⟨n, hn1, hx⟩ := hI.1
  have hO := hI.Ok
  obtain ⟨hn, hgu, hok⟩ := hx.ok
  obtain ⟨⟨af, haf, efl⟩, -⟩ := id hok
  obtain ⟨s9, p9, r9, es, ep, er, hsp, hsB, hpr⟩ := hx.2.1
  suffices key : ∀ (H : Heap) (locs : List Loc), va_P D vwCl (gW cy a u) H → va_D A (gW cy a u) → va_S A s.heap H locs → W p l e rm_L_holds s m args below meth c H locs 0 0 Q (F0 m 0 ls []) from key s.heap [] hP hD va_S.rf
  intro H locs hP hD hS
  refine lv_aload_n hx9 hb dL_holds_0 rfl (lv_at hl 0 rfl) ?_
  refine lv_iconst (v := 2) hx9 hb dL_holds_1 (by decide) ?_
  refine lv_iconst (v := 0) hx9 hb dL_holds_2 (by decide) ?_
  refine lv_iconst (v := 0) hx9 hb dL_holds_3 (by decide) ?_
  refine lv_iconst (v := 0) hx9 hb dL_holds_4 (by decide) ?_
  refine wr_i (fun w9 : BS => gW cy a w9) (va_runS (As := [.ref (aO a), .int 2, .int 0, .int 0, .int 0]) (rest := []) hF (c_L_call_2 l D cy hl0 a v u hO hR 0 0 0 H.size) (va_cwS 5 hts gL_holds_L_call rfl rfl rfl (by decide +kernel) ⟨Nat.le_of_ble_eq_true rfl, Nat.le_of_ble_eq_true rfl⟩) (wrX_preS hK hP hD (zz_all _) Xok_l (fun U hU hW => Gl.at hX hS (zz_free hD (zz_all _) hS hA) hU hW)) rfl rfl hl.1 rfl (lv_room (Nat.le_of_ble_eq_true rfl)) dL_holds_5 ⟨Nat.le_of_ble_eq_true rfl, Nat.le_of_ble_eq_true rfl⟩) hP hD hS hA (zz_all _) (fun _ => zz_all _) (fun r_1 u_2 H locs e_3 hP hD hS => ?_)
  obtain ⟨x_5, hR_4⟩ : r_1 = nI n ∧ Rep v u_2 := by rw [qAb_0 hx] at e_3; exact e_3
  subst x_5
  have hP : va_P D vwCl (gW cy a u_2) H := hP
  have hD : va_D A (gW cy a u_2) := hD
  refine lv_istore_n (lv' := [(1, .int (nI n)), (0, .ref (aO a))]) hx9 hb dL_holds_8 rfl hl (by decide) rfl (fun ls hl => ?_)
  refine lv_aload_n hx9 hb dL_holds_9 rfl (lv_at hl 1 rfl) ?_
  refine lv_iconst (v := 2) hx9 hb dL_holds_10 (by decide) ?_
  refine lv_iconst (v := 1) hx9 hb dL_holds_11 (by decide) ?_
  refine lv_iconst (v := 0) hx9 hb dL_holds_12 (by decide) ?_
  refine lv_iconst (v := 0) hx9 hb dL_holds_13 (by decide) ?_
  refine wr_i (fun w9 : BS => gW cy a w9) (va_runS (As := [.ref (aO a), .int 2, .int 1, .int 0, .int 0]) (rest := []) hF (c_L_call_2 l D cy hl0 a v u_2 hO hR_4 1 0 0 H.size) (va_cwS 5 hts gL_holds_L_call rfl rfl rfl (by decide +kernel) ⟨Nat.le_of_ble_eq_true rfl, Nat.le_of_ble_eq_true rfl⟩) (wrX_preS hK hP hD (zz_all _) Xok_l (fun U hU hW => Gl.at hX hS (zz_free hD (zz_all _) hS hA) hU hW)) rfl rfl hl.1 rfl (lv_room (Nat.le_of_ble_eq_true rfl)) dL_holds_14 ⟨Nat.le_of_ble_eq_true rfl, Nat.le_of_ble_eq_true rfl⟩) hP hD hS hA (zz_all _) (fun _ => zz_all _) (fun r_6 u_7 H locs e_8 hP hD hS => ?_)
  obtain ⟨x_10, hR_9⟩ : r_6 = v.1.1.2.1 ∧ Rep v u_7 := by rw [qAb_1 hx] at e_8; exact e_8
  subst x_10
  have hP : va_P D vwCl (gW cy a u_7) H := hP
  have hD : va_D A (gW cy a u_7) := hD
  refine lv_istore_n (lv' := [(2, .int v.1.1.2.1), (1, .int (nI n)), (0, .ref (aO a))]) hx9 hb dL_holds_17 rfl hl (by decide) rfl (fun ls hl => ?_)
  refine lv_iconst (v := 0) hx9 hb dL_holds_18 (by decide) ?_
  refine lv_istore_n (lv' := [(3, .int 0), (2, .int v.1.1.2.1), (1, .int (nI n)), (0, .ref (aO a))]) hx9 hb dL_holds_19 rfl hl (by decide) rfl (fun ls hl => ?_)
  refine lv_iconst (v := 0) hx9 hb dL_holds_20 (by decide) ?_
  refine lv_istore (lv' := [(4, .int 0), (3, .int 0), (2, .int v.1.1.2.1), (1, .int (nI n)), (0, .ref (aO a))]) hx9 hb dL_holds_21 hl (by decide) rfl (fun ls hl => ?_)
  refine lv_iconst (v := 0) hx9 hb dL_holds_23 (by decide) ?_
  refine lv_istore (lv' := [(5, .int 0), (4, .int 0), (3, .int 0), (2, .int v.1.1.2.1), (1, .int (nI n)), (0, .ref (aO a))]) hx9 hb dL_holds_24 hl (by decide) rfl (fun ls hl => ?_)
  refine lv_iconst (v := 0) hx9 hb dL_holds_26 (by decide) ?_
  refine lv_istore (lv' := [(6, .int 0), (5, .int 0), (4, .int 0), (3, .int 0), (2, .int v.1.1.2.1), (1, .int (nI n)), (0, .ref (aO a))]) hx9 hb dL_holds_27 hl (by decide) rfl (fun ls hl => ?_)
  refine lv_iconst (v := 0) hx9 hb dL_holds_29 (by decide) ?_
  refine lv_istore (lv' := [(7, .int 0), (6, .int 0), (5, .int 0), (4, .int 0), (3, .int 0), (2, .int v.1.1.2.1), (1, .int (nI n)), (0, .ref (aO a))]) hx9 hb dL_holds_30 hl (by decide) rfl (fun ls hl => ?_)
  refine lv_aload_n hx9 hb dL_holds_32 rfl (lv_at hl 7 rfl) ?_
  refine lv_iconst (v := 5) hx9 hb dL_holds_33 (by decide) ?_
  refine lv_iconst (v := 1) hx9 hb dL_holds_34 (by decide) ?_
  refine lv_iconst (v := 0) hx9 hb dL_holds_35 (by decide) ?_
  refine lv_iconst (v := 0) hx9 hb dL_holds_36 (by decide) ?_
  refine wr_i (fun w9 : BS => gW cy a w9) (va_runS (As := [.ref (aO a), .int 5, .int 1, .int 0, .int 0]) (rest := []) hF (c_L_call_5 l D cy hl0 a v u_7 hO hR_9 1 0 0 H.size) (va_cwS 5 hts gL_holds_L_call rfl rfl rfl (by decide +kernel) ⟨Nat.le_of_ble_eq_true rfl, Nat.le_of_ble_eq_true rfl⟩) (wrX_preS hK hP hD (zz_all _) Xok_l (fun U hU hW => Gl.at hX hS (zz_free hD (zz_all _) hS hA) hU hW)) rfl rfl hl.1 rfl (lv_room (Nat.le_of_ble_eq_true rfl)) dL_holds_37 ⟨Nat.le_of_ble_eq_true rfl, Nat.le_of_ble_eq_true rfl⟩) hP hD hS hA (zz_all _) (fun _ => zz_all _) (fun r_11 u_12 H locs e_13 hP hD hS => ?_)
  obtain ⟨x_15, hR_14⟩ : r_11 = v.1.2.1 1 ∧ Rep v u_12 := by rw [qSe_1] at e_13; exact e_13
  subst x_15
  have hP : va_P D vwCl (gW cy a u_12) H := hP
  have hD : va_D A (gW cy a u_12) := hD
  refine lv_istore (lv' := [(8, .int (v.1.2.1 1)), (7, .int 0), (6, .int 0), (5, .int 0), (4, .int 0), (3, .int 0), (2, .int v.1.1.2.1), (1, .int (nI n)), (0, .ref (aO a))]) hx9 hb dL_holds_40 hl (by decide) rfl (fun ls hl => ?_)
  refine lv_iload_n hx9 hb dL_holds_42 rfl (lv_at hl 7 rfl) ?_
  refine lv_iconst (v := 4) hx9 hb dL_holds_43 (by decide) ?_
  refine lv_icmp_gt (tgt := 61) hx9 hb dL_holds_44 (by decide) (fun c_16 => ?_) (fun c_16 => ?_)
  · exact absurd ((nI_ltI (a := 4) (b := n) (by omega) (by omega)).mp c_16) (by omega)
  · have c_16 : ¬ 4 < n := fun q => c_16 ((nI_ltI (a := 4) (b := n) (by omega) (by omega)).mpr q)
    refine lv_iload_n hx9 hb dL_holds_47 rfl (lv_at hl 6 rfl) ?_
    refine lv_if_lt (tgt := 61) hx9 hb dL_holds_48 (by decide) (fun c_17 => ?_) (fun c_17 => ?_)
    · exact absurd c_17 (by rw [efl]; exact nI_pos (by omega))
    · have c_17 : ¬ v.1.1.2.1 < 0 := c_17
      refine lv_iload_n hx9 hb dL_holds_51 rfl (lv_at hl 6 rfl) ?_
      refine lv_bipush (v := 7) hx9 hb dL_holds_52 (by decide) ?_
      refine lv_icmp_ge (tgt := 61) hx9 hb dL_holds_54 (by decide) (fun c_18 => ?_) (fun c_18 => ?_)
      · exact absurd c_18 (by rw [efl]; exact nI_ge (b := 7) haf (by omega))
      · have c_18 : ¬ 7 ≤ v.1.1.2.1 := c_18
        refine lv_iconst (v := 1) hx9 hb dL_holds_57 (by decide) ?_
        refine lv_goto (tgt := 62) hx9 hb dL_holds_58 (by decide) ?_
        refine lv_istore (lv' := [(9, .int 1), (8, .int (v.1.2.1 1)), (7, .int 0), (6, .int 0), (5, .int 0), (4, .int 0), (3, .int 0), (2, .int v.1.1.2.1), (1, .int (nI n)), (0, .ref (aO a))]) hx9 hb dL_holds_62 hl (by decide) rfl (fun ls hl => ?_)
        refine lv_iconst (v := 0) hx9 hb dL_holds_64 (by decide) ?_
        refine lv_istore (lv' := [(10, .int 0), (9, .int 1), (8, .int (v.1.2.1 1)), (7, .int 0), (6, .int 0), (5, .int 0), (4, .int 0), (3, .int 0), (2, .int v.1.1.2.1), (1, .int (nI n)), (0, .ref (aO a))]) hx9 hb dL_holds_65 hl (by decide) rfl (fun ls hl => ?_)
        have loop : ∀ (k g : Nat) (ld wt rd hm gd : Int32) (ck cq : Nat), ∀ (u_o : BS) (H : Heap) (locs : List Loc) (ls : Array Slot), g ≤ n → n + 1 ≤ g + k → ck + 30 * (n - g) ≤ 200 → cq + 180 * (n - g) ≤ 1200 → lpN (sWR v.1.2.2.2.2.2.2.1 v.1.2.2.2.2.2.1) (n - g) g ld = hWR n v.1 → lpN (sGI v.1.2.2.2.2.2.2.1 0) (n - g) g wt = hGI n v.1 0 → lpN (sGI v.1.2.2.2.2.2.2.1 1) (n - g) g rd = hGI n v.1 1 → lpN (sGI v.1.2.2.2.2.2.2.1 2) (n - g) g hm = hGI n v.1 2 → lpN (sAG v.1.2.2.2.2.2.2.2.1) (n - g) g gd = hAG n v.1 → Rep v u_o → va_P D vwCl (gW cy a u_o) H → va_D A (gW cy a u_o) → va_S A s.heap H locs → lv_has ls 16 [(10, .int (nI g)), (9, .int 1), (8, .int (v.1.2.1 1)), (7, .int gd), (6, .int hm), (5, .int rd), (4, .int wt), (3, .int ld), (2, .int v.1.1.2.1), (1, .int (nI n)), (0, .ref (aO a))] → W p l e rm_L_holds s m args below meth c H locs ck cq Q (F0 m 67 ls []) := by
          intro k
          induction k with
          | zero =>
            intro g ld wt rd hm gd ck cq u_o H locs ls hg9 hk hc1 hc2 hv1 hv2 hv3 hv4 hv5 hR_o hP hD hS hl
            exact absurd hk (by omega)
          | succ k ih =>
            intro g ld wt rd hm gd ck cq u_o H locs ls hg9 hk hc1 hc2 hv1 hv2 hv3 hv4 hv5 hR_o hP hD hS hl
            refine lv_iload hx9 hb dL_holds_67 (lv_at hl 0 rfl) ?_
            refine lv_iload_n hx9 hb dL_holds_69 rfl (lv_at hl 9 rfl) ?_
            refine lv_icmp_ge (tgt := 440) hx9 hb dL_holds_70 (by decide) (fun c_19 => ?_) (fun c_19 => ?_)
            · have c_19 : n ≤ g := (nI_leI (a := n) (b := g) (by omega) (by omega)).mp c_19
              obtain rfl := lpN_end c_19 hv1
              obtain rfl := lpN_end c_19 hv2
              obtain rfl := lpN_end c_19 hv3
              obtain rfl := lpN_end c_19 hv4
              obtain rfl := lpN_end c_19 hv5
              refine lv_aload_n hx9 hb dL_holds_440 rfl (lv_at hl 10 rfl) ?_
              refine lv_bipush (v := 11) hx9 hb dL_holds_441 (by decide) ?_
              refine lv_iconst (v := 0) hx9 hb dL_holds_443 (by decide) ?_
              refine lv_iconst (v := 0) hx9 hb dL_holds_444 (by decide) ?_
              refine lv_iconst (v := 0) hx9 hb dL_holds_445 (by decide) ?_
              refine wr_i (fun w9 : BS => gW cy a w9) (va_runS (As := [.ref (aO a), .int 11, .int 0, .int 0, .int 0]) (rest := []) hF (c_L_call_11 l D cy hl0 a v u_o hO hR_o 0 0 0 H.size) (va_cwS 5 hts gL_holds_L_call rfl rfl rfl (by decide +kernel) ⟨Nat.le_of_ble_eq_true rfl, Nat.le_of_ble_eq_true rfl⟩) (wrX_preS hK hP hD (zz_all _) Xok_l (fun U hU hW => Gl.at hX hS (zz_free hD (zz_all _) hS hA) hU hW)) rfl rfl hl.1 rfl (lv_room (Nat.le_of_ble_eq_true rfl)) dL_holds_446 ⟨(by show _ ≤ 300; omega), (by show _ ≤ 1800; omega)⟩) hP hD hS hA (zz_all _) (fun _ => zz_all _) (fun r_20 u_21 H locs e_22 hP hD hS => ?_)
              obtain ⟨x_24, hR_23⟩ : r_20 = hFew n v.1 ∧ Rep v u_21 := by rw [qFe_0 hx] at e_22; exact e_22
              subst x_24
              have hP : va_P D vwCl (gW cy a u_21) H := hP
              have hD : va_D A (gW cy a u_21) := hD
              refine lv_istore (lv' := [(10, .int (hFew n v.1)), (9, .int 1), (8, .int (v.1.2.1 1)), (7, .int (hAG n v.1)), (6, .int (hGI n v.1 2)), (5, .int (hGI n v.1 1)), (4, .int (hGI n v.1 0)), (3, .int (hWR n v.1)), (2, .int v.1.1.2.1), (1, .int (nI n)), (0, .ref (aO a))]) hx9 hb dL_holds_449 hl (by decide) rfl (fun ls hl => ?_)
              refine lv_aload_n hx9 hb dL_holds_451 rfl (lv_at hl 10 rfl) ?_
              refine wr_i (fun w9 : BS => gW cy a w9) (va_runV (As := []) (rest := []) hF (m_best l D cy hl0 a v u_21 hO hR_23 H.size) (cwV 0 hts gL_holds_X7_best rfl rfl rfl (by decide +kernel) ⟨Nat.le_of_ble_eq_true rfl, Nat.le_of_ble_eq_true rfl⟩) (wrX_preV hK hP hD (zz_all _) 0 4 rfl rfl rfl Xok_x (fun U hU hW => Gx.at hX.1 hS (zz_free hD (zz_all _) hS hA) hU hW)) rfl rfl hl.1 rfl (lv_room (Nat.le_of_ble_eq_true rfl)) dL_holds_452 ⟨(by show _ ≤ 300; omega), (by show _ ≤ 1800; omega)⟩) hP hD hS hA (zz_all _) (fun _ => zz_all _) (fun r_25 u_26 H locs e_27 hP hD hS => ?_)
              obtain ⟨x_29, hR_28⟩ : r_25 = hBst n v.1 ∧ Rep v u_26 := by rw [Hx.n hx] at e_27; exact e_27
              subst x_29
              have hP : va_P D vwCl (gW cy a u_26) H := hP
              have hD : va_D A (gW cy a u_26) := hD
              refine lv_istore (lv' := [(11, .int (hBst n v.1)), (10, .int (hFew n v.1)), (9, .int 1), (8, .int (v.1.2.1 1)), (7, .int (hAG n v.1)), (6, .int (hGI n v.1 2)), (5, .int (hGI n v.1 1)), (4, .int (hGI n v.1 0)), (3, .int (hWR n v.1)), (2, .int v.1.1.2.1), (1, .int (nI n)), (0, .ref (aO a))]) hx9 hb dL_holds_455 hl (by decide) rfl (fun ls hl => ?_)
              refine lv_iload hx9 hb dL_holds_457 (lv_at hl 2 rfl) ?_
              refine lv_if_eq (tgt := 647) hx9 hb dL_holds_459 (by decide) (fun c_30 => ?_) (fun c_30 => ?_)
              · exact absurd c_30 (by decide)
              · refine lv_iload_n hx9 hb dL_holds_462 rfl (lv_at hl 8 rfl) ?_
                refine lv_aload_n hx9 hb dL_holds_463 rfl (lv_at hl 11 rfl) ?_
                refine lv_iconst (v := 2) hx9 hb dL_holds_464 (by decide) ?_
                refine lv_iconst (v := 2) hx9 hb dL_holds_465 (by decide) ?_
                refine lv_iconst (v := 0) hx9 hb dL_holds_466 (by decide) ?_
                refine lv_iconst (v := 0) hx9 hb dL_holds_467 (by decide) ?_
                refine wr_i (fun w9 : BS => gW cy a w9) (va_runS (As := [.ref (aO a), .int 2, .int 2, .int 0, .int 0]) (rest := [.int (hWR n v.1)]) hF (c_L_call_2 l D cy hl0 a v u_26 hO hR_28 2 0 0 H.size) (va_cwS 5 hts gL_holds_L_call rfl rfl rfl (by decide +kernel) ⟨Nat.le_of_ble_eq_true rfl, Nat.le_of_ble_eq_true rfl⟩) (wrX_preS hK hP hD (zz_all _) Xok_l (fun U hU hW => Gl.at hX hS (zz_free hD (zz_all _) hS hA) hU hW)) rfl rfl hl.1 rfl (lv_room (Nat.le_of_ble_eq_true rfl)) dL_holds_468 ⟨(by show _ ≤ 300; omega), (by show _ ≤ 1800; omega)⟩) hP hD hS hA (zz_all _) (fun _ => zz_all _) (fun r_31 u_32 H locs e_33 hP hD hS => ?_)
                obtain ⟨x_35, hR_34⟩ : r_31 = hWR n v.1 ∧ Rep v u_32 := by rw [qAb_2 hx] at e_33; exact e_33
                subst x_35
                have hP : va_P D vwCl (gW cy a u_32) H := hP
                have hD : va_D A (gW cy a u_32) := hD
                refine lv_icmp_ne (tgt := 647) hx9 hb dL_holds_471 (by decide) (fun c_36 => ?_) (fun c_36 => ?_)
                · exact absurd rfl c_36
                · have c_36 : (hWR n v.1) = (hWR n v.1) := c_36
                  refine lv_iload hx9 hb dL_holds_474 (lv_at hl 7 rfl) ?_
                  refine lv_aload_n hx9 hb dL_holds_476 rfl (lv_at hl 11 rfl) ?_
                  refine lv_iconst (v := 2) hx9 hb dL_holds_477 (by decide) ?_
                  refine lv_iconst (v := 3) hx9 hb dL_holds_478 (by decide) ?_
                  refine lv_iconst (v := 0) hx9 hb dL_holds_479 (by decide) ?_
                  refine lv_iconst (v := 0) hx9 hb dL_holds_480 (by decide) ?_
                  refine wr_i (fun w9 : BS => gW cy a w9) (va_runS (As := [.ref (aO a), .int 2, .int 3, .int 0, .int 0]) (rest := [.int (hGI n v.1 0)]) hF (c_L_call_2 l D cy hl0 a v u_32 hO hR_34 3 0 0 H.size) (va_cwS 5 hts gL_holds_L_call rfl rfl rfl (by decide +kernel) ⟨Nat.le_of_ble_eq_true rfl, Nat.le_of_ble_eq_true rfl⟩) (wrX_preS hK hP hD (zz_all _) Xok_l (fun U hU hW => Gl.at hX hS (zz_free hD (zz_all _) hS hA) hU hW)) rfl rfl hl.1 rfl (lv_room (Nat.le_of_ble_eq_true rfl)) dL_holds_481 ⟨(by show _ ≤ 300; omega), (by show _ ≤ 1800; omega)⟩) hP hD hS hA (zz_all _) (fun _ => zz_all _) (fun r_37 u_38 H locs e_39 hP hD hS => ?_)
                  obtain ⟨x_41, hR_40⟩ : r_37 = hGI n v.1 0 ∧ Rep v u_38 := by rw [qAb_3 hx] at e_39; exact e_39
                  subst x_41
                  have hP : va_P D vwCl (gW cy a u_38) H := hP
                  have hD : va_D A (gW cy a u_38) := hD
                  refine lv_icmp_ne (tgt := 647) hx9 hb dL_holds_484 (by decide) (fun c_42 => ?_) (fun c_42 => ?_)
                  · exact absurd rfl c_42
                  · have c_42 : (hGI n v.1 0) = (hGI n v.1 0) := c_42
                    refine lv_iload hx9 hb dL_holds_487 (lv_at hl 6 rfl) ?_
                    refine lv_aload_n hx9 hb dL_holds_489 rfl (lv_at hl 11 rfl) ?_
                    refine lv_iconst (v := 2) hx9 hb dL_holds_490 (by decide) ?_
                    refine lv_iconst (v := 4) hx9 hb dL_holds_491 (by decide) ?_
                    refine lv_iconst (v := 0) hx9 hb dL_holds_492 (by decide) ?_
                    refine lv_iconst (v := 0) hx9 hb dL_holds_493 (by decide) ?_
                    refine wr_i (fun w9 : BS => gW cy a w9) (va_runS (As := [.ref (aO a), .int 2, .int 4, .int 0, .int 0]) (rest := [.int (hGI n v.1 1)]) hF (c_L_call_2 l D cy hl0 a v u_38 hO hR_40 4 0 0 H.size) (va_cwS 5 hts gL_holds_L_call rfl rfl rfl (by decide +kernel) ⟨Nat.le_of_ble_eq_true rfl, Nat.le_of_ble_eq_true rfl⟩) (wrX_preS hK hP hD (zz_all _) Xok_l (fun U hU hW => Gl.at hX hS (zz_free hD (zz_all _) hS hA) hU hW)) rfl rfl hl.1 rfl (lv_room (Nat.le_of_ble_eq_true rfl)) dL_holds_494 ⟨(by show _ ≤ 300; omega), (by show _ ≤ 1800; omega)⟩) hP hD hS hA (zz_all _) (fun _ => zz_all _) (fun r_43 u_44 H locs e_45 hP hD hS => ?_)
                    obtain ⟨x_47, hR_46⟩ : r_43 = hGI n v.1 1 ∧ Rep v u_44 := by rw [qAb_4 hx] at e_45; exact e_45
                    subst x_47
                    have hP : va_P D vwCl (gW cy a u_44) H := hP
                    have hD : va_D A (gW cy a u_44) := hD
                    refine lv_icmp_ne (tgt := 647) hx9 hb dL_holds_497 (by decide) (fun c_48 => ?_) (fun c_48 => ?_)
                    · exact absurd rfl c_48
                    · have c_48 : (hGI n v.1 1) = (hGI n v.1 1) := c_48
                      refine lv_iload hx9 hb dL_holds_500 (lv_at hl 5 rfl) ?_
                      refine lv_aload_n hx9 hb dL_holds_502 rfl (lv_at hl 11 rfl) ?_
                      refine lv_iconst (v := 2) hx9 hb dL_holds_503 (by decide) ?_
                      refine lv_iconst (v := 5) hx9 hb dL_holds_504 (by decide) ?_
                      refine lv_iconst (v := 0) hx9 hb dL_holds_505 (by decide) ?_
                      refine lv_iconst (v := 0) hx9 hb dL_holds_506 (by decide) ?_
                      refine wr_i (fun w9 : BS => gW cy a w9) (va_runS (As := [.ref (aO a), .int 2, .int 5, .int 0, .int 0]) (rest := [.int (hGI n v.1 2)]) hF (c_L_call_2 l D cy hl0 a v u_44 hO hR_46 5 0 0 H.size) (va_cwS 5 hts gL_holds_L_call rfl rfl rfl (by decide +kernel) ⟨Nat.le_of_ble_eq_true rfl, Nat.le_of_ble_eq_true rfl⟩) (wrX_preS hK hP hD (zz_all _) Xok_l (fun U hU hW => Gl.at hX hS (zz_free hD (zz_all _) hS hA) hU hW)) rfl rfl hl.1 rfl (lv_room (Nat.le_of_ble_eq_true rfl)) dL_holds_507 ⟨(by show _ ≤ 300; omega), (by show _ ≤ 1800; omega)⟩) hP hD hS hA (zz_all _) (fun _ => zz_all _) (fun r_49 u_50 H locs e_51 hP hD hS => ?_)
                      obtain ⟨x_53, hR_52⟩ : r_49 = hGI n v.1 2 ∧ Rep v u_50 := by rw [qAb_5 hx] at e_51; exact e_51
                      subst x_53
                      have hP : va_P D vwCl (gW cy a u_50) H := hP
                      have hD : va_D A (gW cy a u_50) := hD
                      refine lv_icmp_ne (tgt := 647) hx9 hb dL_holds_510 (by decide) (fun c_54 => ?_) (fun c_54 => ?_)
                      · exact absurd rfl c_54
                      · have c_54 : (hGI n v.1 2) = (hGI n v.1 2) := c_54
                        refine lv_iload hx9 hb dL_holds_513 (lv_at hl 7 rfl) ?_
                        refine lv_iload hx9 hb dL_holds_515 (lv_at hl 6 rfl) ?_
                        refine lv_iadd hx9 hb dL_holds_517 ?_
                        refine lv_iload hx9 hb dL_holds_518 (lv_at hl 5 rfl) ?_
                        refine lv_iadd hx9 hb dL_holds_520 ?_
                        refine lv_iload_n hx9 hb dL_holds_521 rfl (lv_at hl 10 rfl) ?_
                        refine lv_icmp_ne (tgt := 647) hx9 hb dL_holds_522 (by decide) (fun c_55 => ?_) (fun c_55 => ?_)
                        · exact absurd (sum_all (fun i hi => (hok.2 i hi).2.1)) c_55
                        · have c_55 : (((hGI n v.1 0) + (hGI n v.1 1)) + (hGI n v.1 2)) = (nI n) := c_55
                          refine lv_iload hx9 hb dL_holds_525 (lv_at hl 4 rfl) ?_
                          refine lv_aload_n hx9 hb dL_holds_527 rfl (lv_at hl 11 rfl) ?_
                          refine lv_iconst (v := 2) hx9 hb dL_holds_528 (by decide) ?_
                          refine lv_bipush (v := 10) hx9 hb dL_holds_529 (by decide) ?_
                          refine lv_iconst (v := 0) hx9 hb dL_holds_531 (by decide) ?_
                          refine lv_iconst (v := 0) hx9 hb dL_holds_532 (by decide) ?_
                          refine wr_i (fun w9 : BS => gW cy a w9) (va_runS (As := [.ref (aO a), .int 2, .int 10, .int 0, .int 0]) (rest := [.int (hAG n v.1)]) hF (c_L_call_2 l D cy hl0 a v u_50 hO hR_52 10 0 0 H.size) (va_cwS 5 hts gL_holds_L_call rfl rfl rfl (by decide +kernel) ⟨Nat.le_of_ble_eq_true rfl, Nat.le_of_ble_eq_true rfl⟩) (wrX_preS hK hP hD (zz_all _) Xok_l (fun U hU hW => Gl.at hX hS (zz_free hD (zz_all _) hS hA) hU hW)) rfl rfl hl.1 rfl (lv_room (Nat.le_of_ble_eq_true rfl)) dL_holds_533 ⟨(by show _ ≤ 300; omega), (by show _ ≤ 1800; omega)⟩) hP hD hS hA (zz_all _) (fun _ => zz_all _) (fun r_56 u_57 H locs e_58 hP hD hS => ?_)
                          obtain ⟨x_60, hR_59⟩ : r_56 = hAG n v.1 ∧ Rep v u_57 := by rw [qAb_10 hx] at e_58; exact e_58
                          subst x_60
                          have hP : va_P D vwCl (gW cy a u_57) H := hP
                          have hD : va_D A (gW cy a u_57) := hD
                          refine lv_icmp_ne (tgt := 647) hx9 hb dL_holds_536 (by decide) (fun c_61 => ?_) (fun c_61 => ?_)
                          · exact absurd rfl c_61
                          · have c_61 : (hAG n v.1) = (hAG n v.1) := c_61
                            refine lv_iload hx9 hb dL_holds_539 (lv_at hl 1 rfl) ?_
                            refine lv_aload_n hx9 hb dL_holds_541 rfl (lv_at hl 11 rfl) ?_
                            refine lv_bipush (v := 11) hx9 hb dL_holds_542 (by decide) ?_
                            refine lv_iconst (v := 1) hx9 hb dL_holds_544 (by decide) ?_
                            refine lv_iconst (v := 0) hx9 hb dL_holds_545 (by decide) ?_
                            refine lv_iconst (v := 0) hx9 hb dL_holds_546 (by decide) ?_
                            refine wr_i (fun w9 : BS => gW cy a w9) (va_runS (As := [.ref (aO a), .int 11, .int 1, .int 0, .int 0]) (rest := [.int (hFew n v.1)]) hF (c_L_call_11 l D cy hl0 a v u_57 hO hR_59 1 0 0 H.size) (va_cwS 5 hts gL_holds_L_call rfl rfl rfl (by decide +kernel) ⟨Nat.le_of_ble_eq_true rfl, Nat.le_of_ble_eq_true rfl⟩) (wrX_preS hK hP hD (zz_all _) Xok_l (fun U hU hW => Gl.at hX hS (zz_free hD (zz_all _) hS hA) hU hW)) rfl rfl hl.1 rfl (lv_room (Nat.le_of_ble_eq_true rfl)) dL_holds_547 ⟨(by show _ ≤ 300; omega), (by show _ ≤ 1800; omega)⟩) hP hD hS hA (zz_all _) (fun _ => zz_all _) (fun r_62 u_63 H locs e_64 hP hD hS => ?_)
                            obtain ⟨x_66, hR_65⟩ : r_62 = hFew n v.1 ∧ Rep v u_63 := by rw [qFe_1 hx] at e_64; exact e_64
                            subst x_66
                            have hP : va_P D vwCl (gW cy a u_63) H := hP
                            have hD : va_D A (gW cy a u_63) := hD
                            refine lv_icmp_ne (tgt := 647) hx9 hb dL_holds_550 (by decide) (fun c_67 => ?_) (fun c_67 => ?_)
                            · exact absurd rfl c_67
                            · have c_67 : (hFew n v.1) = (hFew n v.1) := c_67
                              have jn_563 : ∀ (u_68 : BS) (H : Heap) (locs : List Loc) (ls : Array Slot), Rep v u_68 → va_P D vwCl (gW cy a u_68) H → va_D A (gW cy a u_68) → va_S A s.heap H locs → lv_has ls 16 [(11, .int (hBst n v.1)), (10, .int (hFew n v.1)), (9, .int 1), (8, .int (v.1.2.1 1)), (7, .int (hAG n v.1)), (6, .int (hGI n v.1 2)), (5, .int (hGI n v.1 1)), (4, .int (hGI n v.1 0)), (3, .int (hWR n v.1)), (2, .int v.1.1.2.1), (1, .int (nI n)), (0, .ref (aO a))] → W p l e rm_L_holds s m args below meth c H locs (ck + 7) (cq + 42) Q (F0 m 563 ls [.int (zb (hFew n v.1 = 0))]) := by
                                intro u_68 H locs ls hR_69 hP hD hS hl
                                refine lv_iload hx9 hb dL_holds_563 (lv_at hl 5 rfl) ?_
                                refine lv_iload_n hx9 hb dL_holds_565 rfl (lv_at hl 10 rfl) ?_
                                have jn_574 : ∀ (u_70 : BS) (H : Heap) (locs : List Loc) (ls : Array Slot), Rep v u_70 → va_P D vwCl (gW cy a u_70) H → va_D A (gW cy a u_70) → va_S A s.heap H locs → lv_has ls 16 [(11, .int (hBst n v.1)), (10, .int (hFew n v.1)), (9, .int 1), (8, .int (v.1.2.1 1)), (7, .int (hAG n v.1)), (6, .int (hGI n v.1 2)), (5, .int (hGI n v.1 1)), (4, .int (hGI n v.1 0)), (3, .int (hWR n v.1)), (2, .int v.1.1.2.1), (1, .int (nI n)), (0, .ref (aO a))] → W p l e rm_L_holds s m args below meth c H locs (ck + 7) (cq + 42) Q (F0 m 574 ls [.int (zb (hGI n v.1 2 = nI n)), .int (zb (hFew n v.1 = 0))]) := by
                                  intro u_70 H locs ls hR_71 hP hD hS hl
                                  refine lv_icmp_ne (tgt := 647) hx9 hb dL_holds_574 (by decide) (fun c_72 => ?_) (fun c_72 => ?_)
                                  · exact absurd (zb_congr2 (few_home hx)) c_72
                                  · have c_72 : (zb (hFew n v.1 = 0)) = (zb (hGI n v.1 2 = nI n)) := c_72
                                    have jn_588 : ∀ (u_73 : BS) (H : Heap) (locs : List Loc) (ls : Array Slot), Rep v u_73 → va_P D vwCl (gW cy a u_73) H → va_D A (gW cy a u_73) → va_S A s.heap H locs → lv_has ls 16 [(11, .int (hBst n v.1)), (10, .int (hFew n v.1)), (9, .int 1), (8, .int (v.1.2.1 1)), (7, .int (hAG n v.1)), (6, .int (hGI n v.1 2)), (5, .int (hGI n v.1 1)), (4, .int (hGI n v.1 0)), (3, .int (hWR n v.1)), (2, .int v.1.1.2.1), (1, .int (nI n)), (0, .ref (aO a))] → W p l e rm_L_holds s m args below meth c H locs (ck + 7) (cq + 42) Q (F0 m 588 ls [.int (zb (hBst n v.1 = (-1)))]) := by
                                      intro u_73 H locs ls hR_74 hP hD hS hl
                                      refine lv_iload hx9 hb dL_holds_588 (lv_at hl 1 rfl) ?_
                                      have jn_598 : ∀ (u_75 : BS) (H : Heap) (locs : List Loc) (ls : Array Slot), Rep v u_75 → va_P D vwCl (gW cy a u_75) H → va_D A (gW cy a u_75) → va_S A s.heap H locs → lv_has ls 16 [(11, .int (hBst n v.1)), (10, .int (hFew n v.1)), (9, .int 1), (8, .int (v.1.2.1 1)), (7, .int (hAG n v.1)), (6, .int (hGI n v.1 2)), (5, .int (hGI n v.1 1)), (4, .int (hGI n v.1 0)), (3, .int (hWR n v.1)), (2, .int v.1.1.2.1), (1, .int (nI n)), (0, .ref (aO a))] → W p l e rm_L_holds s m args below meth c H locs (ck + 7) (cq + 42) Q (F0 m 598 ls [.int (zb (¬ 0 < hFew n v.1)), .int (zb (hBst n v.1 = (-1)))]) := by
                                        intro u_75 H locs ls hR_76 hP hD hS hl
                                        refine lv_icmp_ne (tgt := 647) hx9 hb dL_holds_598 (by decide) (fun c_77 => ?_) (fun c_77 => ?_)
                                        · exact absurd (zb_congr2 (best_none hn)) c_77
                                        · have c_77 : (zb (hBst n v.1 = (-1))) = (zb (¬ 0 < hFew n v.1)) := c_77
                                          have jn_620 : ∀ (u_78 : BS) (H : Heap) (locs : List Loc) (ls : Array Slot), Rep v u_78 → va_P D vwCl (gW cy a u_78) H → va_D A (gW cy a u_78) → va_S A s.heap H locs → lv_has ls 16 [(11, .int (hBst n v.1)), (10, .int (hFew n v.1)), (9, .int 1), (8, .int (v.1.2.1 1)), (7, .int (hAG n v.1)), (6, .int (hGI n v.1 2)), (5, .int (hGI n v.1 1)), (4, .int (hGI n v.1 0)), (3, .int (hWR n v.1)), (2, .int v.1.1.2.1), (1, .int (nI n)), (0, .ref (aO a))] → W p l e rm_L_holds s m args below meth c H locs (ck + 8) (cq + 48) Q (F0 m 620 ls []) := by
                                            intro u_78 H locs ls hR_79 hP hD hS hl
                                            refine lv_aload_n hx9 hb dL_holds_620 rfl (lv_at hl 11 rfl) ?_
                                            refine lv_iconst (v := 2) hx9 hb dL_holds_621 (by decide) ?_
                                            refine lv_bipush (v := 6) hx9 hb dL_holds_622 (by decide) ?_
                                            refine lv_iconst (v := 0) hx9 hb dL_holds_624 (by decide) ?_
                                            refine lv_iconst (v := 0) hx9 hb dL_holds_625 (by decide) ?_
                                            refine wr_i (fun w9 : BS => gW cy a w9) (va_runS (As := [.ref (aO a), .int 2, .int 6, .int 0, .int 0]) (rest := []) hF (c_L_call_2 l D cy hl0 a v u_78 hO hR_79 6 0 0 H.size) (va_cwS 5 hts gL_holds_L_call rfl rfl rfl (by decide +kernel) ⟨Nat.le_of_ble_eq_true rfl, Nat.le_of_ble_eq_true rfl⟩) (wrX_preS hK hP hD (zz_all _) Xok_l (fun U hU hW => Gl.at hX hS (zz_free hD (zz_all _) hS hA) hU hW)) rfl rfl hl.1 rfl (lv_room (Nat.le_of_ble_eq_true rfl)) dL_holds_626 ⟨(by show _ ≤ 300; omega), (by show _ ≤ 1800; omega)⟩) hP hD hS hA (zz_all _) (fun _ => zz_all _) (fun r_80 u_81 H locs e_82 hP hD hS => ?_)
                                            obtain ⟨x_84, hR_83⟩ : r_80 = v.1.1.2.2.1 ∧ Rep v u_81 := by rw [qAb_6 hx] at e_82; exact e_82
                                            subst x_84
                                            have hP : va_P D vwCl (gW cy a u_81) H := hP
                                            have hD : va_D A (gW cy a u_81) := hD
                                            refine lv_iconst (v := 5) hx9 hb dL_holds_629 (by decide) ?_
                                            refine lv_aload_n hx9 hb dL_holds_630 rfl (lv_at hl 11 rfl) ?_
                                            refine lv_iconst (v := 2) hx9 hb dL_holds_631 (by decide) ?_
                                            refine lv_bipush (v := 7) hx9 hb dL_holds_632 (by decide) ?_
                                            refine lv_iconst (v := 0) hx9 hb dL_holds_634 (by decide) ?_
                                            refine lv_iconst (v := 0) hx9 hb dL_holds_635 (by decide) ?_
                                            refine wr_i (fun w9 : BS => gW cy a w9) (va_runS (As := [.ref (aO a), .int 2, .int 7, .int 0, .int 0]) (rest := [.int 5, .int v.1.1.2.2.1]) hF (c_L_call_2 l D cy hl0 a v u_81 hO hR_83 7 0 0 H.size) (va_cwS 5 hts gL_holds_L_call rfl rfl rfl (by decide +kernel) ⟨Nat.le_of_ble_eq_true rfl, Nat.le_of_ble_eq_true rfl⟩) (wrX_preS hK hP hD (zz_all _) Xok_l (fun U hU hW => Gl.at hX hS (zz_free hD (zz_all _) hS hA) hU hW)) rfl rfl hl.1 rfl (lv_room (Nat.le_of_ble_eq_true rfl)) dL_holds_636 ⟨(by show _ ≤ 300; omega), (by show _ ≤ 1800; omega)⟩) hP hD hS hA (zz_all _) (fun _ => zz_all _) (fun r_85 u_86 H locs e_87 hP hD hS => ?_)
                                            obtain ⟨x_89, hR_88⟩ : r_85 = v.1.1.2.2.2.1 ∧ Rep v u_86 := by rw [qAb_7 hx] at e_87; exact e_87
                                            subst x_89
                                            have hP : va_P D vwCl (gW cy a u_86) H := hP
                                            have hD : va_D A (gW cy a u_86) := hD
                                            refine lv_imul hx9 hb dL_holds_639 ?_
                                            refine lv_icmp_lt (tgt := 647) hx9 hb dL_holds_640 (by decide) (fun c_90 => ?_) (fun c_90 => ?_)
                                            · exact absurd c_90 (by rw [es, ep, show (5 : Int32) = nI 5 from rfl, pk_mul]; exact nI_nlt hsp (by omega))
                                            · have c_90 : ¬ v.1.1.2.2.1 < (5 * v.1.1.2.2.2.1) := c_90
                                              refine lv_iconst (v := 1) hx9 hb dL_holds_643 (by decide) ?_
                                              refine lv_goto (tgt := 648) hx9 hb dL_holds_644 (by decide) ?_
                                              refine W.widen (k := 300) (n := 1800) (by omega) (by omega) ?_
                                              exact hret _ _ H locs _ u_86 dL_holds_648 hP hD hS ⟨rfl, hR_88⟩
                                          refine lv_iload hx9 hb dL_holds_601 (lv_at hl 0 rfl) ?_
                                          refine lv_iconst (v := (-1)) hx9 hb dL_holds_603 (by decide) ?_
                                          refine lv_icmp_eq (tgt := 620) hx9 hb dL_holds_604 (by decide) (fun c_91 => ?_) (fun c_91 => ?_)
                                          · have c_91 : (hBst n v.1) = ((-1)) := c_91
                                            refine W.widen (k := ck + 8) (n := cq + 48) (by omega) (by omega) ?_
                                            exact jn_620 u_75 _ _ _ hR_76 hP hD hS (lv_sub hl [0, 1, 2, 3, 4, 5, 6, 7, 8, 9, 10, 11] rfl)
                                          · have c_91 : ¬ (hBst n v.1) = ((-1)) := c_91
                                            obtain ⟨gb, hgb, ebs, rgb⟩ : ∃ gb : Nat, gb < n ∧ hBst n v.1 = nI gb ∧ hReas v.1 (nI gb) = 0 := by
                                              rcases best_cases n v.1 with ⟨b1, -⟩ | ⟨b1, b2, b3, b4, b5, b6, b7, -⟩
                                              · exact absurd b1 c_91
                                              · exact ⟨b2, b5, b6, b7⟩
                                            refine lv_aload_n hx9 hb dL_holds_607 rfl (lv_at hl 11 rfl) ?_
                                            refine lv_bipush (v := 10) hx9 hb dL_holds_608 (by decide) ?_
                                            refine lv_iload hx9 hb dL_holds_610 (lv_at hl 0 rfl) ?_
                                            refine lv_iconst (v := 0) hx9 hb dL_holds_612 (by decide) ?_
                                            refine lv_iconst (v := 0) hx9 hb dL_holds_613 (by decide) ?_
                                            refine wr_i (fun w9 : BS => gW cy a w9) (va_runS (As := [.ref (aO a), .int 10, .int (hBst n v.1), .int 0, .int 0]) (rest := []) hF (c_L_call_10 l D cy hl0 a v u_75 hO hR_76 (hBst n v.1) 0 0 H.size) (va_cwS 5 hts gL_holds_L_call rfl rfl rfl (by decide +kernel) ⟨Nat.le_of_ble_eq_true rfl, Nat.le_of_ble_eq_true rfl⟩) (wrX_preS hK hP hD (zz_all _) Xok_l (fun U hU hW => Gl.at hX hS (zz_free hD (zz_all _) hS hA) hU hW)) rfl rfl hl.1 rfl (lv_room (Nat.le_of_ble_eq_true rfl)) dL_holds_614 ⟨(by show _ ≤ 300; omega), (by show _ ≤ 1800; omega)⟩) hP hD hS hA (zz_all _) (fun _ => zz_all _) (fun r_92 u_93 H locs e_94 hP hD hS => ?_)
                                            obtain ⟨x_96, hR_95⟩ : r_92 = 0 ∧ Rep v u_93 := by rw [ebs, qWh_g hx hgb, rgb] at e_94; exact e_94
                                            subst x_96
                                            have hP : va_P D vwCl (gW cy a u_93) H := hP
                                            have hD : va_D A (gW cy a u_93) := hD
                                            refine lv_if_ne (tgt := 647) hx9 hb dL_holds_617 (by decide) (fun c_97 => ?_) (fun c_97 => ?_)
                                            · exact absurd c_97 (by decide)
                                            · refine W.widen (k := ck + 8) (n := cq + 48) (by omega) (by omega) ?_
                                              exact jn_620 u_93 _ _ _ hR_95 hP hD hS (lv_sub hl [0, 1, 2, 3, 4, 5, 6, 7, 8, 9, 10, 11] rfl)
                                      refine lv_if_gt (tgt := 597) hx9 hb dL_holds_590 (by decide) (fun c_98 => ?_) (fun c_98 => ?_)
                                      · have c_98 : 0 < (hFew n v.1) := c_98
                                        refine lv_iconst (v := 0) hx9 hb dL_holds_597 (by decide) ?_
                                        refine W.widen (k := ck + 7) (n := cq + 42) (by omega) (by omega) ?_
                                        refine zz_top (y := zb (¬ 0 < hFew n v.1)) (zb_f (P := ¬ 0 < hFew n v.1) (fun q => q c_98)) ?_
                                        exact jn_598 u_73 _ _ _ hR_74 hP hD hS (lv_sub hl [0, 1, 2, 3, 4, 5, 6, 7, 8, 9, 10, 11] rfl)
                                      · have c_98 : ¬ 0 < (hFew n v.1) := c_98
                                        refine lv_iconst (v := 1) hx9 hb dL_holds_593 (by decide) ?_
                                        refine lv_goto (tgt := 598) hx9 hb dL_holds_594 (by decide) ?_
                                        refine W.widen (k := ck + 7) (n := cq + 42) (by omega) (by omega) ?_
                                        refine zz_top (y := zb (¬ 0 < hFew n v.1)) (zb_t (P := ¬ 0 < hFew n v.1) c_98) ?_
                                        exact jn_598 u_73 _ _ _ hR_74 hP hD hS (lv_sub hl [0, 1, 2, 3, 4, 5, 6, 7, 8, 9, 10, 11] rfl)
                                    refine lv_iload hx9 hb dL_holds_577 (lv_at hl 0 rfl) ?_
                                    refine lv_iconst (v := (-1)) hx9 hb dL_holds_579 (by decide) ?_
                                    refine lv_icmp_ne (tgt := 587) hx9 hb dL_holds_580 (by decide) (fun c_99 => ?_) (fun c_99 => ?_)
                                    · have c_99 : ¬ (hBst n v.1) = ((-1)) := c_99
                                      refine lv_iconst (v := 0) hx9 hb dL_holds_587 (by decide) ?_
                                      refine W.widen (k := ck + 7) (n := cq + 42) (by omega) (by omega) ?_
                                      refine zz_top (y := zb (hBst n v.1 = (-1))) (zb_f c_99) ?_
                                      exact jn_588 u_70 _ _ _ hR_71 hP hD hS (lv_sub hl [0, 1, 2, 3, 4, 5, 6, 7, 8, 9, 10, 11] rfl)
                                    · have c_99 : (hBst n v.1) = ((-1)) := c_99
                                      refine lv_iconst (v := 1) hx9 hb dL_holds_583 (by decide) ?_
                                      refine lv_goto (tgt := 588) hx9 hb dL_holds_584 (by decide) ?_
                                      refine W.widen (k := ck + 7) (n := cq + 42) (by omega) (by omega) ?_
                                      refine zz_top (y := zb (hBst n v.1 = (-1))) (zb_t c_99) ?_
                                      exact jn_588 u_70 _ _ _ hR_71 hP hD hS (lv_sub hl [0, 1, 2, 3, 4, 5, 6, 7, 8, 9, 10, 11] rfl)
                                refine lv_icmp_ne (tgt := 573) hx9 hb dL_holds_566 (by decide) (fun c_100 => ?_) (fun c_100 => ?_)
                                · have c_100 : ¬ (hGI n v.1 2) = (nI n) := c_100
                                  refine lv_iconst (v := 0) hx9 hb dL_holds_573 (by decide) ?_
                                  refine W.widen (k := ck + 7) (n := cq + 42) (by omega) (by omega) ?_
                                  refine zz_top (y := zb (hGI n v.1 2 = nI n)) (zb_f c_100) ?_
                                  exact jn_574 u_68 _ _ _ hR_69 hP hD hS (lv_sub hl [0, 1, 2, 3, 4, 5, 6, 7, 8, 9, 10, 11] rfl)
                                · have c_100 : (hGI n v.1 2) = (nI n) := c_100
                                  refine lv_iconst (v := 1) hx9 hb dL_holds_569 (by decide) ?_
                                  refine lv_goto (tgt := 574) hx9 hb dL_holds_570 (by decide) ?_
                                  refine W.widen (k := ck + 7) (n := cq + 42) (by omega) (by omega) ?_
                                  refine zz_top (y := zb (hGI n v.1 2 = nI n)) (zb_t c_100) ?_
                                  exact jn_574 u_68 _ _ _ hR_69 hP hD hS (lv_sub hl [0, 1, 2, 3, 4, 5, 6, 7, 8, 9, 10, 11] rfl)
                              refine lv_iload hx9 hb dL_holds_553 (lv_at hl 1 rfl) ?_
                              refine lv_if_ne (tgt := 562) hx9 hb dL_holds_555 (by decide) (fun c_101 => ?_) (fun c_101 => ?_)
                              · have c_101 : ¬ (hFew n v.1) = 0 := c_101
                                refine lv_iconst (v := 0) hx9 hb dL_holds_562 (by decide) ?_
                                refine W.widen (k := ck + 7) (n := cq + 42) (by omega) (by omega) ?_
                                refine zz_top (y := zb (hFew n v.1 = 0)) (zb_f c_101) ?_
                                exact jn_563 u_63 _ _ _ hR_65 hP hD hS (lv_sub hl [0, 1, 2, 3, 4, 5, 6, 7, 8, 9, 10, 11] rfl)
                              · have c_101 : (hFew n v.1) = 0 := c_101
                                refine lv_iconst (v := 1) hx9 hb dL_holds_558 (by decide) ?_
                                refine lv_goto (tgt := 563) hx9 hb dL_holds_559 (by decide) ?_
                                refine W.widen (k := ck + 7) (n := cq + 42) (by omega) (by omega) ?_
                                refine zz_top (y := zb (hFew n v.1 = 0)) (zb_t c_101) ?_
                                exact jn_563 u_63 _ _ _ hR_65 hP hD hS (lv_sub hl [0, 1, 2, 3, 4, 5, 6, 7, 8, 9, 10, 11] rfl)
            · have c_19 : ¬ n ≤ g := fun q => c_19 ((nI_leI (a := n) (b := g) (by omega) (by omega)).mpr q)
              have hgn : g < n := by omega
              obtain ⟨k1, k2, k3, k4, k5, k6⟩ := hx.2.2.2 g hgn
              obtain ⟨gr9, hgr9, egr⟩ := (hok.2 g hgn).2.2
              refine lv_iload hx9 hb dL_holds_73 (lv_at hl 1 rfl) ?_
              refine lv_if_eq (tgt := 440) hx9 hb dL_holds_75 (by decide) (fun c_102 => ?_) (fun c_102 => ?_)
              · exact absurd c_102 (by decide)
              · refine lv_aload_n hx9 hb dL_holds_78 rfl (lv_at hl 10 rfl) ?_
                refine lv_iconst (v := 3) hx9 hb dL_holds_79 (by decide) ?_
                refine lv_iload hx9 hb dL_holds_80 (lv_at hl 0 rfl) ?_
                refine lv_iconst (v := 3) hx9 hb dL_holds_82 (by decide) ?_
                refine lv_iconst (v := 0) hx9 hb dL_holds_83 (by decide) ?_
                refine wr_i (fun w9 : BS => gW cy a w9) (va_runS (As := [.ref (aO a), .int 3, .int (nI g), .int 3, .int 0]) (rest := []) hF (c_L_call_3 l D cy hl0 a v u_o hO hR_o (nI g) 3 0 H.size) (va_cwS 5 hts gL_holds_L_call rfl rfl rfl (by decide +kernel) ⟨Nat.le_of_ble_eq_true rfl, Nat.le_of_ble_eq_true rfl⟩) (wrX_preS hK hP hD (zz_all _) Xok_l (fun U hU hW => Gl.at hX hS (zz_free hD (zz_all _) hS hA) hU hW)) rfl rfl hl.1 rfl (lv_room (Nat.le_of_ble_eq_true rfl)) dL_holds_84 ⟨(by show _ ≤ 300; omega), (by show _ ≤ 1800; omega)⟩) hP hD hS hA (zz_all _) (fun _ => zz_all _) (fun r_103 u_104 H locs e_105 hP hD hS => ?_)
                obtain ⟨x_107, hR_106⟩ : r_103 = v.1.2.2.2.2.2.2.1 g ∧ Rep v u_104 := by rw [qGu_3 hx hgn] at e_105; exact e_105
                subst x_107
                have hP : va_P D vwCl (gW cy a u_104) H := hP
                have hD : va_D A (gW cy a u_104) := hD
                refine lv_istore (lv' := [(11, .int (v.1.2.2.2.2.2.2.1 g)), (10, .int (nI g)), (9, .int 1), (8, .int (v.1.2.1 1)), (7, .int gd), (6, .int hm), (5, .int rd), (4, .int wt), (3, .int ld), (2, .int v.1.1.2.1), (1, .int (nI n)), (0, .ref (aO a))]) hx9 hb dL_holds_87 hl (by decide) rfl (fun ls hl => ?_)
                refine lv_aload_n hx9 hb dL_holds_89 rfl (lv_at hl 11 rfl) ?_
                refine lv_iconst (v := 3) hx9 hb dL_holds_90 (by decide) ?_
                refine lv_iload hx9 hb dL_holds_91 (lv_at hl 1 rfl) ?_
                refine lv_iconst (v := 4) hx9 hb dL_holds_93 (by decide) ?_
                refine lv_iconst (v := 0) hx9 hb dL_holds_94 (by decide) ?_
                refine wr_i (fun w9 : BS => gW cy a w9) (va_runS (As := [.ref (aO a), .int 3, .int (nI g), .int 4, .int 0]) (rest := []) hF (c_L_call_3 l D cy hl0 a v u_104 hO hR_106 (nI g) 4 0 H.size) (va_cwS 5 hts gL_holds_L_call rfl rfl rfl (by decide +kernel) ⟨Nat.le_of_ble_eq_true rfl, Nat.le_of_ble_eq_true rfl⟩) (wrX_preS hK hP hD (zz_all _) Xok_l (fun U hU hW => Gl.at hX hS (zz_free hD (zz_all _) hS hA) hU hW)) rfl rfl hl.1 rfl (lv_room (Nat.le_of_ble_eq_true rfl)) dL_holds_95 ⟨(by show _ ≤ 300; omega), (by show _ ≤ 1800; omega)⟩) hP hD hS hA (zz_all _) (fun _ => zz_all _) (fun r_108 u_109 H locs e_110 hP hD hS => ?_)
                obtain ⟨x_112, hR_111⟩ : r_108 = hWhere v.1 g ∧ Rep v u_109 := by rw [qGu_4 hx hgn] at e_110; exact e_110
                subst x_112
                have hP : va_P D vwCl (gW cy a u_109) H := hP
                have hD : va_D A (gW cy a u_109) := hD
                refine lv_istore (lv' := [(12, .int (hWhere v.1 g)), (11, .int (v.1.2.2.2.2.2.2.1 g)), (10, .int (nI g)), (9, .int 1), (8, .int (v.1.2.1 1)), (7, .int gd), (6, .int hm), (5, .int rd), (4, .int wt), (3, .int ld), (2, .int v.1.1.2.1), (1, .int (nI n)), (0, .ref (aO a))]) hx9 hb dL_holds_98 hl (by decide) rfl (fun ls hl => ?_)
                refine lv_aload_n hx9 hb dL_holds_100 rfl (lv_at hl 12 rfl) ?_
                refine lv_iconst (v := 3) hx9 hb dL_holds_101 (by decide) ?_
                refine lv_iload hx9 hb dL_holds_102 (lv_at hl 2 rfl) ?_
                refine lv_iconst (v := 5) hx9 hb dL_holds_104 (by decide) ?_
                refine lv_iconst (v := 0) hx9 hb dL_holds_105 (by decide) ?_
                refine wr_i (fun w9 : BS => gW cy a w9) (va_runS (As := [.ref (aO a), .int 3, .int (nI g), .int 5, .int 0]) (rest := []) hF (c_L_call_3 l D cy hl0 a v u_109 hO hR_111 (nI g) 5 0 H.size) (va_cwS 5 hts gL_holds_L_call rfl rfl rfl (by decide +kernel) ⟨Nat.le_of_ble_eq_true rfl, Nat.le_of_ble_eq_true rfl⟩) (wrX_preS hK hP hD (zz_all _) Xok_l (fun U hU hW => Gl.at hX hS (zz_free hD (zz_all _) hS hA) hU hW)) rfl rfl hl.1 rfl (lv_room (Nat.le_of_ble_eq_true rfl)) dL_holds_106 ⟨(by show _ ≤ 300; omega), (by show _ ≤ 1800; omega)⟩) hP hD hS hA (zz_all _) (fun _ => zz_all _) (fun r_113 u_114 H locs e_115 hP hD hS => ?_)
                obtain ⟨x_117, hR_116⟩ : r_113 = v.1.2.2.2.2.2.2.2.1 g ∧ Rep v u_114 := by rw [qGu_5 hx hgn] at e_115; exact e_115
                subst x_117
                have hP : va_P D vwCl (gW cy a u_114) H := hP
                have hD : va_D A (gW cy a u_114) := hD
                refine lv_istore (lv' := [(13, .int (v.1.2.2.2.2.2.2.2.1 g)), (12, .int (hWhere v.1 g)), (11, .int (v.1.2.2.2.2.2.2.1 g)), (10, .int (nI g)), (9, .int 1), (8, .int (v.1.2.1 1)), (7, .int gd), (6, .int hm), (5, .int rd), (4, .int wt), (3, .int ld), (2, .int v.1.1.2.1), (1, .int (nI n)), (0, .ref (aO a))]) hx9 hb dL_holds_109 hl (by decide) rfl (fun ls hl => ?_)
                refine lv_aload_n hx9 hb dL_holds_111 rfl (lv_at hl 13 rfl) ?_
                refine lv_bipush (v := 10) hx9 hb dL_holds_112 (by decide) ?_
                refine lv_iload hx9 hb dL_holds_114 (lv_at hl 3 rfl) ?_
                refine lv_iconst (v := 0) hx9 hb dL_holds_116 (by decide) ?_
                refine lv_iconst (v := 0) hx9 hb dL_holds_117 (by decide) ?_
                refine wr_i (fun w9 : BS => gW cy a w9) (va_runS (As := [.ref (aO a), .int 10, .int (nI g), .int 0, .int 0]) (rest := []) hF (c_L_call_10 l D cy hl0 a v u_114 hO hR_116 (nI g) 0 0 H.size) (va_cwS 5 hts gL_holds_L_call rfl rfl rfl (by decide +kernel) ⟨Nat.le_of_ble_eq_true rfl, Nat.le_of_ble_eq_true rfl⟩) (wrX_preS hK hP hD (zz_all _) Xok_l (fun U hU hW => Gl.at hX hS (zz_free hD (zz_all _) hS hA) hU hW)) rfl rfl hl.1 rfl (lv_room (Nat.le_of_ble_eq_true rfl)) dL_holds_118 ⟨(by show _ ≤ 300; omega), (by show _ ≤ 1800; omega)⟩) hP hD hS hA (zz_all _) (fun _ => zz_all _) (fun r_118 u_119 H locs e_120 hP hD hS => ?_)
                obtain ⟨x_122, hR_121⟩ : r_118 = hReas v.1 (nI g) ∧ Rep v u_119 := by rw [qWh_g hx hgn] at e_120; exact e_120
                subst x_122
                have hP : va_P D vwCl (gW cy a u_119) H := hP
                have hD : va_D A (gW cy a u_119) := hD
                refine lv_istore (lv' := [(14, .int (hReas v.1 (nI g))), (13, .int (v.1.2.2.2.2.2.2.2.1 g)), (12, .int (hWhere v.1 g)), (11, .int (v.1.2.2.2.2.2.2.1 g)), (10, .int (nI g)), (9, .int 1), (8, .int (v.1.2.1 1)), (7, .int gd), (6, .int hm), (5, .int rd), (4, .int wt), (3, .int ld), (2, .int v.1.1.2.1), (1, .int (nI n)), (0, .ref (aO a))]) hx9 hb dL_holds_121 hl (by decide) rfl (fun ls hl => ?_)
                refine lv_aload_n hx9 hb dL_holds_123 rfl (lv_at hl 14 rfl) ?_
                refine lv_bipush (v := 13) hx9 hb dL_holds_124 (by decide) ?_
                refine lv_iload hx9 hb dL_holds_126 (lv_at hl 4 rfl) ?_
                refine lv_iconst (v := 0) hx9 hb dL_holds_128 (by decide) ?_
                refine lv_iconst (v := 0) hx9 hb dL_holds_129 (by decide) ?_
                refine wr_i (fun w9 : BS => gW cy a w9) (va_runS (As := [.ref (aO a), .int 13, .int (nI g), .int 0, .int 0]) (rest := []) hF (c_L_call_13 l D cy hl0 a v u_119 hO hR_121 (nI g) 0 0 H.size) (va_cwS 5 hts gL_holds_L_call rfl rfl rfl (by decide +kernel) ⟨Nat.le_of_ble_eq_true rfl, Nat.le_of_ble_eq_true rfl⟩) (wrX_preS hK hP hD (zz_all _) Xok_l (fun U hU hW => Gl.at hX hS (zz_free hD (zz_all _) hS hA) hU hW)) rfl rfl hl.1 rfl (lv_room (Nat.le_of_ble_eq_true rfl)) dL_holds_130 ⟨(by show _ ≤ 300; omega), (by show _ ≤ 1800; omega)⟩) hP hD hS hA (zz_all _) (fun _ => zz_all _) (fun r_123 u_124 H locs e_125 hP hD hS => ?_)
                obtain ⟨x_127, hR_126⟩ : r_123 = hStandR n v.1 (nI g) ∧ Rep v u_124 := by rw [qLe_g hx hgn] at e_125; exact e_125
                subst x_127
                have hP : va_P D vwCl (gW cy a u_124) H := hP
                have hD : va_D A (gW cy a u_124) := hD
                refine lv_istore (lv' := [(15, .int (hStandR n v.1 (nI g))), (14, .int (hReas v.1 (nI g))), (13, .int (v.1.2.2.2.2.2.2.2.1 g)), (12, .int (hWhere v.1 g)), (11, .int (v.1.2.2.2.2.2.2.1 g)), (10, .int (nI g)), (9, .int 1), (8, .int (v.1.2.1 1)), (7, .int gd), (6, .int hm), (5, .int rd), (4, .int wt), (3, .int ld), (2, .int v.1.1.2.1), (1, .int (nI n)), (0, .ref (aO a))]) hx9 hb dL_holds_133 hl (by decide) rfl (fun ls hl => ?_)
                refine lv_iload_n hx9 hb dL_holds_135 rfl (lv_at hl 12 rfl) ?_
                have jn_155 : ∀ (u_128 : BS) (H : Heap) (locs : List Loc) (ls : Array Slot), Rep v u_128 → va_P D vwCl (gW cy a u_128) H → va_D A (gW cy a u_128) → va_S A s.heap H locs → lv_has ls 16 [(15, .int (hStandR n v.1 (nI g))), (14, .int (hReas v.1 (nI g))), (13, .int (v.1.2.2.2.2.2.2.2.1 g)), (12, .int (hWhere v.1 g)), (11, .int (v.1.2.2.2.2.2.2.1 g)), (10, .int (nI g)), (9, .int 1), (8, .int (v.1.2.1 1)), (7, .int gd), (6, .int hm), (5, .int rd), (4, .int wt), (3, .int ld), (2, .int v.1.1.2.1), (1, .int (nI n)), (0, .ref (aO a))] → W p l e rm_L_holds s m args below meth c H locs (ck + 10) (cq + 60) Q (F0 m 155 ls [.int (if v.1.2.2.2.2.2.2.1 g = 1 then v.1.2.2.2.2.2.1 g else 0), .int ld]) := by
                  intro u_128 H locs ls hR_129 hP hD hS hl
                  refine lv_iadd hx9 hb dL_holds_155 ?_
                  refine zz_top (y := sWR v.1.2.2.2.2.2.2.1 v.1.2.2.2.2.2.1 g ld) if_add ?_
                  refine lv_istore_n (lv' := [(3, .int (sWR v.1.2.2.2.2.2.2.1 v.1.2.2.2.2.2.1 g ld)), (15, .int (hStandR n v.1 (nI g))), (14, .int (hReas v.1 (nI g))), (13, .int (v.1.2.2.2.2.2.2.2.1 g)), (12, .int (hWhere v.1 g)), (11, .int (v.1.2.2.2.2.2.2.1 g)), (10, .int (nI g)), (9, .int 1), (8, .int (v.1.2.1 1)), (7, .int gd), (6, .int hm), (5, .int rd), (4, .int wt), (2, .int v.1.1.2.1), (1, .int (nI n)), (0, .ref (aO a))]) hx9 hb dL_holds_156 rfl hl (by decide) rfl (fun ls hl => ?_)
                  refine lv_iload hx9 hb dL_holds_157 (lv_at hl 12 rfl) ?_
                  have jn_169 : ∀ (u_130 : BS) (H : Heap) (locs : List Loc) (ls : Array Slot), Rep v u_130 → va_P D vwCl (gW cy a u_130) H → va_D A (gW cy a u_130) → va_S A s.heap H locs → lv_has ls 16 [(3, .int (sWR v.1.2.2.2.2.2.2.1 v.1.2.2.2.2.2.1 g ld)), (15, .int (hStandR n v.1 (nI g))), (14, .int (hReas v.1 (nI g))), (13, .int (v.1.2.2.2.2.2.2.2.1 g)), (12, .int (hWhere v.1 g)), (11, .int (v.1.2.2.2.2.2.2.1 g)), (10, .int (nI g)), (9, .int 1), (8, .int (v.1.2.1 1)), (7, .int gd), (6, .int hm), (5, .int rd), (4, .int wt), (2, .int v.1.1.2.1), (1, .int (nI n)), (0, .ref (aO a))] → W p l e rm_L_holds s m args below meth c H locs (ck + 10) (cq + 60) Q (F0 m 169 ls [.int (if v.1.2.2.2.2.2.2.1 g = 0 then 1 else 0), .int wt]) := by
                    intro u_130 H locs ls hR_131 hP hD hS hl
                    refine lv_iadd hx9 hb dL_holds_169 ?_
                    refine zz_top (y := sGI v.1.2.2.2.2.2.2.1 0 g wt) if_add ?_
                    refine lv_istore (lv' := [(4, .int (sGI v.1.2.2.2.2.2.2.1 0 g wt)), (3, .int (sWR v.1.2.2.2.2.2.2.1 v.1.2.2.2.2.2.1 g ld)), (15, .int (hStandR n v.1 (nI g))), (14, .int (hReas v.1 (nI g))), (13, .int (v.1.2.2.2.2.2.2.2.1 g)), (12, .int (hWhere v.1 g)), (11, .int (v.1.2.2.2.2.2.2.1 g)), (10, .int (nI g)), (9, .int 1), (8, .int (v.1.2.1 1)), (7, .int gd), (6, .int hm), (5, .int rd), (2, .int v.1.1.2.1), (1, .int (nI n)), (0, .ref (aO a))]) hx9 hb dL_holds_170 hl (by decide) rfl (fun ls hl => ?_)
                    refine lv_iload hx9 hb dL_holds_172 (lv_at hl 12 rfl) ?_
                    have jn_185 : ∀ (u_132 : BS) (H : Heap) (locs : List Loc) (ls : Array Slot), Rep v u_132 → va_P D vwCl (gW cy a u_132) H → va_D A (gW cy a u_132) → va_S A s.heap H locs → lv_has ls 16 [(4, .int (sGI v.1.2.2.2.2.2.2.1 0 g wt)), (3, .int (sWR v.1.2.2.2.2.2.2.1 v.1.2.2.2.2.2.1 g ld)), (15, .int (hStandR n v.1 (nI g))), (14, .int (hReas v.1 (nI g))), (13, .int (v.1.2.2.2.2.2.2.2.1 g)), (12, .int (hWhere v.1 g)), (11, .int (v.1.2.2.2.2.2.2.1 g)), (10, .int (nI g)), (9, .int 1), (8, .int (v.1.2.1 1)), (7, .int gd), (6, .int hm), (5, .int rd), (2, .int v.1.1.2.1), (1, .int (nI n)), (0, .ref (aO a))] → W p l e rm_L_holds s m args below meth c H locs (ck + 10) (cq + 60) Q (F0 m 185 ls [.int (if v.1.2.2.2.2.2.2.1 g = 1 then 1 else 0), .int rd]) := by
                      intro u_132 H locs ls hR_133 hP hD hS hl
                      refine lv_iadd hx9 hb dL_holds_185 ?_
                      refine zz_top (y := sGI v.1.2.2.2.2.2.2.1 1 g rd) if_add ?_
                      refine lv_istore (lv' := [(5, .int (sGI v.1.2.2.2.2.2.2.1 1 g rd)), (4, .int (sGI v.1.2.2.2.2.2.2.1 0 g wt)), (3, .int (sWR v.1.2.2.2.2.2.2.1 v.1.2.2.2.2.2.1 g ld)), (15, .int (hStandR n v.1 (nI g))), (14, .int (hReas v.1 (nI g))), (13, .int (v.1.2.2.2.2.2.2.2.1 g)), (12, .int (hWhere v.1 g)), (11, .int (v.1.2.2.2.2.2.2.1 g)), (10, .int (nI g)), (9, .int 1), (8, .int (v.1.2.1 1)), (7, .int gd), (6, .int hm), (2, .int v.1.1.2.1), (1, .int (nI n)), (0, .ref (aO a))]) hx9 hb dL_holds_186 hl (by decide) rfl (fun ls hl => ?_)
                      refine lv_iload hx9 hb dL_holds_188 (lv_at hl 12 rfl) ?_
                      have jn_201 : ∀ (u_134 : BS) (H : Heap) (locs : List Loc) (ls : Array Slot), Rep v u_134 → va_P D vwCl (gW cy a u_134) H → va_D A (gW cy a u_134) → va_S A s.heap H locs → lv_has ls 16 [(5, .int (sGI v.1.2.2.2.2.2.2.1 1 g rd)), (4, .int (sGI v.1.2.2.2.2.2.2.1 0 g wt)), (3, .int (sWR v.1.2.2.2.2.2.2.1 v.1.2.2.2.2.2.1 g ld)), (15, .int (hStandR n v.1 (nI g))), (14, .int (hReas v.1 (nI g))), (13, .int (v.1.2.2.2.2.2.2.2.1 g)), (12, .int (hWhere v.1 g)), (11, .int (v.1.2.2.2.2.2.2.1 g)), (10, .int (nI g)), (9, .int 1), (8, .int (v.1.2.1 1)), (7, .int gd), (6, .int hm), (2, .int v.1.1.2.1), (1, .int (nI n)), (0, .ref (aO a))] → W p l e rm_L_holds s m args below meth c H locs (ck + 10) (cq + 60) Q (F0 m 201 ls [.int (if v.1.2.2.2.2.2.2.1 g = 2 then 1 else 0), .int hm]) := by
                        intro u_134 H locs ls hR_135 hP hD hS hl
                        refine lv_iadd hx9 hb dL_holds_201 ?_
                        refine zz_top (y := sGI v.1.2.2.2.2.2.2.1 2 g hm) if_add ?_
                        refine lv_istore (lv' := [(6, .int (sGI v.1.2.2.2.2.2.2.1 2 g hm)), (5, .int (sGI v.1.2.2.2.2.2.2.1 1 g rd)), (4, .int (sGI v.1.2.2.2.2.2.2.1 0 g wt)), (3, .int (sWR v.1.2.2.2.2.2.2.1 v.1.2.2.2.2.2.1 g ld)), (15, .int (hStandR n v.1 (nI g))), (14, .int (hReas v.1 (nI g))), (13, .int (v.1.2.2.2.2.2.2.2.1 g)), (12, .int (hWhere v.1 g)), (11, .int (v.1.2.2.2.2.2.2.1 g)), (10, .int (nI g)), (9, .int 1), (8, .int (v.1.2.1 1)), (7, .int gd), (2, .int v.1.1.2.1), (1, .int (nI n)), (0, .ref (aO a))]) hx9 hb dL_holds_202 hl (by decide) rfl (fun ls hl => ?_)
                        refine lv_iload hx9 hb dL_holds_204 (lv_at hl 12 rfl) ?_
                        refine lv_iload hx9 hb dL_holds_206 (lv_at hl 6 rfl) ?_
                        refine lv_iadd hx9 hb dL_holds_208 ?_
                        refine zz_top (y := sAG v.1.2.2.2.2.2.2.2.1 g gd) rfl ?_
                        refine lv_istore (lv' := [(7, .int (sAG v.1.2.2.2.2.2.2.2.1 g gd)), (6, .int (sGI v.1.2.2.2.2.2.2.1 2 g hm)), (5, .int (sGI v.1.2.2.2.2.2.2.1 1 g rd)), (4, .int (sGI v.1.2.2.2.2.2.2.1 0 g wt)), (3, .int (sWR v.1.2.2.2.2.2.2.1 v.1.2.2.2.2.2.1 g ld)), (15, .int (hStandR n v.1 (nI g))), (14, .int (hReas v.1 (nI g))), (13, .int (v.1.2.2.2.2.2.2.2.1 g)), (12, .int (hWhere v.1 g)), (11, .int (v.1.2.2.2.2.2.2.1 g)), (10, .int (nI g)), (9, .int 1), (8, .int (v.1.2.1 1)), (2, .int v.1.1.2.1), (1, .int (nI n)), (0, .ref (aO a))]) hx9 hb dL_holds_209 hl (by decide) rfl (fun ls hl => ?_)
                        refine lv_iload hx9 hb dL_holds_211 (lv_at hl 7 rfl) ?_
                        refine lv_if_lt (tgt := 431) hx9 hb dL_holds_213 (by decide) (fun c_136 => ?_) (fun c_136 => ?_)
                        · exact absurd c_136 (by rw [egr]; exact nI_pos (by omega))
                        · have c_136 : ¬ (v.1.2.2.2.2.2.2.2.1 g) < 0 := c_136
                          refine lv_iload hx9 hb dL_holds_216 (lv_at hl 7 rfl) ?_
                          refine lv_bipush (v := 9) hx9 hb dL_holds_218 (by decide) ?_
                          refine lv_icmp_gt (tgt := 431) hx9 hb dL_holds_220 (by decide) (fun c_137 => ?_) (fun c_137 => ?_)
                          · exact absurd c_137 (by rw [egr]; exact nI_nlt (a := 9) (b := gr9) (by omega) (by omega))
                          · have c_137 : ¬ 9 < (v.1.2.2.2.2.2.2.2.1 g) := c_137
                            have jn_235 : ∀ (u_138 : BS) (H : Heap) (locs : List Loc) (ls : Array Slot), Rep v u_138 → va_P D vwCl (gW cy a u_138) H → va_D A (gW cy a u_138) → va_S A s.heap H locs → lv_has ls 16 [(7, .int (sAG v.1.2.2.2.2.2.2.2.1 g gd)), (6, .int (sGI v.1.2.2.2.2.2.2.1 2 g hm)), (5, .int (sGI v.1.2.2.2.2.2.2.1 1 g rd)), (4, .int (sGI v.1.2.2.2.2.2.2.1 0 g wt)), (3, .int (sWR v.1.2.2.2.2.2.2.1 v.1.2.2.2.2.2.1 g ld)), (15, .int (hStandR n v.1 (nI g))), (14, .int (hReas v.1 (nI g))), (13, .int (v.1.2.2.2.2.2.2.2.1 g)), (12, .int (hWhere v.1 g)), (11, .int (v.1.2.2.2.2.2.2.1 g)), (10, .int (nI g)), (9, .int 1), (8, .int (v.1.2.1 1)), (2, .int v.1.1.2.1), (1, .int (nI n)), (0, .ref (aO a))] → W p l e rm_L_holds s m args below meth c H locs (ck + 10) (cq + 60) Q (F0 m 235 ls []) := by
                              intro u_138 H locs ls hR_139 hP hD hS hl
                              have jn_246 : ∀ (u_140 : BS) (H : Heap) (locs : List Loc) (ls : Array Slot), Rep v u_140 → va_P D vwCl (gW cy a u_140) H → va_D A (gW cy a u_140) → va_S A s.heap H locs → lv_has ls 16 [(7, .int (sAG v.1.2.2.2.2.2.2.2.1 g gd)), (6, .int (sGI v.1.2.2.2.2.2.2.1 2 g hm)), (5, .int (sGI v.1.2.2.2.2.2.2.1 1 g rd)), (4, .int (sGI v.1.2.2.2.2.2.2.1 0 g wt)), (3, .int (sWR v.1.2.2.2.2.2.2.1 v.1.2.2.2.2.2.1 g ld)), (15, .int (hStandR n v.1 (nI g))), (14, .int (hReas v.1 (nI g))), (13, .int (v.1.2.2.2.2.2.2.2.1 g)), (12, .int (hWhere v.1 g)), (11, .int (v.1.2.2.2.2.2.2.1 g)), (10, .int (nI g)), (9, .int 1), (8, .int (v.1.2.1 1)), (2, .int v.1.1.2.1), (1, .int (nI n)), (0, .ref (aO a))] → W p l e rm_L_holds s m args below meth c H locs (ck + 10) (cq + 60) Q (F0 m 246 ls [.int (zb (v.1.2.2.2.2.2.2.1 g = 2))]) := by
                                intro u_140 H locs ls hR_141 hP hD hS hl
                                refine lv_iload hx9 hb dL_holds_246 (lv_at hl 8 rfl) ?_
                                refine lv_aload_n hx9 hb dL_holds_248 rfl (lv_at hl 15 rfl) ?_
                                refine lv_iconst (v := 3) hx9 hb dL_holds_249 (by decide) ?_
                                refine lv_iload hx9 hb dL_holds_250 (lv_at hl 10 rfl) ?_
                                refine lv_iconst (v := 1) hx9 hb dL_holds_252 (by decide) ?_
                                refine lv_iconst (v := 0) hx9 hb dL_holds_253 (by decide) ?_
                                refine wr_i (fun w9 : BS => gW cy a w9) (va_runS (As := [.ref (aO a), .int 3, .int (nI g), .int 1, .int 0]) (rest := [.int (hWhere v.1 g), .int (zb (v.1.2.2.2.2.2.2.1 g = 2))]) hF (c_L_call_3 l D cy hl0 a v u_140 hO hR_141 (nI g) 1 0 H.size) (va_cwS 5 hts gL_holds_L_call rfl rfl rfl (by decide +kernel) ⟨Nat.le_of_ble_eq_true rfl, Nat.le_of_ble_eq_true rfl⟩) (wrX_preS hK hP hD (zz_all _) Xok_l (fun U hU hW => Gl.at hX hS (zz_free hD (zz_all _) hS hA) hU hW)) rfl rfl hl.1 rfl (lv_room (Nat.le_of_ble_eq_true rfl)) dL_holds_254 ⟨(by show _ ≤ 300; omega), (by show _ ≤ 1800; omega)⟩) hP hD hS hA (zz_all _) (fun _ => zz_all _) (fun r_142 u_143 H locs e_144 hP hD hS => ?_)
                                obtain ⟨x_146, hR_145⟩ : r_142 = v.1.2.2.2.2.1 g ∧ Rep v u_143 := by rw [qGu_1 hx hgn] at e_144; exact e_144
                                subst x_146
                                have hP : va_P D vwCl (gW cy a u_143) H := hP
                                have hD : va_D A (gW cy a u_143) := hD
                                have jn_265 : ∀ (u_147 : BS) (H : Heap) (locs : List Loc) (ls : Array Slot), Rep v u_147 → va_P D vwCl (gW cy a u_147) H → va_D A (gW cy a u_147) → va_S A s.heap H locs → lv_has ls 16 [(7, .int (sAG v.1.2.2.2.2.2.2.2.1 g gd)), (6, .int (sGI v.1.2.2.2.2.2.2.1 2 g hm)), (5, .int (sGI v.1.2.2.2.2.2.2.1 1 g rd)), (4, .int (sGI v.1.2.2.2.2.2.2.1 0 g wt)), (3, .int (sWR v.1.2.2.2.2.2.2.1 v.1.2.2.2.2.2.1 g ld)), (15, .int (hStandR n v.1 (nI g))), (14, .int (hReas v.1 (nI g))), (13, .int (v.1.2.2.2.2.2.2.2.1 g)), (12, .int (hWhere v.1 g)), (11, .int (v.1.2.2.2.2.2.2.1 g)), (10, .int (nI g)), (9, .int 1), (8, .int (v.1.2.1 1)), (2, .int v.1.1.2.1), (1, .int (nI n)), (0, .ref (aO a))] → W p l e rm_L_holds s m args below meth c H locs (ck + 12) (cq + 72) Q (F0 m 265 ls [.int (zb (hWhere v.1 g = v.1.2.2.2.2.1 g)), .int (zb (v.1.2.2.2.2.2.2.1 g = 2))]) := by
                                  intro u_147 H locs ls hR_148 hP hD hS hl
                                  refine lv_icmp_ne (tgt := 431) hx9 hb dL_holds_265 (by decide) (fun c_149 => ?_) (fun c_149 => ?_)
                                  · exact absurd (zb_congr2 (home_iff hx hgn)) c_149
                                  · have c_149 : (zb (v.1.2.2.2.2.2.2.1 g = 2)) = (zb (hWhere v.1 g = v.1.2.2.2.2.1 g)) := c_149
                                    have jn_279 : ∀ (u_150 : BS) (H : Heap) (locs : List Loc) (ls : Array Slot), Rep v u_150 → va_P D vwCl (gW cy a u_150) H → va_D A (gW cy a u_150) → va_S A s.heap H locs → lv_has ls 16 [(7, .int (sAG v.1.2.2.2.2.2.2.2.1 g gd)), (6, .int (sGI v.1.2.2.2.2.2.2.1 2 g hm)), (5, .int (sGI v.1.2.2.2.2.2.2.1 1 g rd)), (4, .int (sGI v.1.2.2.2.2.2.2.1 0 g wt)), (3, .int (sWR v.1.2.2.2.2.2.2.1 v.1.2.2.2.2.2.1 g ld)), (15, .int (hStandR n v.1 (nI g))), (14, .int (hReas v.1 (nI g))), (13, .int (v.1.2.2.2.2.2.2.2.1 g)), (12, .int (hWhere v.1 g)), (11, .int (v.1.2.2.2.2.2.2.1 g)), (10, .int (nI g)), (9, .int 1), (8, .int (v.1.2.1 1)), (2, .int v.1.1.2.1), (1, .int (nI n)), (0, .ref (aO a))] → W p l e rm_L_holds s m args below meth c H locs (ck + 12) (cq + 72) Q (F0 m 279 ls []) := by
                                      intro u_150 H locs ls hR_151 hP hD hS hl
                                      refine lv_iload hx9 hb dL_holds_279 (lv_at hl 6 rfl) ?_
                                      have jn_320 : ∀ (u_152 : BS) (H : Heap) (locs : List Loc) (ls : Array Slot), Rep v u_152 → va_P D vwCl (gW cy a u_152) H → va_D A (gW cy a u_152) → va_S A s.heap H locs → lv_has ls 16 [(7, .int (sAG v.1.2.2.2.2.2.2.2.1 g gd)), (6, .int (sGI v.1.2.2.2.2.2.2.1 2 g hm)), (5, .int (sGI v.1.2.2.2.2.2.2.1 1 g rd)), (4, .int (sGI v.1.2.2.2.2.2.2.1 0 g wt)), (3, .int (sWR v.1.2.2.2.2.2.2.1 v.1.2.2.2.2.2.1 g ld)), (15, .int (hStandR n v.1 (nI g))), (14, .int (hReas v.1 (nI g))), (13, .int (v.1.2.2.2.2.2.2.2.1 g)), (12, .int (hWhere v.1 g)), (11, .int (v.1.2.2.2.2.2.2.1 g)), (10, .int (nI g)), (9, .int 1), (8, .int (v.1.2.1 1)), (2, .int v.1.1.2.1), (1, .int (nI n)), (0, .ref (aO a))] → W p l e rm_L_holds s m args below meth c H locs (ck + 14) (cq + 84) Q (F0 m 320 ls [.int (hReas v.1 (nI g)), .int (hReas v.1 (nI g))]) := by
                                        intro u_152 H locs ls hR_153 hP hD hS hl
                                        refine lv_icmp_ne (tgt := 431) hx9 hb dL_holds_320 (by decide) (fun c_154 => ?_) (fun c_154 => ?_)
                                        · exact absurd rfl c_154
                                        · have c_154 : (hReas v.1 (nI g)) = (hReas v.1 (nI g)) := c_154
                                          refine lv_aload_n hx9 hb dL_holds_323 rfl (lv_at hl 15 rfl) ?_
                                          refine lv_iconst (v := 4) hx9 hb dL_holds_324 (by decide) ?_
                                          refine lv_iload hx9 hb dL_holds_325 (lv_at hl 8 rfl) ?_
                                          refine lv_iconst (v := 0) hx9 hb dL_holds_327 (by decide) ?_
                                          refine lv_iconst (v := 0) hx9 hb dL_holds_328 (by decide) ?_
                                          refine wr_i (fun w9 : BS => gW cy a w9) (va_runS (As := [.ref (aO a), .int 4, .int (hWhere v.1 g), .int 0, .int 0]) (rest := []) hF (c_L_call_4 l D cy hl0 a v u_152 hO hR_153 (hWhere v.1 g) 0 0 H.size) (va_cwS 5 hts gL_holds_L_call rfl rfl rfl (by decide +kernel) ⟨Nat.le_of_ble_eq_true rfl, Nat.le_of_ble_eq_true rfl⟩) (wrX_preS hK hP hD (zz_all _) Xok_l (fun U hU hW => Gl.at hX hS (zz_free hD (zz_all _) hS hA) hU hW)) rfl rfl hl.1 rfl (lv_room (Nat.le_of_ble_eq_true rfl)) dL_holds_329 ⟨(by show _ ≤ 300; omega), (by show _ ≤ 1800; omega)⟩) hP hD hS hA (zz_all _) (fun _ => zz_all _) (fun r_155 u_156 H locs e_157 hP hD hS => ?_)
                                          obtain ⟨x_159, hR_158⟩ : r_155 = hFS n v.1 (hWhere v.1 g) 0 ∧ Rep v u_156 := by rw [qFl_0 hx (where_f hx hgn)] at e_157; exact e_157
                                          subst x_159
                                          have hP : va_P D vwCl (gW cy a u_156) H := hP
                                          have hD : va_D A (gW cy a u_156) := hD
                                          refine lv_iload hx9 hb dL_holds_332 (lv_at hl 10 rfl) ?_
                                          refine lv_ishr hx9 hb dL_holds_334 ?_
                                          refine lv_iconst (v := 1) hx9 hb dL_holds_335 (by decide) ?_
                                          refine lv_iand hx9 hb dL_holds_336 ?_
                                          have jn_347 : ∀ (u_160 : BS) (H : Heap) (locs : List Loc) (ls : Array Slot), Rep v u_160 → va_P D vwCl (gW cy a u_160) H → va_D A (gW cy a u_160) → va_S A s.heap H locs → lv_has ls 16 [(7, .int (sAG v.1.2.2.2.2.2.2.2.1 g gd)), (6, .int (sGI v.1.2.2.2.2.2.2.1 2 g hm)), (5, .int (sGI v.1.2.2.2.2.2.2.1 1 g rd)), (4, .int (sGI v.1.2.2.2.2.2.2.1 0 g wt)), (3, .int (sWR v.1.2.2.2.2.2.2.1 v.1.2.2.2.2.2.1 g ld)), (15, .int (hStandR n v.1 (nI g))), (14, .int (hReas v.1 (nI g))), (13, .int (v.1.2.2.2.2.2.2.2.1 g)), (12, .int (hWhere v.1 g)), (11, .int (v.1.2.2.2.2.2.2.1 g)), (10, .int (nI g)), (9, .int 1), (8, .int (v.1.2.1 1)), (2, .int v.1.1.2.1), (1, .int (nI n)), (0, .ref (aO a))] → W p l e rm_L_holds s m args below meth c H locs (ck + 15) (cq + 90) Q (F0 m 347 ls [.int (zb (v.1.2.2.2.2.2.2.1 g = 0)), .int (((hFS n v.1 (hWhere v.1 g) 0) >>> ((nI g) &&& 31)) &&& 1)]) := by
                                            intro u_160 H locs ls hR_161 hP hD hS hl
                                            refine lv_icmp_ne (tgt := 431) hx9 hb dL_holds_347 (by decide) (fun c_162 => ?_) (fun c_162 => ?_)
                                            · exact absurd (wait_bit hx hgn) c_162
                                            · have c_162 : (((hFS n v.1 (hWhere v.1 g) 0) >>> ((nI g) &&& 31)) &&& 1) = (zb (v.1.2.2.2.2.2.2.1 g = 0)) := c_162
                                              refine lv_aload_n hx9 hb dL_holds_350 rfl (lv_at hl 15 rfl) ?_
                                              refine lv_iconst (v := 4) hx9 hb dL_holds_351 (by decide) ?_
                                              refine lv_iload hx9 hb dL_holds_352 (lv_at hl 8 rfl) ?_
                                              refine lv_iconst (v := 1) hx9 hb dL_holds_354 (by decide) ?_
                                              refine lv_iconst (v := 0) hx9 hb dL_holds_355 (by decide) ?_
                                              refine wr_i (fun w9 : BS => gW cy a w9) (va_runS (As := [.ref (aO a), .int 4, .int (hWhere v.1 g), .int 1, .int 0]) (rest := []) hF (c_L_call_4 l D cy hl0 a v u_160 hO hR_161 (hWhere v.1 g) 1 0 H.size) (va_cwS 5 hts gL_holds_L_call rfl rfl rfl (by decide +kernel) ⟨Nat.le_of_ble_eq_true rfl, Nat.le_of_ble_eq_true rfl⟩) (wrX_preS hK hP hD (zz_all _) Xok_l (fun U hU hW => Gl.at hX hS (zz_free hD (zz_all _) hS hA) hU hW)) rfl rfl hl.1 rfl (lv_room (Nat.le_of_ble_eq_true rfl)) dL_holds_356 ⟨(by show _ ≤ 300; omega), (by show _ ≤ 1800; omega)⟩) hP hD hS hA (zz_all _) (fun _ => zz_all _) (fun r_163 u_164 H locs e_165 hP hD hS => ?_)
                                              obtain ⟨x_167, hR_166⟩ : r_163 = hFS n v.1 (hWhere v.1 g) 1 ∧ Rep v u_164 := by rw [qFl_1 hx (where_f hx hgn)] at e_165; exact e_165
                                              subst x_167
                                              have hP : va_P D vwCl (gW cy a u_164) H := hP
                                              have hD : va_D A (gW cy a u_164) := hD
                                              refine lv_iload hx9 hb dL_holds_359 (lv_at hl 10 rfl) ?_
                                              refine lv_ishr hx9 hb dL_holds_361 ?_
                                              refine lv_iconst (v := 1) hx9 hb dL_holds_362 (by decide) ?_
                                              refine lv_iand hx9 hb dL_holds_363 ?_
                                              have jn_375 : ∀ (u_168 : BS) (H : Heap) (locs : List Loc) (ls : Array Slot), Rep v u_168 → va_P D vwCl (gW cy a u_168) H → va_D A (gW cy a u_168) → va_S A s.heap H locs → lv_has ls 16 [(7, .int (sAG v.1.2.2.2.2.2.2.2.1 g gd)), (6, .int (sGI v.1.2.2.2.2.2.2.1 2 g hm)), (5, .int (sGI v.1.2.2.2.2.2.2.1 1 g rd)), (4, .int (sGI v.1.2.2.2.2.2.2.1 0 g wt)), (3, .int (sWR v.1.2.2.2.2.2.2.1 v.1.2.2.2.2.2.1 g ld)), (15, .int (hStandR n v.1 (nI g))), (14, .int (hReas v.1 (nI g))), (13, .int (v.1.2.2.2.2.2.2.2.1 g)), (12, .int (hWhere v.1 g)), (11, .int (v.1.2.2.2.2.2.2.1 g)), (10, .int (nI g)), (9, .int 1), (8, .int (v.1.2.1 1)), (2, .int v.1.1.2.1), (1, .int (nI n)), (0, .ref (aO a))] → W p l e rm_L_holds s m args below meth c H locs (ck + 16) (cq + 96) Q (F0 m 375 ls [.int (zb (v.1.2.2.2.2.2.2.1 g = 2)), .int (((hFS n v.1 (hWhere v.1 g) 1) >>> ((nI g) &&& 31)) &&& 1)]) := by
                                                intro u_168 H locs ls hR_169 hP hD hS hl
                                                refine lv_icmp_ne (tgt := 431) hx9 hb dL_holds_375 (by decide) (fun c_170 => ?_) (fun c_170 => ?_)
                                                · exact absurd (home_bit hx hgn) c_170
                                                · have c_170 : (((hFS n v.1 (hWhere v.1 g) 1) >>> ((nI g) &&& 31)) &&& 1) = (zb (v.1.2.2.2.2.2.2.1 g = 2)) := c_170
                                                  refine lv_aload_n hx9 hb dL_holds_378 rfl (lv_at hl 15 rfl) ?_
                                                  refine lv_iconst (v := 4) hx9 hb dL_holds_379 (by decide) ?_
                                                  refine lv_aload_n hx9 hb dL_holds_380 rfl (lv_at hl 15 rfl) ?_
                                                  refine lv_iconst (v := 3) hx9 hb dL_holds_381 (by decide) ?_
                                                  refine lv_iload hx9 hb dL_holds_382 (lv_at hl 10 rfl) ?_
                                                  refine lv_iconst (v := 0) hx9 hb dL_holds_384 (by decide) ?_
                                                  refine lv_iconst (v := 0) hx9 hb dL_holds_385 (by decide) ?_
                                                  refine wr_i (fun w9 : BS => gW cy a w9) (va_runS (As := [.ref (aO a), .int 3, .int (nI g), .int 0, .int 0]) (rest := [.int 4, .ref (aO a)]) hF (c_L_call_3 l D cy hl0 a v u_168 hO hR_169 (nI g) 0 0 H.size) (va_cwS 5 hts gL_holds_L_call rfl rfl rfl (by decide +kernel) ⟨Nat.le_of_ble_eq_true rfl, Nat.le_of_ble_eq_true rfl⟩) (wrX_preS hK hP hD (zz_all _) Xok_l (fun U hU hW => Gl.at hX hS (zz_free hD (zz_all _) hS hA) hU hW)) rfl rfl hl.1 rfl (lv_room (Nat.le_of_ble_eq_true rfl)) dL_holds_386 ⟨(by show _ ≤ 300; omega), (by show _ ≤ 1800; omega)⟩) hP hD hS hA (zz_all _) (fun _ => zz_all _) (fun r_171 u_172 H locs e_173 hP hD hS => ?_)
                                                  obtain ⟨x_175, hR_174⟩ : r_171 = v.1.2.2.1 g ∧ Rep v u_172 := by rw [qGu_0 hx hgn] at e_173; exact e_173
                                                  subst x_175
                                                  have hP : va_P D vwCl (gW cy a u_172) H := hP
                                                  have hD : va_D A (gW cy a u_172) := hD
                                                  refine lv_iconst (v := 2) hx9 hb dL_holds_389 (by decide) ?_
                                                  refine lv_iconst (v := 0) hx9 hb dL_holds_390 (by decide) ?_
                                                  refine wr_i (fun w9 : BS => gW cy a w9) (va_runS (As := [.ref (aO a), .int 4, .int (v.1.2.2.1 g), .int 2, .int 0]) (rest := []) hF (c_L_call_4 l D cy hl0 a v u_172 hO hR_174 (v.1.2.2.1 g) 2 0 H.size) (va_cwS 5 hts gL_holds_L_call rfl rfl rfl (by decide +kernel) ⟨Nat.le_of_ble_eq_true rfl, Nat.le_of_ble_eq_true rfl⟩) (wrX_preS hK hP hD (zz_all _) Xok_l (fun U hU hW => Gl.at hX hS (zz_free hD (zz_all _) hS hA) hU hW)) rfl rfl hl.1 rfl (lv_room (Nat.le_of_ble_eq_true rfl)) dL_holds_391 ⟨(by show _ ≤ 300; omega), (by show _ ≤ 1800; omega)⟩) hP hD hS hA (zz_all _) (fun _ => zz_all _) (fun r_176 u_177 H locs e_178 hP hD hS => ?_)
                                                  obtain ⟨x_180, hR_179⟩ : r_176 = hFS n v.1 (v.1.2.2.1 g) 2 ∧ Rep v u_177 := by rw [qFl_2 hx (bu_f hx hgn)] at e_178; exact e_178
                                                  subst x_180
                                                  have hP : va_P D vwCl (gW cy a u_177) H := hP
                                                  have hD : va_D A (gW cy a u_177) := hD
                                                  refine lv_iload hx9 hb dL_holds_394 (lv_at hl 10 rfl) ?_
                                                  refine lv_ishr hx9 hb dL_holds_396 ?_
                                                  refine lv_iconst (v := 1) hx9 hb dL_holds_397 (by decide) ?_
                                                  refine lv_iand hx9 hb dL_holds_398 ?_
                                                  refine lv_iconst (v := 1) hx9 hb dL_holds_399 (by decide) ?_
                                                  refine lv_icmp_ne (tgt := 431) hx9 hb dL_holds_400 (by decide) (fun c_181 => ?_) (fun c_181 => ?_)
                                                  · exact absurd (but_bit hx hgn) c_181
                                                  · have c_181 : (((hFS n v.1 (v.1.2.2.1 g) 2) >>> ((nI g) &&& 31)) &&& 1) = 1 := c_181
                                                    refine lv_iload hx9 hb dL_holds_403 (lv_at hl 5 rfl) ?_
                                                    refine lv_aload_n hx9 hb dL_holds_405 rfl (lv_at hl 15 rfl) ?_
                                                    refine lv_iconst (v := 4) hx9 hb dL_holds_406 (by decide) ?_
                                                    refine lv_aload_n hx9 hb dL_holds_407 rfl (lv_at hl 15 rfl) ?_
                                                    refine lv_iconst (v := 3) hx9 hb dL_holds_408 (by decide) ?_
                                                    refine lv_iload hx9 hb dL_holds_409 (lv_at hl 10 rfl) ?_
                                                    refine lv_iconst (v := 0) hx9 hb dL_holds_411 (by decide) ?_
                                                    refine lv_iconst (v := 0) hx9 hb dL_holds_412 (by decide) ?_
                                                    refine wr_i (fun w9 : BS => gW cy a w9) (va_runS (As := [.ref (aO a), .int 3, .int (nI g), .int 0, .int 0]) (rest := [.int 4, .ref (aO a), .int (hStandR n v.1 (nI g))]) hF (c_L_call_3 l D cy hl0 a v u_177 hO hR_179 (nI g) 0 0 H.size) (va_cwS 5 hts gL_holds_L_call rfl rfl rfl (by decide +kernel) ⟨Nat.le_of_ble_eq_true rfl, Nat.le_of_ble_eq_true rfl⟩) (wrX_preS hK hP hD (zz_all _) Xok_l (fun U hU hW => Gl.at hX hS (zz_free hD (zz_all _) hS hA) hU hW)) rfl rfl hl.1 rfl (lv_room (Nat.le_of_ble_eq_true rfl)) dL_holds_413 ⟨(by show _ ≤ 300; omega), (by show _ ≤ 1800; omega)⟩) hP hD hS hA (zz_all _) (fun _ => zz_all _) (fun r_182 u_183 H locs e_184 hP hD hS => ?_)
                                                    obtain ⟨x_186, hR_185⟩ : r_182 = v.1.2.2.1 g ∧ Rep v u_183 := by rw [qGu_0 hx hgn] at e_184; exact e_184
                                                    subst x_186
                                                    have hP : va_P D vwCl (gW cy a u_183) H := hP
                                                    have hD : va_D A (gW cy a u_183) := hD
                                                    refine lv_iconst (v := 0) hx9 hb dL_holds_416 (by decide) ?_
                                                    refine lv_iconst (v := 0) hx9 hb dL_holds_417 (by decide) ?_
                                                    refine wr_i (fun w9 : BS => gW cy a w9) (va_runS (As := [.ref (aO a), .int 4, .int (v.1.2.2.1 g), .int 0, .int 0]) (rest := [.int (hStandR n v.1 (nI g))]) hF (c_L_call_4 l D cy hl0 a v u_183 hO hR_185 (v.1.2.2.1 g) 0 0 H.size) (va_cwS 5 hts gL_holds_L_call rfl rfl rfl (by decide +kernel) ⟨Nat.le_of_ble_eq_true rfl, Nat.le_of_ble_eq_true rfl⟩) (wrX_preS hK hP hD (zz_all _) Xok_l (fun U hU hW => Gl.at hX hS (zz_free hD (zz_all _) hS hA) hU hW)) rfl rfl hl.1 rfl (lv_room (Nat.le_of_ble_eq_true rfl)) dL_holds_418 ⟨(by show _ ≤ 300; omega), (by show _ ≤ 1800; omega)⟩) hP hD hS hA (zz_all _) (fun _ => zz_all _) (fun r_187 u_188 H locs e_189 hP hD hS => ?_)
                                                    obtain ⟨x_191, hR_190⟩ : r_187 = hFS n v.1 (v.1.2.2.1 g) 0 ∧ Rep v u_188 := by rw [qFl_0 hx (bu_f hx hgn)] at e_189; exact e_189
                                                    subst x_191
                                                    have hP : va_P D vwCl (gW cy a u_188) H := hP
                                                    have hD : va_D A (gW cy a u_188) := hD
                                                    refine lv_iconst (v := (-1)) hx9 hb dL_holds_421 (by decide) ?_
                                                    refine lv_ixor hx9 hb dL_holds_422 ?_
                                                    refine lv_iand hx9 hb dL_holds_423 ?_
                                                    refine lv_if_ne (tgt := 431) hx9 hb dL_holds_424 (by decide) (fun c_192 => ?_) (fun c_192 => ?_)
                                                    · exact absurd (left_in hx hgn) c_192
                                                    · have c_192 : ((hStandR n v.1 (nI g)) &&& ((hFS n v.1 (v.1.2.2.1 g) 0) ^^^ ((-1)))) = 0 := c_192
                                                      refine lv_iconst (v := 1) hx9 hb dL_holds_427 (by decide) ?_
                                                      refine lv_goto (tgt := 432) hx9 hb dL_holds_428 (by decide) ?_
                                                      refine lv_istore (lv' := [(9, .int 1), (7, .int (sAG v.1.2.2.2.2.2.2.2.1 g gd)), (6, .int (sGI v.1.2.2.2.2.2.2.1 2 g hm)), (5, .int (sGI v.1.2.2.2.2.2.2.1 1 g rd)), (4, .int (sGI v.1.2.2.2.2.2.2.1 0 g wt)), (3, .int (sWR v.1.2.2.2.2.2.2.1 v.1.2.2.2.2.2.1 g ld)), (15, .int (hStandR n v.1 (nI g))), (14, .int (hReas v.1 (nI g))), (13, .int (v.1.2.2.2.2.2.2.2.1 g)), (12, .int (hWhere v.1 g)), (11, .int (v.1.2.2.2.2.2.2.1 g)), (10, .int (nI g)), (8, .int (v.1.2.1 1)), (2, .int v.1.1.2.1), (1, .int (nI n)), (0, .ref (aO a))]) hx9 hb dL_holds_432 hl (by decide) rfl (fun ls hl => ?_)
                                                      refine lv_iinc (v := nI (g + 1)) (lv' := [(10, .int (nI (g + 1))), (9, .int 1), (7, .int (sAG v.1.2.2.2.2.2.2.2.1 g gd)), (6, .int (sGI v.1.2.2.2.2.2.2.1 2 g hm)), (5, .int (sGI v.1.2.2.2.2.2.2.1 1 g rd)), (4, .int (sGI v.1.2.2.2.2.2.2.1 0 g wt)), (3, .int (sWR v.1.2.2.2.2.2.2.1 v.1.2.2.2.2.2.1 g ld)), (15, .int (hStandR n v.1 (nI g))), (14, .int (hReas v.1 (nI g))), (13, .int (v.1.2.2.2.2.2.2.2.1 g)), (12, .int (hWhere v.1 g)), (11, .int (v.1.2.2.2.2.2.2.1 g)), (8, .int (v.1.2.1 1)), (2, .int v.1.1.2.1), (1, .int (nI n)), (0, .ref (aO a))]) hx9 hb dL_holds_434 hl (k := 11) rfl (nI_add (g) 1) (by decide) rfl (fun ls hl => ?_)
                                                      refine lv_goto (tgt := 67) hx9 hb dL_holds_437 (by decide) ?_
                                                      refine W.widen (k := ck + 30) (n := cq + 180) (by omega) (by omega) ?_
                                                      exact ih (g + 1) _ _ _ _ _ (ck + 30) (cq + 180) u_188 _ _ _ (by omega) (by omega) (by omega) (by omega) (lpN_next (by omega) hv1 rfl) (lpN_next (by omega) hv2 rfl) (lpN_next (by omega) hv3 rfl) (lpN_next (by omega) hv4 rfl) (lpN_next (by omega) hv5 rfl) hR_190 hP hD hS (lv_sub hl [0, 1, 12, 2, 3, 4, 5, 6, 13, 14, 15] rfl)
                                              refine lv_iload hx9 hb dL_holds_364 (lv_at hl 9 rfl) ?_
                                              refine lv_iconst (v := 2) hx9 hb dL_holds_366 (by decide) ?_
                                              refine lv_icmp_ne (tgt := 374) hx9 hb dL_holds_367 (by decide) (fun c_193 => ?_) (fun c_193 => ?_)
                                              · have c_193 : ¬ (v.1.2.2.2.2.2.2.1 g) = 2 := c_193
                                                refine lv_iconst (v := 0) hx9 hb dL_holds_374 (by decide) ?_
                                                refine W.widen (k := ck + 16) (n := cq + 96) (by omega) (by omega) ?_
                                                refine zz_top (y := zb (v.1.2.2.2.2.2.2.1 g = 2)) (zb_f c_193) ?_
                                                exact jn_375 u_164 _ _ _ hR_166 hP hD hS (lv_sub hl [0, 1, 2, 3, 4, 5, 6, 7, 8, 9, 10, 11, 12, 13, 14, 15] rfl)
                                              · have c_193 : (v.1.2.2.2.2.2.2.1 g) = 2 := c_193
                                                refine lv_iconst (v := 1) hx9 hb dL_holds_370 (by decide) ?_
                                                refine lv_goto (tgt := 375) hx9 hb dL_holds_371 (by decide) ?_
                                                refine W.widen (k := ck + 16) (n := cq + 96) (by omega) (by omega) ?_
                                                refine zz_top (y := zb (v.1.2.2.2.2.2.2.1 g = 2)) (zb_t c_193) ?_
                                                exact jn_375 u_164 _ _ _ hR_166 hP hD hS (lv_sub hl [0, 1, 2, 3, 4, 5, 6, 7, 8, 9, 10, 11, 12, 13, 14, 15] rfl)
                                          refine lv_iload hx9 hb dL_holds_337 (lv_at hl 9 rfl) ?_
                                          refine lv_if_ne (tgt := 346) hx9 hb dL_holds_339 (by decide) (fun c_194 => ?_) (fun c_194 => ?_)
                                          · have c_194 : ¬ (v.1.2.2.2.2.2.2.1 g) = 0 := c_194
                                            refine lv_iconst (v := 0) hx9 hb dL_holds_346 (by decide) ?_
                                            refine W.widen (k := ck + 15) (n := cq + 90) (by omega) (by omega) ?_
                                            refine zz_top (y := zb (v.1.2.2.2.2.2.2.1 g = 0)) (zb_f c_194) ?_
                                            exact jn_347 u_156 _ _ _ hR_158 hP hD hS (lv_sub hl [0, 1, 2, 3, 4, 5, 6, 7, 8, 9, 10, 11, 12, 13, 14, 15] rfl)
                                          · have c_194 : (v.1.2.2.2.2.2.2.1 g) = 0 := c_194
                                            refine lv_iconst (v := 1) hx9 hb dL_holds_342 (by decide) ?_
                                            refine lv_goto (tgt := 347) hx9 hb dL_holds_343 (by decide) ?_
                                            refine W.widen (k := ck + 15) (n := cq + 90) (by omega) (by omega) ?_
                                            refine zz_top (y := zb (v.1.2.2.2.2.2.2.1 g = 0)) (zb_t c_194) ?_
                                            exact jn_347 u_156 _ _ _ hR_158 hP hD hS (lv_sub hl [0, 1, 2, 3, 4, 5, 6, 7, 8, 9, 10, 11, 12, 13, 14, 15] rfl)
                                      refine lv_iload hx9 hb dL_holds_281 (lv_at hl 9 rfl) ?_
                                      refine lv_iconst (v := 2) hx9 hb dL_holds_283 (by decide) ?_
                                      refine lv_icmp_ne (tgt := 291) hx9 hb dL_holds_284 (by decide) (fun c_195 => ?_) (fun c_195 => ?_)
                                      · have c_195 : ¬ (v.1.2.2.2.2.2.2.1 g) = 2 := c_195
                                        refine lv_iload hx9 hb dL_holds_291 (lv_at hl 7 rfl) ?_
                                        refine lv_iload hx9 hb dL_holds_293 (lv_at hl 12 rfl) ?_
                                        refine lv_icmp_lt (tgt := 302) hx9 hb dL_holds_295 (by decide) (fun c_196 => ?_) (fun c_196 => ?_)
                                        · have c_196 : (v.1.2.2.2.2.2.2.2.1 g) < (v.1.2.1 1) := c_196
                                          refine lv_aload_n hx9 hb dL_holds_302 rfl (lv_at hl 15 rfl) ?_
                                          refine lv_iconst (v := 3) hx9 hb dL_holds_303 (by decide) ?_
                                          refine lv_iload hx9 hb dL_holds_304 (lv_at hl 10 rfl) ?_
                                          refine lv_iconst (v := 0) hx9 hb dL_holds_306 (by decide) ?_
                                          refine lv_iconst (v := 0) hx9 hb dL_holds_307 (by decide) ?_
                                          refine wr_i (fun w9 : BS => gW cy a w9) (va_runS (As := [.ref (aO a), .int 3, .int (nI g), .int 0, .int 0]) (rest := [.int (hReas v.1 (nI g))]) hF (c_L_call_3 l D cy hl0 a v u_150 hO hR_151 (nI g) 0 0 H.size) (va_cwS 5 hts gL_holds_L_call rfl rfl rfl (by decide +kernel) ⟨Nat.le_of_ble_eq_true rfl, Nat.le_of_ble_eq_true rfl⟩) (wrX_preS hK hP hD (zz_all _) Xok_l (fun U hU hW => Gl.at hX hS (zz_free hD (zz_all _) hS hA) hU hW)) rfl rfl hl.1 rfl (lv_room (Nat.le_of_ble_eq_true rfl)) dL_holds_308 ⟨(by show _ ≤ 300; omega), (by show _ ≤ 1800; omega)⟩) hP hD hS hA (zz_all _) (fun _ => zz_all _) (fun r_197 u_198 H locs e_199 hP hD hS => ?_)
                                          obtain ⟨x_201, hR_200⟩ : r_197 = v.1.2.2.1 g ∧ Rep v u_198 := by rw [qGu_0 hx hgn] at e_199; exact e_199
                                          subst x_201
                                          have hP : va_P D vwCl (gW cy a u_198) H := hP
                                          have hD : va_D A (gW cy a u_198) := hD
                                          refine lv_iload_n hx9 hb dL_holds_311 rfl (lv_at hl 13 rfl) ?_
                                          refine lv_icmp_ne (tgt := 319) hx9 hb dL_holds_312 (by decide) (fun c_202 => ?_) (fun c_202 => ?_)
                                          · have c_202 : ¬ (v.1.2.2.1 g) = v.1.1.2.1 := c_202
                                            refine lv_iconst (v := 0) hx9 hb dL_holds_319 (by decide) ?_
                                            refine W.widen (k := ck + 14) (n := cq + 84) (by omega) (by omega) ?_
                                            refine zz_top (y := hReas v.1 (nI g)) (reas_0 hx hgn c_195 c_196 c_202) ?_
                                            exact jn_320 u_198 _ _ _ hR_200 hP hD hS (lv_sub hl [0, 1, 2, 3, 4, 5, 6, 7, 8, 9, 10, 11, 12, 13, 14, 15] rfl)
                                          · have c_202 : (v.1.2.2.1 g) = v.1.1.2.1 := c_202
                                            refine lv_iconst (v := 3) hx9 hb dL_holds_315 (by decide) ?_
                                            refine lv_goto (tgt := 320) hx9 hb dL_holds_316 (by decide) ?_
                                            refine W.widen (k := ck + 14) (n := cq + 84) (by omega) (by omega) ?_
                                            refine zz_top (y := hReas v.1 (nI g)) (reas_3 hx hgn c_195 c_196 c_202) ?_
                                            exact jn_320 u_198 _ _ _ hR_200 hP hD hS (lv_sub hl [0, 1, 2, 3, 4, 5, 6, 7, 8, 9, 10, 11, 12, 13, 14, 15] rfl)
                                        · have c_196 : ¬ (v.1.2.2.2.2.2.2.2.1 g) < (v.1.2.1 1) := c_196
                                          refine lv_iconst (v := 2) hx9 hb dL_holds_298 (by decide) ?_
                                          refine lv_goto (tgt := 320) hx9 hb dL_holds_299 (by decide) ?_
                                          refine W.widen (k := ck + 14) (n := cq + 84) (by omega) (by omega) ?_
                                          refine zz_top (y := hReas v.1 (nI g)) (reas_2 hx hgn c_195 c_196) ?_
                                          exact jn_320 u_150 _ _ _ hR_151 hP hD hS (lv_sub hl [0, 1, 2, 3, 4, 5, 6, 7, 8, 9, 10, 11, 12, 13, 14, 15] rfl)
                                      · have c_195 : (v.1.2.2.2.2.2.2.1 g) = 2 := c_195
                                        refine lv_iconst (v := 1) hx9 hb dL_holds_287 (by decide) ?_
                                        refine lv_goto (tgt := 320) hx9 hb dL_holds_288 (by decide) ?_
                                        refine W.widen (k := ck + 14) (n := cq + 84) (by omega) (by omega) ?_
                                        refine zz_top (y := hReas v.1 (nI g)) (reas_1 hx hgn c_195) ?_
                                        exact jn_320 u_150 _ _ _ hR_151 hP hD hS (lv_sub hl [0, 1, 2, 3, 4, 5, 6, 7, 8, 9, 10, 11, 12, 13, 14, 15] rfl)
                                    refine lv_iload hx9 hb dL_holds_268 (lv_at hl 9 rfl) ?_
                                    refine lv_iconst (v := 2) hx9 hb dL_holds_270 (by decide) ?_
                                    refine lv_icmp_ne (tgt := 279) hx9 hb dL_holds_271 (by decide) (fun c_203 => ?_) (fun c_203 => ?_)
                                    · have c_203 : ¬ (v.1.2.2.2.2.2.2.1 g) = 2 := c_203
                                      refine W.widen (k := ck + 12) (n := cq + 72) (by omega) (by omega) ?_
                                      exact jn_279 u_147 _ _ _ hR_148 hP hD hS (lv_sub hl [0, 1, 2, 3, 4, 5, 6, 7, 8, 9, 10, 11, 12, 13, 14, 15] rfl)
                                    · have c_203 : (v.1.2.2.2.2.2.2.1 g) = 2 := c_203
                                      refine lv_iload hx9 hb dL_holds_274 (lv_at hl 7 rfl) ?_
                                      refine lv_if_ne (tgt := 431) hx9 hb dL_holds_276 (by decide) (fun c_204 => ?_) (fun c_204 => ?_)
                                      · exact absurd (k6 c_203) c_204
                                      · have c_204 : (v.1.2.2.2.2.2.2.2.1 g) = 0 := c_204
                                        refine W.widen (k := ck + 12) (n := cq + 72) (by omega) (by omega) ?_
                                        exact jn_279 u_147 _ _ _ hR_148 hP hD hS (lv_sub hl [0, 1, 2, 3, 4, 5, 6, 7, 8, 9, 10, 11, 12, 13, 14, 15] rfl)
                                refine lv_icmp_ne (tgt := 264) hx9 hb dL_holds_257 (by decide) (fun c_205 => ?_) (fun c_205 => ?_)
                                · have c_205 : ¬ (hWhere v.1 g) = (v.1.2.2.2.2.1 g) := c_205
                                  refine lv_iconst (v := 0) hx9 hb dL_holds_264 (by decide) ?_
                                  refine W.widen (k := ck + 12) (n := cq + 72) (by omega) (by omega) ?_
                                  refine zz_top (y := zb (hWhere v.1 g = v.1.2.2.2.2.1 g)) (zb_f c_205) ?_
                                  exact jn_265 u_143 _ _ _ hR_145 hP hD hS (lv_sub hl [0, 1, 2, 3, 4, 5, 6, 7, 8, 9, 10, 11, 12, 13, 14, 15] rfl)
                                · have c_205 : (hWhere v.1 g) = (v.1.2.2.2.2.1 g) := c_205
                                  refine lv_iconst (v := 1) hx9 hb dL_holds_260 (by decide) ?_
                                  refine lv_goto (tgt := 265) hx9 hb dL_holds_261 (by decide) ?_
                                  refine W.widen (k := ck + 12) (n := cq + 72) (by omega) (by omega) ?_
                                  refine zz_top (y := zb (hWhere v.1 g = v.1.2.2.2.2.1 g)) (zb_t c_205) ?_
                                  exact jn_265 u_143 _ _ _ hR_145 hP hD hS (lv_sub hl [0, 1, 2, 3, 4, 5, 6, 7, 8, 9, 10, 11, 12, 13, 14, 15] rfl)
                              refine lv_iload hx9 hb dL_holds_235 (lv_at hl 9 rfl) ?_
                              refine lv_iconst (v := 2) hx9 hb dL_holds_237 (by decide) ?_
                              refine lv_icmp_ne (tgt := 245) hx9 hb dL_holds_238 (by decide) (fun c_206 => ?_) (fun c_206 => ?_)
                              · have c_206 : ¬ (v.1.2.2.2.2.2.2.1 g) = 2 := c_206
                                refine lv_iconst (v := 0) hx9 hb dL_holds_245 (by decide) ?_
                                refine W.widen (k := ck + 10) (n := cq + 60) (by omega) (by omega) ?_
                                refine zz_top (y := zb (v.1.2.2.2.2.2.2.1 g = 2)) (zb_f c_206) ?_
                                exact jn_246 u_138 _ _ _ hR_139 hP hD hS (lv_sub hl [0, 1, 2, 3, 4, 5, 6, 7, 8, 9, 10, 11, 12, 13, 14, 15] rfl)
                              · have c_206 : (v.1.2.2.2.2.2.2.1 g) = 2 := c_206
                                refine lv_iconst (v := 1) hx9 hb dL_holds_241 (by decide) ?_
                                refine lv_goto (tgt := 246) hx9 hb dL_holds_242 (by decide) ?_
                                refine W.widen (k := ck + 10) (n := cq + 60) (by omega) (by omega) ?_
                                refine zz_top (y := zb (v.1.2.2.2.2.2.2.1 g = 2)) (zb_t c_206) ?_
                                exact jn_246 u_138 _ _ _ hR_139 hP hD hS (lv_sub hl [0, 1, 2, 3, 4, 5, 6, 7, 8, 9, 10, 11, 12, 13, 14, 15] rfl)
                            refine lv_iload hx9 hb dL_holds_223 (lv_at hl 9 rfl) ?_
                            refine lv_iconst (v := 1) hx9 hb dL_holds_225 (by decide) ?_
                            refine lv_icmp_ne (tgt := 235) hx9 hb dL_holds_226 (by decide) (fun c_207 => ?_) (fun c_207 => ?_)
                            · have c_207 : ¬ (v.1.2.2.2.2.2.2.1 g) = 1 := c_207
                              refine W.widen (k := ck + 10) (n := cq + 60) (by omega) (by omega) ?_
                              exact jn_235 u_134 _ _ _ hR_135 hP hD hS (lv_sub hl [0, 1, 2, 3, 4, 5, 6, 7, 8, 9, 10, 11, 12, 13, 14, 15] rfl)
                            · have c_207 : (v.1.2.2.2.2.2.2.1 g) = 1 := c_207
                              refine lv_iload hx9 hb dL_holds_229 (lv_at hl 8 rfl) ?_
                              refine lv_iload_n hx9 hb dL_holds_231 rfl (lv_at hl 13 rfl) ?_
                              refine lv_icmp_ne (tgt := 431) hx9 hb dL_holds_232 (by decide) (fun c_208 => ?_) (fun c_208 => ?_)
                              · exact absurd (where_1 c_207) c_208
                              · have c_208 : (hWhere v.1 g) = v.1.1.2.1 := c_208
                                refine W.widen (k := ck + 10) (n := cq + 60) (by omega) (by omega) ?_
                                exact jn_235 u_134 _ _ _ hR_135 hP hD hS (lv_sub hl [0, 1, 2, 3, 4, 5, 6, 7, 8, 9, 10, 11, 12, 13, 14, 15] rfl)
                      refine lv_iload hx9 hb dL_holds_190 (lv_at hl 7 rfl) ?_
                      refine lv_iconst (v := 2) hx9 hb dL_holds_192 (by decide) ?_
                      refine lv_icmp_ne (tgt := 200) hx9 hb dL_holds_193 (by decide) (fun c_209 => ?_) (fun c_209 => ?_)
                      · have c_209 : ¬ (v.1.2.2.2.2.2.2.1 g) = 2 := c_209
                        refine lv_iconst (v := 0) hx9 hb dL_holds_200 (by decide) ?_
                        refine W.widen (k := ck + 10) (n := cq + 60) (by omega) (by omega) ?_
                        refine zz_top (y := if v.1.2.2.2.2.2.2.1 g = 2 then 1 else 0) ((if_neg c_209).symm) ?_
                        exact jn_201 u_132 _ _ _ hR_133 hP hD hS (lv_sub hl [0, 1, 2, 3, 4, 5, 6, 7, 8, 9, 10, 11, 12, 13, 14, 15] rfl)
                      · have c_209 : (v.1.2.2.2.2.2.2.1 g) = 2 := c_209
                        refine lv_iconst (v := 1) hx9 hb dL_holds_196 (by decide) ?_
                        refine lv_goto (tgt := 201) hx9 hb dL_holds_197 (by decide) ?_
                        refine W.widen (k := ck + 10) (n := cq + 60) (by omega) (by omega) ?_
                        refine zz_top (y := if v.1.2.2.2.2.2.2.1 g = 2 then 1 else 0) ((if_pos c_209).symm) ?_
                        exact jn_201 u_132 _ _ _ hR_133 hP hD hS (lv_sub hl [0, 1, 2, 3, 4, 5, 6, 7, 8, 9, 10, 11, 12, 13, 14, 15] rfl)
                    refine lv_iload hx9 hb dL_holds_174 (lv_at hl 6 rfl) ?_
                    refine lv_iconst (v := 1) hx9 hb dL_holds_176 (by decide) ?_
                    refine lv_icmp_ne (tgt := 184) hx9 hb dL_holds_177 (by decide) (fun c_210 => ?_) (fun c_210 => ?_)
                    · have c_210 : ¬ (v.1.2.2.2.2.2.2.1 g) = 1 := c_210
                      refine lv_iconst (v := 0) hx9 hb dL_holds_184 (by decide) ?_
                      refine W.widen (k := ck + 10) (n := cq + 60) (by omega) (by omega) ?_
                      refine zz_top (y := if v.1.2.2.2.2.2.2.1 g = 1 then 1 else 0) ((if_neg c_210).symm) ?_
                      exact jn_185 u_130 _ _ _ hR_131 hP hD hS (lv_sub hl [0, 1, 2, 3, 4, 5, 6, 7, 8, 9, 10, 11, 12, 13, 14, 15] rfl)
                    · have c_210 : (v.1.2.2.2.2.2.2.1 g) = 1 := c_210
                      refine lv_iconst (v := 1) hx9 hb dL_holds_180 (by decide) ?_
                      refine lv_goto (tgt := 185) hx9 hb dL_holds_181 (by decide) ?_
                      refine W.widen (k := ck + 10) (n := cq + 60) (by omega) (by omega) ?_
                      refine zz_top (y := if v.1.2.2.2.2.2.2.1 g = 1 then 1 else 0) ((if_pos c_210).symm) ?_
                      exact jn_185 u_130 _ _ _ hR_131 hP hD hS (lv_sub hl [0, 1, 2, 3, 4, 5, 6, 7, 8, 9, 10, 11, 12, 13, 14, 15] rfl)
                  refine lv_iload hx9 hb dL_holds_159 (lv_at hl 5 rfl) ?_
                  refine lv_if_ne (tgt := 168) hx9 hb dL_holds_161 (by decide) (fun c_211 => ?_) (fun c_211 => ?_)
                  · have c_211 : ¬ (v.1.2.2.2.2.2.2.1 g) = 0 := c_211
                    refine lv_iconst (v := 0) hx9 hb dL_holds_168 (by decide) ?_
                    refine W.widen (k := ck + 10) (n := cq + 60) (by omega) (by omega) ?_
                    refine zz_top (y := if v.1.2.2.2.2.2.2.1 g = 0 then 1 else 0) ((if_neg c_211).symm) ?_
                    exact jn_169 u_128 _ _ _ hR_129 hP hD hS (lv_sub hl [0, 1, 2, 3, 4, 5, 6, 7, 8, 9, 10, 11, 12, 13, 14, 15] rfl)
                  · have c_211 : (v.1.2.2.2.2.2.2.1 g) = 0 := c_211
                    refine lv_iconst (v := 1) hx9 hb dL_holds_164 (by decide) ?_
                    refine lv_goto (tgt := 169) hx9 hb dL_holds_165 (by decide) ?_
                    refine W.widen (k := ck + 10) (n := cq + 60) (by omega) (by omega) ?_
                    refine zz_top (y := if v.1.2.2.2.2.2.2.1 g = 0 then 1 else 0) ((if_pos c_211).symm) ?_
                    exact jn_169 u_128 _ _ _ hR_129 hP hD hS (lv_sub hl [0, 1, 2, 3, 4, 5, 6, 7, 8, 9, 10, 11, 12, 13, 14, 15] rfl)
                refine lv_iload hx9 hb dL_holds_136 (lv_at hl 4 rfl) ?_
                refine lv_iconst (v := 1) hx9 hb dL_holds_138 (by decide) ?_
                refine lv_icmp_ne (tgt := 154) hx9 hb dL_holds_139 (by decide) (fun c_212 => ?_) (fun c_212 => ?_)
                · have c_212 : ¬ (v.1.2.2.2.2.2.2.1 g) = 1 := c_212
                  refine lv_iconst (v := 0) hx9 hb dL_holds_154 (by decide) ?_
                  refine W.widen (k := ck + 10) (n := cq + 60) (by omega) (by omega) ?_
                  refine zz_top (y := if v.1.2.2.2.2.2.2.1 g = 1 then v.1.2.2.2.2.2.1 g else 0) ((if_neg c_212).symm) ?_
                  exact jn_155 u_124 _ _ _ hR_126 hP hD hS (lv_sub hl [0, 1, 2, 3, 4, 5, 6, 7, 8, 9, 10, 11, 12, 13, 14, 15] rfl)
                · have c_212 : (v.1.2.2.2.2.2.2.1 g) = 1 := c_212
                  refine lv_aload_n hx9 hb dL_holds_142 rfl (lv_at hl 15 rfl) ?_
                  refine lv_iconst (v := 3) hx9 hb dL_holds_143 (by decide) ?_
                  refine lv_iload hx9 hb dL_holds_144 (lv_at hl 5 rfl) ?_
                  refine lv_iconst (v := 2) hx9 hb dL_holds_146 (by decide) ?_
                  refine lv_iconst (v := 0) hx9 hb dL_holds_147 (by decide) ?_
                  refine wr_i (fun w9 : BS => gW cy a w9) (va_runS (As := [.ref (aO a), .int 3, .int (nI g), .int 2, .int 0]) (rest := [.int ld]) hF (c_L_call_3 l D cy hl0 a v u_124 hO hR_126 (nI g) 2 0 H.size) (va_cwS 5 hts gL_holds_L_call rfl rfl rfl (by decide +kernel) ⟨Nat.le_of_ble_eq_true rfl, Nat.le_of_ble_eq_true rfl⟩) (wrX_preS hK hP hD (zz_all _) Xok_l (fun U hU hW => Gl.at hX hS (zz_free hD (zz_all _) hS hA) hU hW)) rfl rfl hl.1 rfl (lv_room (Nat.le_of_ble_eq_true rfl)) dL_holds_148 ⟨(by show _ ≤ 300; omega), (by show _ ≤ 1800; omega)⟩) hP hD hS hA (zz_all _) (fun _ => zz_all _) (fun r_213 u_214 H locs e_215 hP hD hS => ?_)
                  obtain ⟨x_217, hR_216⟩ : r_213 = v.1.2.2.2.2.2.1 g ∧ Rep v u_214 := by rw [qGu_2 hx hgn] at e_215; exact e_215
                  subst x_217
                  have hP : va_P D vwCl (gW cy a u_214) H := hP
                  have hD : va_D A (gW cy a u_214) := hD
                  refine lv_goto (tgt := 155) hx9 hb dL_holds_151 (by decide) ?_
                  refine W.widen (k := ck + 10) (n := cq + 60) (by omega) (by omega) ?_
                  refine zz_top (y := if v.1.2.2.2.2.2.2.1 g = 1 then v.1.2.2.2.2.2.1 g else 0) ((if_pos c_212).symm) ?_
                  exact jn_155 u_214 _ _ _ hR_216 hP hD hS (lv_sub hl [0, 1, 2, 3, 4, 5, 6, 7, 8, 9, 10, 11, 12, 13, 14, 15] rfl)
        refine W.widen (k := 3) (n := 18) (by omega) (by omega) ?_
        exact loop (n + 1) 0 0 0 0 0 0 (3) (18) u_12 _ _ _ (Nat.zero_le _) (by omega) (by omega) (by omega) rfl rfl rfl rfl rfl hR_14 hP hD hS (lv_sub hl [0, 1, 2, 3, 4, 5, 6, 7, 8, 9, 10] rfl)
