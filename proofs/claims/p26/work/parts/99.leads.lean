abbrev rm_L_leads : Room := { frames := 14, cells := 300, slots := 1700, locals := 317 }
set_option maxHeartbeats 4000000 in
set_option maxRecDepth 100000 in
/-- by the best presses all come home, in as many as was told; no other first press does it in fewer; undone, all is as before -/
theorem c_L_leads (l : Launch) (D : va_G) (cy : Nat → ClassId) (hl0 : l.stackTraces = false) (a c9 : AD) (v : AV) (u w : BS) (B : Nat) (hI : Inv B v) (hR : Rep v u) (hR2 : Rep v w) (sz : Nat) : bMet l yL_leads wsL_leads rm_L_leads D cy a c9 [] u w sz (fun (r : Int32) (w : BS × BS) => r = 1 ∧ ∃ v2, Sfx v2 v ∧ Rep v2 w.1 ∧ Rep v2 w.2) 300 1700 := by
  refine MwiX (cc := cL_leads) (maxL := 8) (ty := .boolean) (by decide) rfl (Nat.le_of_ble_eq_true rfl) (fun _ _ q => by rw [q.1]; rfl) ?_
  intro p e s m args below meth c Q ls A hAe hsz hX0 hF hK hP hD hA hl hret
  rw [← hsz, ← hAe] at hX0
  have hX : Gl A s := hX0
  obtain ⟨hx9, hb, hml, hown, hts⟩ := id hF
  have hown : s.vm.findClass RL = some m.cls := hown
  have hl : lv_has ls 8 [(0, .ref (aO a)), (1, .ref (aO c9))] := hl
  have hret : ∀ (pc : Nat) (ls : Array Slot) (H : Heap) (locs : List Loc) (r : Int32) (u : BS × BS), decode cL_leads pc = .ok (.ireturn, 1) → va_P D vwCl (gW cy a u.1 ++ gW cy c9 u.2) H → va_D A (gW cy a u.1 ++ gW cy c9 u.2) → va_S A s.heap H locs → (fun (r : Int32) (w : BS × BS) => r = 1 ∧ ∃ v2, Sfx v2 v ∧ Rep v2 w.1 ∧ Rep v2 w.2) r u → W p l e rm_L_leads s m args below meth c H locs 300 1700 Q (F0 m pc ls [.int r]) := hret
  obtain ⟨n, hn1, hx⟩ := hI.1
  have hO := hI.Ok
  obtain ⟨hn, hgu, hok⟩ := hx.ok
  obtain ⟨mm, hmm, hfew⟩ := few_num n v.1
  suffices key : ∀ (H : Heap) (locs : List Loc), va_P D vwCl (gW cy a u ++ gW cy c9 w) H → va_D A (gW cy a u ++ gW cy c9 w) → va_S A s.heap H locs → W p l e rm_L_leads s m args below meth c H locs 0 0 Q (F0 m 0 ls []) from key s.heap [] hP hD va_S.rf
  intro H locs hP hD hS
  refine lv_aload_n hx9 hb dL_leads_0 rfl (lv_at hl 0 rfl) ?_
  refine lv_bipush (v := 11) hx9 hb dL_leads_1 (by decide) ?_
  refine lv_iconst (v := 0) hx9 hb dL_leads_3 (by decide) ?_
  refine lv_iconst (v := 0) hx9 hb dL_leads_4 (by decide) ?_
  refine lv_iconst (v := 0) hx9 hb dL_leads_5 (by decide) ?_
  refine wr_i (fun w9 : BS => gW cy a w9 ++ gW cy c9 w) (va_runS (As := [.ref (aO a), .int 11, .int 0, .int 0, .int 0]) (rest := []) hF (c_L_call_11 l D cy hl0 a v u hO hR 0 0 0 H.size) (va_cwS 5 hts gL_leads_L_call rfl rfl rfl (by decide +kernel) ⟨Nat.le_of_ble_eq_true rfl, Nat.le_of_ble_eq_true rfl⟩) (wrX_preS hK hP hD (List.Perm.refl _) Xok_l (fun U hU hW => Gl.at hX hS (zz_free hD (List.Perm.refl _) hS hA) hU hW)) rfl rfl hl.1 rfl (lv_room (Nat.le_of_ble_eq_true rfl)) dL_leads_6 ⟨Nat.le_of_ble_eq_true rfl, Nat.le_of_ble_eq_true rfl⟩) hP hD hS hA (List.Perm.refl _) (fun _ => List.Perm.refl _) (fun r_1 u_2 H locs e_3 hP hD hS => ?_)
  obtain ⟨x_5, hR_4⟩ : r_1 = hFew n v.1 ∧ Rep v u_2 := by rw [qFe_0 hx] at e_3; exact e_3
  subst x_5
  have hP : va_P D vwCl (gW cy a u_2 ++ gW cy c9 w) H := hP
  have hD : va_D A (gW cy a u_2 ++ gW cy c9 w) := hD
  refine lv_istore_n (lv' := [(2, .int (hFew n v.1)), (0, .ref (aO a)), (1, .ref (aO c9))]) hx9 hb dL_leads_9 rfl hl (by decide) rfl (fun ls hl => ?_)
  refine lv_aload_n hx9 hb dL_leads_10 rfl (lv_at hl 1 rfl) ?_
  refine wr_i (fun w9 : BS => gW cy a w9 ++ gW cy c9 w) (va_runV (As := []) (rest := []) hF (m_best l D cy hl0 a v u_2 hO hR_4 H.size) (cwV 0 hts gL_leads_X7_best rfl rfl rfl (by decide +kernel) ⟨Nat.le_of_ble_eq_true rfl, Nat.le_of_ble_eq_true rfl⟩) (wrX_preV hK hP hD (List.Perm.refl _) 0 4 rfl rfl rfl Xok_x (fun U hU hW => Gx.at hX.1 hS (zz_free hD (List.Perm.refl _) hS hA) hU hW)) rfl rfl hl.1 rfl (lv_room (Nat.le_of_ble_eq_true rfl)) dL_leads_11 ⟨Nat.le_of_ble_eq_true rfl, Nat.le_of_ble_eq_true rfl⟩) hP hD hS hA (List.Perm.refl _) (fun _ => List.Perm.refl _) (fun r_6 u_7 H locs e_8 hP hD hS => ?_)
  obtain ⟨x_10, hR_9⟩ : r_6 = hBst n v.1 ∧ Rep v u_7 := by rw [Hx.n hx] at e_8; exact e_8
  subst x_10
  have hP : va_P D vwCl (gW cy a u_7 ++ gW cy c9 w) H := hP
  have hD : va_D A (gW cy a u_7 ++ gW cy c9 w) := hD
  refine lv_istore_n (lv' := [(3, .int (hBst n v.1)), (2, .int (hFew n v.1)), (0, .ref (aO a)), (1, .ref (aO c9))]) hx9 hb dL_leads_14 rfl hl (by decide) rfl (fun ls hl => ?_)
  refine lv_aload_n hx9 hb dL_leads_15 rfl (lv_at hl 2 rfl) ?_
  refine lv_iconst (v := 2) hx9 hb dL_leads_16 (by decide) ?_
  refine lv_iconst (v := 0) hx9 hb dL_leads_17 (by decide) ?_
  refine lv_iconst (v := 0) hx9 hb dL_leads_18 (by decide) ?_
  refine lv_iconst (v := 0) hx9 hb dL_leads_19 (by decide) ?_
  refine wr_i (fun w9 : BS => gW cy a w9 ++ gW cy c9 w) (va_runS (As := [.ref (aO a), .int 2, .int 0, .int 0, .int 0]) (rest := []) hF (c_L_call_2 l D cy hl0 a v u_7 hO hR_9 0 0 0 H.size) (va_cwS 5 hts gL_leads_L_call rfl rfl rfl (by decide +kernel) ⟨Nat.le_of_ble_eq_true rfl, Nat.le_of_ble_eq_true rfl⟩) (wrX_preS hK hP hD (List.Perm.refl _) Xok_l (fun U hU hW => Gl.at hX hS (zz_free hD (List.Perm.refl _) hS hA) hU hW)) rfl rfl hl.1 rfl (lv_room (Nat.le_of_ble_eq_true rfl)) dL_leads_20 ⟨Nat.le_of_ble_eq_true rfl, Nat.le_of_ble_eq_true rfl⟩) hP hD hS hA (List.Perm.refl _) (fun _ => List.Perm.refl _) (fun r_11 u_12 H locs e_13 hP hD hS => ?_)
  obtain ⟨x_15, hR_14⟩ : r_11 = nI n ∧ Rep v u_12 := by rw [qAb_0 hx] at e_13; exact e_13
  subst x_15
  have hP : va_P D vwCl (gW cy a u_12 ++ gW cy c9 w) H := hP
  have hD : va_D A (gW cy a u_12 ++ gW cy c9 w) := hD
  refine lv_istore (lv' := [(4, .int (nI n)), (3, .int (hBst n v.1)), (2, .int (hFew n v.1)), (0, .ref (aO a)), (1, .ref (aO c9))]) hx9 hb dL_leads_23 hl (by decide) rfl (fun ls hl => ?_)
  refine lv_iconst (v := 1) hx9 hb dL_leads_25 (by decide) ?_
  refine lv_istore (lv' := [(5, .int 1), (4, .int (nI n)), (3, .int (hBst n v.1)), (2, .int (hFew n v.1)), (0, .ref (aO a)), (1, .ref (aO c9))]) hx9 hb dL_leads_26 hl (by decide) rfl (fun ls hl => ?_)
  refine lv_iconst (v := 0) hx9 hb dL_leads_28 (by decide) ?_
  refine lv_istore (lv' := [(6, .int 0), (5, .int 1), (4, .int (nI n)), (3, .int (hBst n v.1)), (2, .int (hFew n v.1)), (0, .ref (aO a)), (1, .ref (aO c9))]) hx9 hb dL_leads_29 hl (by decide) rfl (fun ls hl => ?_)
  have loop1 : ∀ (k g : Nat) (vv : AV) (ck cq : Nat), ∀ (u_o : BS) (u_q : BS) (H : Heap) (locs : List Loc) (ls : Array Slot), g ≤ n → n + 1 ≤ g + k → ck + 30 * (n - g) ≤ 130 → cq + 160 * (n - g) ≤ 700 → Sfx vv v → Rep vv u_o → Rep vv u_q → va_P D vwCl (gW cy a u_o ++ gW cy c9 u_q) H → va_D A (gW cy a u_o ++ gW cy c9 u_q) → va_S A s.heap H locs → lv_has ls 8 [(6, .int (nI g)), (5, .int 1), (4, .int (nI n)), (3, .int (hBst n v.1)), (2, .int (hFew n v.1)), (0, .ref (aO a)), (1, .ref (aO c9))] → W p l e rm_L_leads s m args below meth c H locs ck cq Q (F0 m 31 ls []) := by
    intro k
    induction k with
    | zero =>
      intro g vv ck cq u_o u_q H locs ls hg9 hk hc1 hc2 hsf hR_o hR_q hP hD hS hl
      exact absurd hk (by omega)
    | succ k ih =>
      intro g vv ck cq u_o u_q H locs ls hg9 hk hc1 hc2 hsf hR_o hR_q hP hD hS hl
      have hIv := hI.sfx hsf
      have hOv := hIv.Ok
      have e1 : vv.1 = v.1 := hsf.1
      have hxv : Hx B n vv.1 := by rw [e1]; exact hx
      refine lv_iload hx9 hb dL_leads_31 (lv_at hl 0 rfl) ?_
      refine lv_iload hx9 hb dL_leads_33 (lv_at hl 2 rfl) ?_
      refine lv_icmp_ge (tgt := 218) hx9 hb dL_leads_35 (by decide) (fun c_16 => ?_) (fun c_16 => ?_)
      · have c_16 : n ≤ g := (nI_leI (a := n) (b := g) (by omega) (by omega)).mp c_16
        refine lv_iconst (v := 0) hx9 hb dL_leads_218 (by decide) ?_
        refine lv_istore (lv' := [(6, .int 0), (5, .int 1), (4, .int (nI n)), (3, .int (hBst n v.1)), (2, .int (hFew n v.1)), (0, .ref (aO a)), (1, .ref (aO c9))]) hx9 hb dL_leads_219 hl (by decide) rfl (fun ls hl => ?_)
        have loop2 : ∀ (k j : Nat) (w3 : AV) (ck cq : Nat), ∀ (u_o : BS) (u_q : BS) (H : Heap) (locs : List Loc) (ls : Array Slot), j ≤ mm → mm + 1 ≤ j + k → ck + 24 * (mm - j) ≤ 260 → cq + 120 * (mm - j) ≤ 1400 → Bk j w3 vv → Hx (B + j) n w3.1 → hFew n w3.1 = nI (mm - j) ∨ mm = 0 → (∀ q9 ∈ w3.2.1, OkH q9) → Rep w3 u_o → Rep w3 u_q → va_P D vwCl (gW cy a u_o ++ gW cy c9 u_q) H → va_D A (gW cy a u_o ++ gW cy c9 u_q) → va_S A s.heap H locs → lv_has ls 8 [(6, .int (nI j)), (5, .int 1), (4, .int (nI n)), (3, .int (hBst n v.1)), (2, .int (hFew n v.1)), (0, .ref (aO a)), (1, .ref (aO c9))] → W p l e rm_L_leads s m args below meth c H locs ck cq Q (F0 m 221 ls []) := by
          intro k
          induction k with
          | zero =>
            intro j w3 ck cq u_o u_q H locs ls hj9 hk hc1 hc2 hbk hx3 hf3 hm3 hR_o hR_q hP hD hS hl
            exact absurd hk (by omega)
          | succ k ih =>
            intro j w3 ck cq u_o u_q H locs ls hj9 hk hc1 hc2 hbk hx3 hf3 hm3 hR_o hR_q hP hD hS hl
            have hO3 : Okv w3 := ⟨hx3.O, by rw [bk_len hbk]; exact hOv.2.1, by rw [bk_len hbk]; exact hOv.2.2⟩
            refine lv_iload hx9 hb dL_leads_221 (lv_at hl 0 rfl) ?_
            refine lv_iload_n hx9 hb dL_leads_223 rfl (lv_at hl 4 rfl) ?_
            refine lv_icmp_ge (tgt := 277) hx9 hb dL_leads_224 (by decide) (fun c_17 => ?_) (fun c_17 => ?_)
            · have c_17 : (hFew n v.1) ≤ (nI j) := c_17
              have hjm : mm = j := by
                have z := num_ge hmm hfew (by omega) c_17
                omega
              refine lv_iload hx9 hb dL_leads_277 (lv_at hl 1 rfl) ?_
              refine lv_if_eq (tgt := 303) hx9 hb dL_leads_279 (by decide) (fun c_18 => ?_) (fun c_18 => ?_)
              · exact absurd c_18 (by decide)
              · have jn_299 : ∀ (u_19 : BS) (u_21 : BS) (H : Heap) (locs : List Loc) (ls : Array Slot), Rep w3 u_19 → Rep w3 u_21 → va_P D vwCl (gW cy a u_19 ++ gW cy c9 u_21) H → va_D A (gW cy a u_19 ++ gW cy c9 u_21) → va_S A s.heap H locs → lv_has ls 8 [(6, .int (nI j)), (5, .int 1), (4, .int (nI n)), (3, .int (hBst n v.1)), (2, .int (hFew n v.1)), (0, .ref (aO a)), (1, .ref (aO c9))] → W p l e rm_L_leads s m args below meth c H locs (ck + 1) (cq + 6) Q (F0 m 299 ls []) := by
                  intro u_19 u_21 H locs ls hR_20 hR_22 hP hD hS hl
                  refine lv_iconst (v := 1) hx9 hb dL_leads_299 (by decide) ?_
                  refine lv_goto (tgt := 304) hx9 hb dL_leads_300 (by decide) ?_
                  refine lv_istore (lv' := [(5, .int 1), (6, .int (nI j)), (4, .int (nI n)), (3, .int (hBst n v.1)), (2, .int (hFew n v.1)), (0, .ref (aO a)), (1, .ref (aO c9))]) hx9 hb dL_leads_304 hl (by decide) rfl (fun ls hl => ?_)
                  refine lv_iconst (v := 0) hx9 hb dL_leads_306 (by decide) ?_
                  refine lv_istore (lv' := [(6, .int 0), (5, .int 1), (4, .int (nI n)), (3, .int (hBst n v.1)), (2, .int (hFew n v.1)), (0, .ref (aO a)), (1, .ref (aO c9))]) hx9 hb dL_leads_307 hl (by decide) rfl (fun ls hl => ?_)
                  have loop3 : ∀ (k i : Nat) (w4 : AV) (ck cq : Nat), ∀ (u_o : BS) (u_q : BS) (H : Heap) (locs : List Loc) (ls : Array Slot), i ≤ mm → mm + 1 ≤ i + k → ck + 3 * (mm - i) ≤ 290 → cq + 15 * (mm - i) ≤ 1600 → Bk (mm - i) w4 vv → Okv w4 → (∀ q9 ∈ w4.2.1, OkH q9) → Rep w4 u_o → Rep w4 u_q → va_P D vwCl (gW cy a u_o ++ gW cy c9 u_q) H → va_D A (gW cy a u_o ++ gW cy c9 u_q) → va_S A s.heap H locs → lv_has ls 8 [(6, .int (nI i)), (5, .int 1), (4, .int (nI n)), (3, .int (hBst n v.1)), (2, .int (hFew n v.1)), (0, .ref (aO a)), (1, .ref (aO c9))] → W p l e rm_L_leads s m args below meth c H locs ck cq Q (F0 m 309 ls []) := by
                    intro k
                    induction k with
                    | zero =>
                      intro i w4 ck cq u_o u_q H locs ls hi9 hk hc1 hc2 hbk4 hO4 hm4 hR_o hR_q hP hD hS hl
                      exact absurd hk (by omega)
                    | succ k ih =>
                      intro i w4 ck cq u_o u_q H locs ls hi9 hk hc1 hc2 hbk4 hO4 hm4 hR_o hR_q hP hD hS hl
                      refine lv_iload hx9 hb dL_leads_309 (lv_at hl 0 rfl) ?_
                      refine lv_iload_n hx9 hb dL_leads_311 rfl (lv_at hl 4 rfl) ?_
                      refine lv_icmp_ge (tgt := 363) hx9 hb dL_leads_312 (by decide) (fun c_23 => ?_) (fun c_23 => ?_)
                      · have c_23 : (hFew n v.1) ≤ (nI i) := c_23
                        have him : mm = i := by
                          have z := num_ge hmm hfew (by omega) c_23
                          omega
                        rw [him, Nat.sub_self] at hbk4
                        have hsf4 : Sfx w4 v := (bk_end hbk4).tr hsf
                        have hx6 : Hx B n w4.1 := by rw [hsf4.1]; exact hx
                        refine lv_iload hx9 hb dL_leads_363 (lv_at hl 1 rfl) ?_
                        refine lv_if_eq (tgt := 385) hx9 hb dL_leads_365 (by decide) (fun c_24 => ?_) (fun c_24 => ?_)
                        · exact absurd c_24 (by decide)
                        · refine lv_aload_n hx9 hb dL_leads_368 rfl (lv_at hl 5 rfl) ?_
                          refine lv_bipush (v := 11) hx9 hb dL_leads_369 (by decide) ?_
                          refine lv_iconst (v := 0) hx9 hb dL_leads_371 (by decide) ?_
                          refine lv_iconst (v := 0) hx9 hb dL_leads_372 (by decide) ?_
                          refine lv_iconst (v := 0) hx9 hb dL_leads_373 (by decide) ?_
                          refine wr_i (fun w9 : BS => gW cy a w9 ++ gW cy c9 u_q) (va_runS (As := [.ref (aO a), .int 11, .int 0, .int 0, .int 0]) (rest := []) hF (c_L_call_11 l D cy hl0 a w4 u_o hO4 hR_o 0 0 0 H.size) (va_cwS 5 hts gL_leads_L_call rfl rfl rfl (by decide +kernel) ⟨Nat.le_of_ble_eq_true rfl, Nat.le_of_ble_eq_true rfl⟩) (wrX_preS hK hP hD (List.Perm.refl _) Xok_l (fun U hU hW => Gl.at hX hS (zz_free hD (List.Perm.refl _) hS hA) hU hW)) rfl rfl hl.1 rfl (lv_room (Nat.le_of_ble_eq_true rfl)) dL_leads_374 ⟨(by show _ ≤ 300; omega), (by show _ ≤ 1700; omega)⟩) hP hD hS hA (List.Perm.refl _) (fun _ => List.Perm.refl _) (fun r_25 u_26 H locs e_27 hP hD hS => ?_)
                          obtain ⟨x_29, hR_28⟩ : r_25 = hFew n v.1 ∧ Rep w4 u_26 := by rw [qFe_0 hx6, hsf4.1] at e_27; exact e_27
                          subst x_29
                          have hP : va_P D vwCl (gW cy a u_26 ++ gW cy c9 u_q) H := hP
                          have hD : va_D A (gW cy a u_26 ++ gW cy c9 u_q) := hD
                          refine lv_iload_n hx9 hb dL_leads_377 rfl (lv_at hl 4 rfl) ?_
                          refine lv_icmp_ne (tgt := 385) hx9 hb dL_leads_378 (by decide) (fun c_30 => ?_) (fun c_30 => ?_)
                          · exact absurd rfl c_30
                          · have c_30 : (hFew n v.1) = (hFew n v.1) := c_30
                            refine lv_iconst (v := 1) hx9 hb dL_leads_381 (by decide) ?_
                            refine lv_goto (tgt := 386) hx9 hb dL_leads_382 (by decide) ?_
                            refine W.widen (k := 300) (n := 1700) (by omega) (by omega) ?_
                            exact hret _ _ H locs _ (u_26, u_q) dL_leads_386 hP hD hS ⟨rfl, w4, hsf4, hR_28, hR_q⟩
                      · have c_23 : ¬ (hFew n v.1) ≤ (nI i) := c_23
                        obtain ⟨him, -⟩ := num_lt hmm hfew (by omega) c_23
                        obtain ⟨⟨ua, hua, eua⟩, hbk5⟩ := bk_pop (k := mm - i - 1) (w := w4) (v := vv) (by rw [show mm - i - 1 + 1 = mm - i by omega]; exact hbk4)
                        obtain ⟨hO5, hm5⟩ := undo_ok hO4 hm4
                        obtain ⟨v5, hv5⟩ : ∃ v5, v5 = (aUndo w4).2 := ⟨_, rfl⟩
                        rw [← hv5] at hbk5 hO5 hm5
                        refine lv_iload hx9 hb dL_leads_315 (lv_at hl 1 rfl) ?_
                        refine lv_if_eq (tgt := 363) hx9 hb dL_leads_317 (by decide) (fun c_31 => ?_) (fun c_31 => ?_)
                        · exact absurd c_31 (by decide)
                        · refine lv_aload_n hx9 hb dL_leads_320 rfl (lv_at hl 5 rfl) ?_
                          refine lv_bipush (v := 9) hx9 hb dL_leads_321 (by decide) ?_
                          refine lv_iconst (v := 0) hx9 hb dL_leads_323 (by decide) ?_
                          refine lv_iconst (v := 0) hx9 hb dL_leads_324 (by decide) ?_
                          refine lv_iconst (v := 0) hx9 hb dL_leads_325 (by decide) ?_
                          refine wr_i (fun w9 : BS => gW cy a w9 ++ gW cy c9 u_q) (va_runS (As := [.ref (aO a), .int 9, .int 0, .int 0, .int 0]) (rest := []) hF (c_L_call_9 l D cy hl0 a w4 u_o hO4 hR_o 0 0 0 H.size) (va_cwS 5 hts gL_leads_L_call rfl rfl rfl (by decide +kernel) ⟨Nat.le_of_ble_eq_true rfl, Nat.le_of_ble_eq_true rfl⟩) (wrX_preS hK hP hD (List.Perm.refl _) Xok_l (fun U hU hW => Gl.at hX hS (zz_free hD (List.Perm.refl _) hS hA) hU hW)) rfl rfl hl.1 rfl (lv_room (Nat.le_of_ble_eq_true rfl)) dL_leads_326 ⟨(by show _ ≤ 300; omega), (by show _ ≤ 1700; omega)⟩) hP hD hS hA (List.Perm.refl _) (fun _ => List.Perm.refl _) (fun r_32 u_33 H locs e_34 hP hD hS => ?_)
                          obtain ⟨x_36, hR_35⟩ : r_32 = nI ua ∧ Rep v5 u_33 := by rw [eua, ← hv5] at e_34; exact e_34
                          subst x_36
                          have hP : va_P D vwCl (gW cy a u_33 ++ gW cy c9 u_q) H := hP
                          have hD : va_D A (gW cy a u_33 ++ gW cy c9 u_q) := hD
                          refine rd_S (As := [.int (nI ua)]) (rest := []) hF (c_L_thrown l D cy (nI ua) (thr_n _ hua)) (va_cwS 1 hts gL_leads_L_thrown rfl rfl rfl (by decide +kernel) ⟨Nat.le_of_ble_eq_true rfl, Nat.le_of_ble_eq_true rfl⟩) hK (fun k q h => by simp at h) rfl hl.1 rfl (Nat.le_of_ble_eq_true rfl) dL_leads_329 ⟨(by show _ ≤ 300; omega), (by show _ ≤ 1700; omega)⟩ ?_
                          refine lv_if_ne (tgt := 354) hx9 hb dL_leads_332 (by decide) (fun c_37 => ?_) (fun c_37 => ?_)
                          · exact absurd c_37 (by decide)
                          · refine lv_aload_n hx9 hb dL_leads_335 rfl (lv_at hl 6 rfl) ?_
                            refine lv_bipush (v := 9) hx9 hb dL_leads_336 (by decide) ?_
                            refine lv_iconst (v := 0) hx9 hb dL_leads_338 (by decide) ?_
                            refine lv_iconst (v := 0) hx9 hb dL_leads_339 (by decide) ?_
                            refine lv_iconst (v := 0) hx9 hb dL_leads_340 (by decide) ?_
                            refine wr_i (fun w9 : BS => gW cy a u_33 ++ gW cy c9 w9) (va_runS (As := [.ref (aO c9), .int 9, .int 0, .int 0, .int 0]) (rest := []) hF (c_L_call_9 l D cy hl0 c9 w4 u_q hO4 hR_q 0 0 0 H.size) (va_cwS 5 hts gL_leads_L_call rfl rfl rfl (by decide +kernel) ⟨Nat.le_of_ble_eq_true rfl, Nat.le_of_ble_eq_true rfl⟩) (wrX_preS hK hP hD List.perm_append_comm Xok_l (fun U hU hW => Gl.at hX hS (zz_free hD List.perm_append_comm hS hA) hU hW)) rfl rfl hl.1 rfl (lv_room (Nat.le_of_ble_eq_true rfl)) dL_leads_341 ⟨(by show _ ≤ 300; omega), (by show _ ≤ 1700; omega)⟩) hP hD hS hA List.perm_append_comm (fun _ => List.perm_append_comm) (fun r_38 u_39 H locs e_40 hP hD hS => ?_)
                            obtain ⟨x_42, hR_41⟩ : r_38 = nI ua ∧ Rep v5 u_39 := by rw [eua, ← hv5] at e_40; exact e_40
                            subst x_42
                            have hP : va_P D vwCl (gW cy a u_33 ++ gW cy c9 u_39) H := hP
                            have hD : va_D A (gW cy a u_33 ++ gW cy c9 u_39) := hD
                            refine rd_S (As := [.int (nI ua)]) (rest := []) hF (c_L_thrown l D cy (nI ua) (thr_n _ hua)) (va_cwS 1 hts gL_leads_L_thrown rfl rfl rfl (by decide +kernel) ⟨Nat.le_of_ble_eq_true rfl, Nat.le_of_ble_eq_true rfl⟩) hK (fun k q h => by simp at h) rfl hl.1 rfl (Nat.le_of_ble_eq_true rfl) dL_leads_344 ⟨(by show _ ≤ 300; omega), (by show _ ≤ 1700; omega)⟩ ?_
                            refine lv_if_ne (tgt := 354) hx9 hb dL_leads_347 (by decide) (fun c_43 => ?_) (fun c_43 => ?_)
                            · exact absurd c_43 (by decide)
                            · refine lv_iconst (v := 1) hx9 hb dL_leads_350 (by decide) ?_
                              refine lv_goto (tgt := 355) hx9 hb dL_leads_351 (by decide) ?_
                              refine lv_istore (lv' := [(5, .int 1), (6, .int (nI i)), (4, .int (nI n)), (3, .int (hBst n v.1)), (2, .int (hFew n v.1)), (0, .ref (aO a)), (1, .ref (aO c9))]) hx9 hb dL_leads_355 hl (by decide) rfl (fun ls hl => ?_)
                              refine lv_iinc (v := nI (i + 1)) (lv' := [(6, .int (nI (i + 1))), (5, .int 1), (4, .int (nI n)), (3, .int (hBst n v.1)), (2, .int (hFew n v.1)), (0, .ref (aO a)), (1, .ref (aO c9))]) hx9 hb dL_leads_357 hl (k := 1) rfl (nI_add (i) 1) (by decide) rfl (fun ls hl => ?_)
                              refine lv_goto (tgt := 309) hx9 hb dL_leads_360 (by decide) ?_
                              refine W.widen (k := ck + 3) (n := cq + 15) (by omega) (by omega) ?_
                              exact ih (i + 1) v5 (ck + 3) (cq + 15) u_33 u_39 _ _ _ (by omega) (by omega) (by omega) (by omega) (by rw [show mm - (i + 1) = mm - i - 1 by omega]; exact hbk5) hO5 hm5 hR_35 hR_41 hP hD hS (lv_sub hl [0, 1, 2, 3, 4, 5, 6] rfl)
                  refine W.widen (k := ck + 1) (n := cq + 6) (by omega) (by omega) ?_
                  exact loop3 (mm + 1) 0 w3 (ck + 1) (cq + 6) u_19 u_21 _ _ _ (Nat.zero_le _) (by omega) (by omega) (by omega) (by rw [Nat.sub_zero, hjm]; exact hbk) hO3 hm3 hR_20 hR_22 hP hD hS (lv_sub hl [0, 1, 2, 3, 4, 5, 6] rfl)
                refine lv_iload_n hx9 hb dL_leads_282 rfl (lv_at hl 4 rfl) ?_
                refine lv_if_le (tgt := 299) hx9 hb dL_leads_283 (by decide) (fun c_44 => ?_) (fun c_44 => ?_)
                · have c_44 : (hFew n v.1) ≤ 0 := c_44
                  refine W.widen (k := ck + 1) (n := cq + 6) (by omega) (by omega) ?_
                  exact jn_299 u_o u_q _ _ _ hR_o hR_q hP hD hS (lv_sub hl [0, 1, 2, 3, 4, 5, 6] rfl)
                · have c_44 : ¬ (hFew n v.1) ≤ 0 := c_44
                  have hfz : hFew n w3.1 = 0 := by
                    rcases hf3 with q | q
                    · rw [q, hjm, Nat.sub_self]; rfl
                    · exfalso
                      rcases hfew with z | ⟨z, -⟩
                      · rw [z, q] at c_44; exact c_44 (by decide)
                      · rw [z] at c_44; exact c_44 (by decide)
                  refine lv_aload_n hx9 hb dL_leads_286 rfl (lv_at hl 5 rfl) ?_
                  refine lv_iconst (v := 2) hx9 hb dL_leads_287 (by decide) ?_
                  refine lv_iconst (v := 5) hx9 hb dL_leads_288 (by decide) ?_
                  refine lv_iconst (v := 0) hx9 hb dL_leads_289 (by decide) ?_
                  refine lv_iconst (v := 0) hx9 hb dL_leads_290 (by decide) ?_
                  refine wr_i (fun w9 : BS => gW cy a w9 ++ gW cy c9 u_q) (va_runS (As := [.ref (aO a), .int 2, .int 5, .int 0, .int 0]) (rest := []) hF (c_L_call_2 l D cy hl0 a w3 u_o hO3 hR_o 5 0 0 H.size) (va_cwS 5 hts gL_leads_L_call rfl rfl rfl (by decide +kernel) ⟨Nat.le_of_ble_eq_true rfl, Nat.le_of_ble_eq_true rfl⟩) (wrX_preS hK hP hD (List.Perm.refl _) Xok_l (fun U hU hW => Gl.at hX hS (zz_free hD (List.Perm.refl _) hS hA) hU hW)) rfl rfl hl.1 rfl (lv_room (Nat.le_of_ble_eq_true rfl)) dL_leads_291 ⟨(by show _ ≤ 300; omega), (by show _ ≤ 1700; omega)⟩) hP hD hS hA (List.Perm.refl _) (fun _ => List.Perm.refl _) (fun r_45 u_46 H locs e_47 hP hD hS => ?_)
                  obtain ⟨x_49, hR_48⟩ : r_45 = hGI n w3.1 2 ∧ Rep w3 u_46 := by rw [qAb_5 hx3] at e_47; exact e_47
                  subst x_49
                  have hP : va_P D vwCl (gW cy a u_46 ++ gW cy c9 u_q) H := hP
                  have hD : va_D A (gW cy a u_46 ++ gW cy c9 u_q) := hD
                  refine lv_iload hx9 hb dL_leads_294 (lv_at hl 2 rfl) ?_
                  refine lv_icmp_ne (tgt := 303) hx9 hb dL_leads_296 (by decide) (fun c_50 => ?_) (fun c_50 => ?_)
                  · exact absurd ((few_home hx3).mp hfz) c_50
                  · have c_50 : (hGI n w3.1 2) = (nI n) := c_50
                    refine W.widen (k := ck + 1) (n := cq + 6) (by omega) (by omega) ?_
                    exact jn_299 u_46 u_q _ _ _ hR_48 hR_q hP hD hS (lv_sub hl [0, 1, 2, 3, 4, 5, 6] rfl)
            · have c_17 : ¬ (hFew n v.1) ≤ (nI j) := c_17
              obtain ⟨hjm, hfm⟩ := num_lt hmm hfew (by omega) c_17
              obtain ⟨gb, hgb, ebs, rgb, fgb⟩ := best_go (n := n) (k := mm - j - 1) (x := w3.1) (by omega) (by
                rcases hf3 with q | q
                · rw [q, show mm - j - 1 + 1 = mm - j by omega]
                · omega)
              have hx4 : Hx (B + j + 1) n (aPush w3 (hGo n gb w3.1)).1 := by
                have z := hx_press hx3 hgb
                rw [press_0 hn hgb rgb] at z
                exact z
              have hO4 : Okv (aPush w3 (hGo n gb w3.1)) := ⟨hx4.O, hO3.2.1, hO3.2.2⟩
              refine lv_iload hx9 hb dL_leads_227 (lv_at hl 1 rfl) ?_
              refine lv_if_eq (tgt := 277) hx9 hb dL_leads_229 (by decide) (fun c_51 => ?_) (fun c_51 => ?_)
              · exact absurd c_51 (by decide)
              · refine lv_aload_n hx9 hb dL_leads_232 rfl (lv_at hl 5 rfl) ?_
                refine wr_i (fun w9 : BS => gW cy a w9 ++ gW cy c9 u_q) (va_runV (As := []) (rest := []) hF (m_best l D cy hl0 a w3 u_o hO3 hR_o H.size) (cwV 0 hts gL_leads_X7_best rfl rfl rfl (by decide +kernel) ⟨Nat.le_of_ble_eq_true rfl, Nat.le_of_ble_eq_true rfl⟩) (wrX_preV hK hP hD (List.Perm.refl _) 0 4 rfl rfl rfl Xok_x (fun U hU hW => Gx.at hX.1 hS (zz_free hD (List.Perm.refl _) hS hA) hU hW)) rfl rfl hl.1 rfl (lv_room (Nat.le_of_ble_eq_true rfl)) dL_leads_233 ⟨(by show _ ≤ 300; omega), (by show _ ≤ 1700; omega)⟩) hP hD hS hA (List.Perm.refl _) (fun _ => List.Perm.refl _) (fun r_52 u_53 H locs e_54 hP hD hS => ?_)
                obtain ⟨x_56, hR_55⟩ : r_52 = hBst n w3.1 ∧ Rep w3 u_53 := by rw [Hx.n hx3] at e_54; exact e_54
                subst x_56
                have hP : va_P D vwCl (gW cy a u_53 ++ gW cy c9 u_q) H := hP
                have hD : va_D A (gW cy a u_53 ++ gW cy c9 u_q) := hD
                refine zz_top (y := nI gb) ebs ?_
                refine lv_istore (lv' := [(7, .int (nI gb)), (6, .int (nI j)), (5, .int 1), (4, .int (nI n)), (3, .int (hBst n v.1)), (2, .int (hFew n v.1)), (0, .ref (aO a)), (1, .ref (aO c9))]) hx9 hb dL_leads_236 hl (by decide) rfl (fun ls hl => ?_)
                refine lv_aload_n hx9 hb dL_leads_238 rfl (lv_at hl 6 rfl) ?_
                refine lv_bipush (v := 7) hx9 hb dL_leads_239 (by decide) ?_
                refine lv_iload hx9 hb dL_leads_241 (lv_at hl 0 rfl) ?_
                refine lv_iconst (v := 0) hx9 hb dL_leads_243 (by decide) ?_
                refine lv_iconst (v := 0) hx9 hb dL_leads_244 (by decide) ?_
                refine wr_i (fun w9 : BS => gW cy a w9 ++ gW cy c9 u_q) (va_runS (As := [.ref (aO a), .int 7, .int (nI gb), .int 0, .int 0]) (rest := []) hF (c_L_call_7 l D cy hl0 a w3 u_53 hO3 hR_55 (nI gb) 0 0 H.size) (va_cwS 5 hts gL_leads_L_call rfl rfl rfl (by decide +kernel) ⟨Nat.le_of_ble_eq_true rfl, Nat.le_of_ble_eq_true rfl⟩) (wrX_preS hK hP hD (List.Perm.refl _) Xok_l (fun U hU hW => Gl.at hX hS (zz_free hD (List.Perm.refl _) hS hA) hU hW)) rfl rfl hl.1 rfl (lv_room (Nat.le_of_ble_eq_true rfl)) dL_leads_245 ⟨(by show _ ≤ 300; omega), (by show _ ≤ 1700; omega)⟩) hP hD hS hA (List.Perm.refl _) (fun _ => List.Perm.refl _) (fun r_57 u_58 H locs e_59 hP hD hS => ?_)
                obtain ⟨x_61, hR_60⟩ : r_57 = 0 ∧ Rep ((aPush w3 (hGo n gb w3.1))) u_58 := by rw [aPress_g hx3 hgb, rgb, press_0 hn hgb rgb] at e_59; exact e_59
                subst x_61
                have hP : va_P D vwCl (gW cy a u_58 ++ gW cy c9 u_q) H := hP
                have hD : va_D A (gW cy a u_58 ++ gW cy c9 u_q) := hD
                refine lv_if_ne (tgt := 268) hx9 hb dL_leads_248 (by decide) (fun c_62 => ?_) (fun c_62 => ?_)
                · exact absurd c_62 (by decide)
                · refine lv_aload_n hx9 hb dL_leads_251 rfl (lv_at hl 7 rfl) ?_
                  refine lv_bipush (v := 7) hx9 hb dL_leads_252 (by decide) ?_
                  refine lv_iload hx9 hb dL_leads_254 (lv_at hl 0 rfl) ?_
                  refine lv_iconst (v := 0) hx9 hb dL_leads_256 (by decide) ?_
                  refine lv_iconst (v := 0) hx9 hb dL_leads_257 (by decide) ?_
                  refine wr_i (fun w9 : BS => gW cy a u_58 ++ gW cy c9 w9) (va_runS (As := [.ref (aO c9), .int 7, .int (nI gb), .int 0, .int 0]) (rest := []) hF (c_L_call_7 l D cy hl0 c9 w3 u_q hO3 hR_q (nI gb) 0 0 H.size) (va_cwS 5 hts gL_leads_L_call rfl rfl rfl (by decide +kernel) ⟨Nat.le_of_ble_eq_true rfl, Nat.le_of_ble_eq_true rfl⟩) (wrX_preS hK hP hD List.perm_append_comm Xok_l (fun U hU hW => Gl.at hX hS (zz_free hD List.perm_append_comm hS hA) hU hW)) rfl rfl hl.1 rfl (lv_room (Nat.le_of_ble_eq_true rfl)) dL_leads_258 ⟨(by show _ ≤ 300; omega), (by show _ ≤ 1700; omega)⟩) hP hD hS hA List.perm_append_comm (fun _ => List.perm_append_comm) (fun r_63 u_64 H locs e_65 hP hD hS => ?_)
                  obtain ⟨x_67, hR_66⟩ : r_63 = 0 ∧ Rep ((aPush w3 (hGo n gb w3.1))) u_64 := by rw [aPress_g hx3 hgb, rgb, press_0 hn hgb rgb] at e_65; exact e_65
                  subst x_67
                  have hP : va_P D vwCl (gW cy a u_58 ++ gW cy c9 u_64) H := hP
                  have hD : va_D A (gW cy a u_58 ++ gW cy c9 u_64) := hD
                  refine lv_if_ne (tgt := 268) hx9 hb dL_leads_261 (by decide) (fun c_68 => ?_) (fun c_68 => ?_)
                  · exact absurd c_68 (by decide)
                  · refine lv_iconst (v := 1) hx9 hb dL_leads_264 (by decide) ?_
                    refine lv_goto (tgt := 269) hx9 hb dL_leads_265 (by decide) ?_
                    refine lv_istore (lv' := [(5, .int 1), (7, .int (nI gb)), (6, .int (nI j)), (4, .int (nI n)), (3, .int (hBst n v.1)), (2, .int (hFew n v.1)), (0, .ref (aO a)), (1, .ref (aO c9))]) hx9 hb dL_leads_269 hl (by decide) rfl (fun ls hl => ?_)
                    refine lv_iinc (v := nI (j + 1)) (lv' := [(6, .int (nI (j + 1))), (5, .int 1), (7, .int (nI gb)), (4, .int (nI n)), (3, .int (hBst n v.1)), (2, .int (hFew n v.1)), (0, .ref (aO a)), (1, .ref (aO c9))]) hx9 hb dL_leads_271 hl (k := 2) rfl (nI_add (j) 1) (by decide) rfl (fun ls hl => ?_)
                    refine lv_goto (tgt := 221) hx9 hb dL_leads_274 (by decide) ?_
                    refine W.widen (k := ck + 24) (n := cq + 120) (by omega) (by omega) ?_
                    exact ih (j + 1) (aPush w3 (hGo n gb w3.1)) (ck + 24) (cq + 120) u_58 u_64 _ _ _ (by omega) (by omega) (by omega) (by omega) (bk_push hbk (by omega)) hx4 (Or.inl (fgb.trans (congrArg nI (by omega)))) (push_mem hO3 hm3) hR_60 hR_66 hP hD hS (lv_sub hl [0, 1, 3, 4, 5, 6, 7] rfl)
        refine W.widen (k := ck + 0) (n := cq + 0) (by omega) (by omega) ?_
        exact loop2 (mm + 1) 0 vv (ck + 0) (cq + 0) u_o u_q _ _ _ (Nat.zero_le _) (by omega) (by omega) (by omega) (bk_0 (hI.sfx hsf).2.2.2.1) hxv (by rw [e1]; exact hfew.imp (fun q => q) (fun q => q.2)) (fun m q => by obtain ⟨z, y, -⟩ := (hI.sfx hsf).2.1 m q; exact y.O) hR_o hR_q hP hD hS (lv_sub hl [0, 1, 2, 3, 4, 5, 6] rfl)
      · have c_16 : ¬ n ≤ g := fun q => c_16 ((nI_leI (a := n) (b := g) (by omega) (by omega)).mpr q)
        have hgn : g < n := by omega
        refine lv_iload hx9 hb dL_leads_38 (lv_at hl 1 rfl) ?_
        refine lv_if_eq (tgt := 218) hx9 hb dL_leads_40 (by decide) (fun c_69 => ?_) (fun c_69 => ?_)
        · exact absurd c_69 (by decide)
        · refine lv_aload_n hx9 hb dL_leads_43 rfl (lv_at hl 5 rfl) ?_
          refine lv_bipush (v := 10) hx9 hb dL_leads_44 (by decide) ?_
          refine lv_iload hx9 hb dL_leads_46 (lv_at hl 0 rfl) ?_
          refine lv_iconst (v := 0) hx9 hb dL_leads_48 (by decide) ?_
          refine lv_iconst (v := 0) hx9 hb dL_leads_49 (by decide) ?_
          refine wr_i (fun w9 : BS => gW cy a w9 ++ gW cy c9 u_q) (va_runS (As := [.ref (aO a), .int 10, .int (nI g), .int 0, .int 0]) (rest := []) hF (c_L_call_10 l D cy hl0 a vv u_o hOv hR_o (nI g) 0 0 H.size) (va_cwS 5 hts gL_leads_L_call rfl rfl rfl (by decide +kernel) ⟨Nat.le_of_ble_eq_true rfl, Nat.le_of_ble_eq_true rfl⟩) (wrX_preS hK hP hD (List.Perm.refl _) Xok_l (fun U hU hW => Gl.at hX hS (zz_free hD (List.Perm.refl _) hS hA) hU hW)) rfl rfl hl.1 rfl (lv_room (Nat.le_of_ble_eq_true rfl)) dL_leads_50 ⟨(by show _ ≤ 300; omega), (by show _ ≤ 1700; omega)⟩) hP hD hS hA (List.Perm.refl _) (fun _ => List.Perm.refl _) (fun r_70 u_71 H locs e_72 hP hD hS => ?_)
          obtain ⟨x_74, hR_73⟩ : r_70 = hReas v.1 (nI g) ∧ Rep vv u_71 := by rw [qWh_g hxv hgn, e1] at e_72; exact e_72
          subst x_74
          have hP : va_P D vwCl (gW cy a u_71 ++ gW cy c9 u_q) H := hP
          have hD : va_D A (gW cy a u_71 ++ gW cy c9 u_q) := hD
          refine lv_if_ne (tgt := 212) hx9 hb dL_leads_53 (by decide) (fun c_75 => ?_) (fun c_75 => ?_)
          · have c_75 : ¬ (hReas v.1 (nI g)) = 0 := c_75
            refine lv_iinc (v := nI (g + 1)) (lv' := [(6, .int (nI (g + 1))), (5, .int 1), (4, .int (nI n)), (3, .int (hBst n v.1)), (2, .int (hFew n v.1)), (0, .ref (aO a)), (1, .ref (aO c9))]) hx9 hb dL_leads_212 hl (k := 0) rfl (nI_add (g) 1) (by decide) rfl (fun ls hl => ?_)
            refine lv_goto (tgt := 31) hx9 hb dL_leads_215 (by decide) ?_
            refine W.widen (k := ck + 30) (n := cq + 160) (by omega) (by omega) ?_
            exact ih (g + 1) vv (ck + 30) (cq + 160) u_71 u_q _ _ _ (by omega) (by omega) (by omega) (by omega) hsf hR_73 hR_q hP hD hS (lv_sub hl [0, 1, 2, 3, 4, 5, 6] rfl)
          · have c_75 : (hReas v.1 (nI g)) = 0 := c_75
            have hw : hReas v.1 (nI g) = 0 := c_75
            have hxy : Hx (B + 1) n (aPush vv (hGo n g v.1)).1 := by
              have z := hx_press hx hgn
              rw [press_0 hn hgn hw] at z
              exact z
            have hOy : Okv (aPush vv (hGo n g v.1)) := ⟨hxy.O, hOv.2.1, hOv.2.2⟩
            have hlen : vv.2.1.length ≤ 14 := (hI.sfx hsf).2.2.2.1
            obtain ⟨⟨ua, hua, eua⟩, hbk⟩ := bk_pop (bk_push (y := hGo n g v.1) (bk_0 hlen) (by decide))
            obtain ⟨v2, hv2⟩ : ∃ v2, v2 = (aUndo (aPush vv (hGo n g v.1))).2 := ⟨_, rfl⟩
            rw [← hv2] at hbk
            have hsf2 : Sfx v2 v := (bk_end hbk).tr hsf
            have hO2 := (hI.sfx hsf2).Ok
            have hx2 : Hx B n v2.1 := by rw [hsf2.1]; exact hx
            refine lv_aload_n hx9 hb dL_leads_56 rfl (lv_at hl 5 rfl) ?_
            refine lv_bipush (v := 7) hx9 hb dL_leads_57 (by decide) ?_
            refine lv_iload hx9 hb dL_leads_59 (lv_at hl 0 rfl) ?_
            refine lv_iconst (v := 0) hx9 hb dL_leads_61 (by decide) ?_
            refine lv_iconst (v := 0) hx9 hb dL_leads_62 (by decide) ?_
            refine wr_i (fun w9 : BS => gW cy a w9 ++ gW cy c9 u_q) (va_runS (As := [.ref (aO a), .int 7, .int (nI g), .int 0, .int 0]) (rest := []) hF (c_L_call_7 l D cy hl0 a vv u_71 hOv hR_73 (nI g) 0 0 H.size) (va_cwS 5 hts gL_leads_L_call rfl rfl rfl (by decide +kernel) ⟨Nat.le_of_ble_eq_true rfl, Nat.le_of_ble_eq_true rfl⟩) (wrX_preS hK hP hD (List.Perm.refl _) Xok_l (fun U hU hW => Gl.at hX hS (zz_free hD (List.Perm.refl _) hS hA) hU hW)) rfl rfl hl.1 rfl (lv_room (Nat.le_of_ble_eq_true rfl)) dL_leads_63 ⟨(by show _ ≤ 300; omega), (by show _ ≤ 1700; omega)⟩) hP hD hS hA (List.Perm.refl _) (fun _ => List.Perm.refl _) (fun r_76 u_77 H locs e_78 hP hD hS => ?_)
            obtain ⟨x_80, hR_79⟩ : r_76 = 0 ∧ Rep ((aPush vv (hGo n g v.1))) u_77 := by rw [aPress_g hxv hgn, e1, hw, press_0 hn hgn hw] at e_78; exact e_78
            subst x_80
            have hP : va_P D vwCl (gW cy a u_77 ++ gW cy c9 u_q) H := hP
            have hD : va_D A (gW cy a u_77 ++ gW cy c9 u_q) := hD
            refine lv_if_ne (tgt := 86) hx9 hb dL_leads_66 (by decide) (fun c_81 => ?_) (fun c_81 => ?_)
            · exact absurd c_81 (by decide)
            · refine lv_aload_n hx9 hb dL_leads_69 rfl (lv_at hl 6 rfl) ?_
              refine lv_bipush (v := 7) hx9 hb dL_leads_70 (by decide) ?_
              refine lv_iload hx9 hb dL_leads_72 (lv_at hl 0 rfl) ?_
              refine lv_iconst (v := 0) hx9 hb dL_leads_74 (by decide) ?_
              refine lv_iconst (v := 0) hx9 hb dL_leads_75 (by decide) ?_
              refine wr_i (fun w9 : BS => gW cy a u_77 ++ gW cy c9 w9) (va_runS (As := [.ref (aO c9), .int 7, .int (nI g), .int 0, .int 0]) (rest := []) hF (c_L_call_7 l D cy hl0 c9 vv u_q hOv hR_q (nI g) 0 0 H.size) (va_cwS 5 hts gL_leads_L_call rfl rfl rfl (by decide +kernel) ⟨Nat.le_of_ble_eq_true rfl, Nat.le_of_ble_eq_true rfl⟩) (wrX_preS hK hP hD List.perm_append_comm Xok_l (fun U hU hW => Gl.at hX hS (zz_free hD List.perm_append_comm hS hA) hU hW)) rfl rfl hl.1 rfl (lv_room (Nat.le_of_ble_eq_true rfl)) dL_leads_76 ⟨(by show _ ≤ 300; omega), (by show _ ≤ 1700; omega)⟩) hP hD hS hA List.perm_append_comm (fun _ => List.perm_append_comm) (fun r_82 u_83 H locs e_84 hP hD hS => ?_)
              obtain ⟨x_86, hR_85⟩ : r_82 = 0 ∧ Rep ((aPush vv (hGo n g v.1))) u_83 := by rw [aPress_g hxv hgn, e1, hw, press_0 hn hgn hw] at e_84; exact e_84
              subst x_86
              have hP : va_P D vwCl (gW cy a u_77 ++ gW cy c9 u_83) H := hP
              have hD : va_D A (gW cy a u_77 ++ gW cy c9 u_83) := hD
              refine lv_if_ne (tgt := 86) hx9 hb dL_leads_79 (by decide) (fun c_87 => ?_) (fun c_87 => ?_)
              · exact absurd c_87 (by decide)
              · refine lv_iconst (v := 1) hx9 hb dL_leads_82 (by decide) ?_
                refine lv_goto (tgt := 87) hx9 hb dL_leads_83 (by decide) ?_
                refine lv_istore (lv' := [(5, .int 1), (6, .int (nI g)), (4, .int (nI n)), (3, .int (hBst n v.1)), (2, .int (hFew n v.1)), (0, .ref (aO a)), (1, .ref (aO c9))]) hx9 hb dL_leads_87 hl (by decide) rfl (fun ls hl => ?_)
                refine lv_aload_n hx9 hb dL_leads_89 rfl (lv_at hl 5 rfl) ?_
                refine lv_bipush (v := 11) hx9 hb dL_leads_90 (by decide) ?_
                refine lv_iconst (v := 1) hx9 hb dL_leads_92 (by decide) ?_
                refine lv_iconst (v := 0) hx9 hb dL_leads_93 (by decide) ?_
                refine lv_iconst (v := 0) hx9 hb dL_leads_94 (by decide) ?_
                refine wr_i (fun w9 : BS => gW cy a w9 ++ gW cy c9 u_83) (va_runS (As := [.ref (aO a), .int 11, .int 1, .int 0, .int 0]) (rest := []) hF (c_L_call_11 l D cy hl0 a ((aPush vv (hGo n g v.1))) u_77 hOy hR_79 1 0 0 H.size) (va_cwS 5 hts gL_leads_L_call rfl rfl rfl (by decide +kernel) ⟨Nat.le_of_ble_eq_true rfl, Nat.le_of_ble_eq_true rfl⟩) (wrX_preS hK hP hD (List.Perm.refl _) Xok_l (fun U hU hW => Gl.at hX hS (zz_free hD (List.Perm.refl _) hS hA) hU hW)) rfl rfl hl.1 rfl (lv_room (Nat.le_of_ble_eq_true rfl)) dL_leads_95 ⟨(by show _ ≤ 300; omega), (by show _ ≤ 1700; omega)⟩) hP hD hS hA (List.Perm.refl _) (fun _ => List.Perm.refl _) (fun r_88 u_89 H locs e_90 hP hD hS => ?_)
                obtain ⟨x_92, hR_91⟩ : r_88 = hFew n (hGo n g v.1) ∧ Rep ((aPush vv (hGo n g v.1))) u_89 := by rw [qFe_1 hxy] at e_90; exact e_90
                subst x_92
                have hP : va_P D vwCl (gW cy a u_89 ++ gW cy c9 u_83) H := hP
                have hD : va_D A (gW cy a u_89 ++ gW cy c9 u_83) := hD
                refine lv_istore (lv' := [(7, .int (hFew n (hGo n g v.1))), (5, .int 1), (6, .int (nI g)), (4, .int (nI n)), (3, .int (hBst n v.1)), (2, .int (hFew n v.1)), (0, .ref (aO a)), (1, .ref (aO c9))]) hx9 hb dL_leads_98 hl (by decide) rfl (fun ls hl => ?_)
                refine lv_iload hx9 hb dL_leads_100 (lv_at hl 1 rfl) ?_
                refine lv_if_eq (tgt := 209) hx9 hb dL_leads_102 (by decide) (fun c_93 => ?_) (fun c_93 => ?_)
                · exact absurd c_93 (by decide)
                · have jn_143 : ∀ (u_94 : BS) (u_96 : BS) (H : Heap) (locs : List Loc) (ls : Array Slot), Rep ((aPush vv (hGo n g v.1))) u_94 → Rep ((aPush vv (hGo n g v.1))) u_96 → va_P D vwCl (gW cy a u_94 ++ gW cy c9 u_96) H → va_D A (gW cy a u_94 ++ gW cy c9 u_96) → va_S A s.heap H locs → lv_has ls 8 [(7, .int (hFew n (hGo n g v.1))), (5, .int 1), (6, .int (nI g)), (4, .int (nI n)), (3, .int (hBst n v.1)), (2, .int (hFew n v.1)), (0, .ref (aO a)), (1, .ref (aO c9))] → W p l e rm_L_leads s m args below meth c H locs (ck + 24) (cq + 126) Q (F0 m 143 ls []) := by
                    intro u_94 u_96 H locs ls hR_95 hR_97 hP hD hS hl
                    have jn_157 : ∀ (u_98 : BS) (u_100 : BS) (H : Heap) (locs : List Loc) (ls : Array Slot), Rep ((aPush vv (hGo n g v.1))) u_98 → Rep ((aPush vv (hGo n g v.1))) u_100 → va_P D vwCl (gW cy a u_98 ++ gW cy c9 u_100) H → va_D A (gW cy a u_98 ++ gW cy c9 u_100) → va_S A s.heap H locs → lv_has ls 8 [(7, .int (hFew n (hGo n g v.1))), (5, .int 1), (6, .int (nI g)), (4, .int (nI n)), (3, .int (hBst n v.1)), (2, .int (hFew n v.1)), (0, .ref (aO a)), (1, .ref (aO c9))] → W p l e rm_L_leads s m args below meth c H locs (ck + 24) (cq + 126) Q (F0 m 157 ls []) := by
                      intro u_98 u_100 H locs ls hR_99 hR_101 hP hD hS hl
                      have jn_175 : ∀ (u_102 : BS) (u_104 : BS) (H : Heap) (locs : List Loc) (ls : Array Slot), Rep ((aPush vv (hGo n g v.1))) u_102 → Rep ((aPush vv (hGo n g v.1))) u_104 → va_P D vwCl (gW cy a u_102 ++ gW cy c9 u_104) H → va_D A (gW cy a u_102 ++ gW cy c9 u_104) → va_S A s.heap H locs → lv_has ls 8 [(7, .int (hFew n (hGo n g v.1))), (5, .int 1), (6, .int (nI g)), (4, .int (nI n)), (3, .int (hBst n v.1)), (2, .int (hFew n v.1)), (0, .ref (aO a)), (1, .ref (aO c9))] → W p l e rm_L_leads s m args below meth c H locs (ck + 24) (cq + 126) Q (F0 m 175 ls []) := by
                        intro u_102 u_104 H locs ls hR_103 hR_105 hP hD hS hl
                        refine lv_aload_n hx9 hb dL_leads_175 rfl (lv_at hl 6 rfl) ?_
                        refine lv_bipush (v := 9) hx9 hb dL_leads_176 (by decide) ?_
                        refine lv_iconst (v := 0) hx9 hb dL_leads_178 (by decide) ?_
                        refine lv_iconst (v := 0) hx9 hb dL_leads_179 (by decide) ?_
                        refine lv_iconst (v := 0) hx9 hb dL_leads_180 (by decide) ?_
                        refine wr_i (fun w9 : BS => gW cy a w9 ++ gW cy c9 u_104) (va_runS (As := [.ref (aO a), .int 9, .int 0, .int 0, .int 0]) (rest := []) hF (c_L_call_9 l D cy hl0 a ((aPush vv (hGo n g v.1))) u_102 hOy hR_103 0 0 0 H.size) (va_cwS 5 hts gL_leads_L_call rfl rfl rfl (by decide +kernel) ⟨Nat.le_of_ble_eq_true rfl, Nat.le_of_ble_eq_true rfl⟩) (wrX_preS hK hP hD (List.Perm.refl _) Xok_l (fun U hU hW => Gl.at hX hS (zz_free hD (List.Perm.refl _) hS hA) hU hW)) rfl rfl hl.1 rfl (lv_room (Nat.le_of_ble_eq_true rfl)) dL_leads_181 ⟨(by show _ ≤ 300; omega), (by show _ ≤ 1700; omega)⟩) hP hD hS hA (List.Perm.refl _) (fun _ => List.Perm.refl _) (fun r_106 u_107 H locs e_108 hP hD hS => ?_)
                        obtain ⟨x_110, hR_109⟩ : r_106 = nI ua ∧ Rep v2 u_107 := by rw [eua, ← hv2] at e_108; exact e_108
                        subst x_110
                        have hP : va_P D vwCl (gW cy a u_107 ++ gW cy c9 u_104) H := hP
                        have hD : va_D A (gW cy a u_107 ++ gW cy c9 u_104) := hD
                        refine rd_S (As := [.int (nI ua)]) (rest := []) hF (c_L_thrown l D cy (nI ua) (thr_n _ hua)) (va_cwS 1 hts gL_leads_L_thrown rfl rfl rfl (by decide +kernel) ⟨Nat.le_of_ble_eq_true rfl, Nat.le_of_ble_eq_true rfl⟩) hK (fun k q h => by simp at h) rfl hl.1 rfl (Nat.le_of_ble_eq_true rfl) dL_leads_184 ⟨(by show _ ≤ 300; omega), (by show _ ≤ 1700; omega)⟩ ?_
                        refine lv_if_ne (tgt := 209) hx9 hb dL_leads_187 (by decide) (fun c_111 => ?_) (fun c_111 => ?_)
                        · exact absurd c_111 (by decide)
                        · refine lv_aload_n hx9 hb dL_leads_190 rfl (lv_at hl 7 rfl) ?_
                          refine lv_bipush (v := 9) hx9 hb dL_leads_191 (by decide) ?_
                          refine lv_iconst (v := 0) hx9 hb dL_leads_193 (by decide) ?_
                          refine lv_iconst (v := 0) hx9 hb dL_leads_194 (by decide) ?_
                          refine lv_iconst (v := 0) hx9 hb dL_leads_195 (by decide) ?_
                          refine wr_i (fun w9 : BS => gW cy a u_107 ++ gW cy c9 w9) (va_runS (As := [.ref (aO c9), .int 9, .int 0, .int 0, .int 0]) (rest := []) hF (c_L_call_9 l D cy hl0 c9 ((aPush vv (hGo n g v.1))) u_104 hOy hR_105 0 0 0 H.size) (va_cwS 5 hts gL_leads_L_call rfl rfl rfl (by decide +kernel) ⟨Nat.le_of_ble_eq_true rfl, Nat.le_of_ble_eq_true rfl⟩) (wrX_preS hK hP hD List.perm_append_comm Xok_l (fun U hU hW => Gl.at hX hS (zz_free hD List.perm_append_comm hS hA) hU hW)) rfl rfl hl.1 rfl (lv_room (Nat.le_of_ble_eq_true rfl)) dL_leads_196 ⟨(by show _ ≤ 300; omega), (by show _ ≤ 1700; omega)⟩) hP hD hS hA List.perm_append_comm (fun _ => List.perm_append_comm) (fun r_112 u_113 H locs e_114 hP hD hS => ?_)
                          obtain ⟨x_116, hR_115⟩ : r_112 = nI ua ∧ Rep v2 u_113 := by rw [eua, ← hv2] at e_114; exact e_114
                          subst x_116
                          have hP : va_P D vwCl (gW cy a u_107 ++ gW cy c9 u_113) H := hP
                          have hD : va_D A (gW cy a u_107 ++ gW cy c9 u_113) := hD
                          refine rd_S (As := [.int (nI ua)]) (rest := []) hF (c_L_thrown l D cy (nI ua) (thr_n _ hua)) (va_cwS 1 hts gL_leads_L_thrown rfl rfl rfl (by decide +kernel) ⟨Nat.le_of_ble_eq_true rfl, Nat.le_of_ble_eq_true rfl⟩) hK (fun k q h => by simp at h) rfl hl.1 rfl (Nat.le_of_ble_eq_true rfl) dL_leads_199 ⟨(by show _ ≤ 300; omega), (by show _ ≤ 1700; omega)⟩ ?_
                          refine lv_if_ne (tgt := 209) hx9 hb dL_leads_202 (by decide) (fun c_117 => ?_) (fun c_117 => ?_)
                          · exact absurd c_117 (by decide)
                          · refine lv_iconst (v := 1) hx9 hb dL_leads_205 (by decide) ?_
                            refine lv_goto (tgt := 210) hx9 hb dL_leads_206 (by decide) ?_
                            refine lv_istore (lv' := [(5, .int 1), (7, .int (hFew n (hGo n g v.1))), (6, .int (nI g)), (4, .int (nI n)), (3, .int (hBst n v.1)), (2, .int (hFew n v.1)), (0, .ref (aO a)), (1, .ref (aO c9))]) hx9 hb dL_leads_210 hl (by decide) rfl (fun ls hl => ?_)
                            refine lv_iinc (v := nI (g + 1)) (lv' := [(6, .int (nI (g + 1))), (5, .int 1), (7, .int (hFew n (hGo n g v.1))), (4, .int (nI n)), (3, .int (hBst n v.1)), (2, .int (hFew n v.1)), (0, .ref (aO a)), (1, .ref (aO c9))]) hx9 hb dL_leads_212 hl (k := 2) rfl (nI_add (g) 1) (by decide) rfl (fun ls hl => ?_)
                            refine lv_goto (tgt := 31) hx9 hb dL_leads_215 (by decide) ?_
                            refine W.widen (k := ck + 30) (n := cq + 160) (by omega) (by omega) ?_
                            exact ih (g + 1) v2 (ck + 30) (cq + 160) u_107 u_113 _ _ _ (by omega) (by omega) (by omega) (by omega) hsf2 hR_109 hR_115 hP hD hS (lv_sub hl [0, 1, 3, 4, 5, 6, 7] rfl)
                      refine lv_iload_n hx9 hb dL_leads_157 rfl (lv_at hl 5 rfl) ?_
                      refine lv_if_le (tgt := 175) hx9 hb dL_leads_158 (by decide) (fun c_118 => ?_) (fun c_118 => ?_)
                      · have c_118 : (hFew n v.1) ≤ 0 := c_118
                        refine W.widen (k := ck + 24) (n := cq + 126) (by omega) (by omega) ?_
                        exact jn_175 u_98 u_100 _ _ _ hR_99 hR_101 hP hD hS (lv_sub hl [0, 1, 2, 3, 4, 5, 6, 7] rfl)
                      · have c_118 : ¬ (hFew n v.1) ≤ 0 := c_118
                        refine lv_iload hx9 hb dL_leads_161 (lv_at hl 2 rfl) ?_
                        refine lv_iload_n hx9 hb dL_leads_163 rfl (lv_at hl 4 rfl) ?_
                        refine lv_icmp_ge (tgt := 175) hx9 hb dL_leads_164 (by decide) (fun c_119 => ?_) (fun c_119 => ?_)
                        · have c_119 : (hBst n v.1) ≤ (nI g) := c_119
                          refine W.widen (k := ck + 24) (n := cq + 126) (by omega) (by omega) ?_
                          exact jn_175 u_98 u_100 _ _ _ hR_99 hR_101 hP hD hS (lv_sub hl [0, 1, 2, 3, 4, 5, 6, 7] rfl)
                        · have c_119 : ¬ (hBst n v.1) ≤ (nI g) := c_119
                          refine lv_iload hx9 hb dL_leads_167 (lv_at hl 0 rfl) ?_
                          refine lv_iload_n hx9 hb dL_leads_169 rfl (lv_at hl 5 rfl) ?_
                          refine lv_iconst (v := 1) hx9 hb dL_leads_170 (by decide) ?_
                          refine lv_isub hx9 hb dL_leads_171 ?_
                          refine lv_icmp_eq (tgt := 209) hx9 hb dL_leads_172 (by decide) (fun c_120 => ?_) (fun c_120 => ?_)
                          · exact (lead_d hn hgn hw c_118 c_119 c_120).elim
                          · have c_120 : ¬ (hFew n (hGo n g v.1)) = ((hFew n v.1) - 1) := c_120
                            refine W.widen (k := ck + 24) (n := cq + 126) (by omega) (by omega) ?_
                            exact jn_175 u_98 u_100 _ _ _ hR_99 hR_101 hP hD hS (lv_sub hl [0, 1, 2, 3, 4, 5, 6, 7] rfl)
                    refine lv_iload hx9 hb dL_leads_143 (lv_at hl 2 rfl) ?_
                    refine lv_iload_n hx9 hb dL_leads_145 rfl (lv_at hl 4 rfl) ?_
                    refine lv_icmp_ne (tgt := 157) hx9 hb dL_leads_146 (by decide) (fun c_121 => ?_) (fun c_121 => ?_)
                    · have c_121 : ¬ (nI g) = (hBst n v.1) := c_121
                      refine W.widen (k := ck + 24) (n := cq + 126) (by omega) (by omega) ?_
                      exact jn_157 u_94 u_96 _ _ _ hR_95 hR_97 hP hD hS (lv_sub hl [0, 1, 2, 3, 4, 5, 6, 7] rfl)
                    · have c_121 : (nI g) = (hBst n v.1) := c_121
                      refine lv_iload hx9 hb dL_leads_149 (lv_at hl 0 rfl) ?_
                      refine lv_iload_n hx9 hb dL_leads_151 rfl (lv_at hl 5 rfl) ?_
                      refine lv_iconst (v := 1) hx9 hb dL_leads_152 (by decide) ?_
                      refine lv_isub hx9 hb dL_leads_153 ?_
                      refine lv_icmp_ne (tgt := 209) hx9 hb dL_leads_154 (by decide) (fun c_122 => ?_) (fun c_122 => ?_)
                      · exact (lead_c hn hgn c_121 c_122).elim
                      · have c_122 : (hFew n (hGo n g v.1)) = ((hFew n v.1) - 1) := c_122
                        refine W.widen (k := ck + 24) (n := cq + 126) (by omega) (by omega) ?_
                        exact jn_157 u_94 u_96 _ _ _ hR_95 hR_97 hP hD hS (lv_sub hl [0, 1, 2, 3, 4, 5, 6, 7] rfl)
                  refine lv_iload_n hx9 hb dL_leads_105 rfl (lv_at hl 5 rfl) ?_
                  refine lv_iconst (v := (-1)) hx9 hb dL_leads_106 (by decide) ?_
                  refine lv_icmp_ne (tgt := 125) hx9 hb dL_leads_107 (by decide) (fun c_123 => ?_) (fun c_123 => ?_)
                  · have c_123 : ¬ (hFew n v.1) = ((-1)) := c_123
                    refine lv_iload_n hx9 hb dL_leads_125 rfl (lv_at hl 5 rfl) ?_
                    refine lv_if_eq (tgt := 143) hx9 hb dL_leads_126 (by decide) (fun c_124 => ?_) (fun c_124 => ?_)
                    · have c_124 : (hFew n v.1) = 0 := c_124
                      refine W.widen (k := ck + 24) (n := cq + 126) (by omega) (by omega) ?_
                      exact jn_143 u_89 u_83 _ _ _ hR_91 hR_85 hP hD hS (lv_sub hl [0, 1, 2, 3, 4, 5, 6, 7] rfl)
                    · have c_124 : ¬ (hFew n v.1) = 0 := c_124
                      refine lv_iload hx9 hb dL_leads_129 (lv_at hl 0 rfl) ?_
                      refine lv_iconst (v := (-1)) hx9 hb dL_leads_131 (by decide) ?_
                      refine lv_icmp_eq (tgt := 143) hx9 hb dL_leads_132 (by decide) (fun c_125 => ?_) (fun c_125 => ?_)
                      · have c_125 : (hFew n (hGo n g v.1)) = ((-1)) := c_125
                        refine W.widen (k := ck + 24) (n := cq + 126) (by omega) (by omega) ?_
                        exact jn_143 u_89 u_83 _ _ _ hR_91 hR_85 hP hD hS (lv_sub hl [0, 1, 2, 3, 4, 5, 6, 7] rfl)
                      · have c_125 : ¬ (hFew n (hGo n g v.1)) = ((-1)) := c_125
                        refine lv_iload hx9 hb dL_leads_135 (lv_at hl 0 rfl) ?_
                        refine lv_iload_n hx9 hb dL_leads_137 rfl (lv_at hl 5 rfl) ?_
                        refine lv_iconst (v := 1) hx9 hb dL_leads_138 (by decide) ?_
                        refine lv_isub hx9 hb dL_leads_139 ?_
                        refine lv_icmp_lt (tgt := 209) hx9 hb dL_leads_140 (by decide) (fun c_126 => ?_) (fun c_126 => ?_)
                        · exact (lead_b hgn hw c_123 c_124 c_125 c_126).elim
                        · have c_126 : ¬ (hFew n (hGo n g v.1)) < ((hFew n v.1) - 1) := c_126
                          refine W.widen (k := ck + 24) (n := cq + 126) (by omega) (by omega) ?_
                          exact jn_143 u_89 u_83 _ _ _ hR_91 hR_85 hP hD hS (lv_sub hl [0, 1, 2, 3, 4, 5, 6, 7] rfl)
                  · have c_123 : (hFew n v.1) = ((-1)) := c_123
                    refine lv_iload hx9 hb dL_leads_110 (lv_at hl 0 rfl) ?_
                    refine lv_iconst (v := (-1)) hx9 hb dL_leads_112 (by decide) ?_
                    refine lv_icmp_eq (tgt := 143) hx9 hb dL_leads_113 (by decide) (fun c_127 => ?_) (fun c_127 => ?_)
                    · have c_127 : (hFew n (hGo n g v.1)) = ((-1)) := c_127
                      refine W.widen (k := ck + 24) (n := cq + 126) (by omega) (by omega) ?_
                      exact jn_143 u_89 u_83 _ _ _ hR_91 hR_85 hP hD hS (lv_sub hl [0, 1, 2, 3, 4, 5, 6, 7] rfl)
                    · have c_127 : ¬ (hFew n (hGo n g v.1)) = ((-1)) := c_127
                      refine lv_iload hx9 hb dL_leads_116 (lv_at hl 0 rfl) ?_
                      refine lv_iconst (v := 5) hx9 hb dL_leads_118 (by decide) ?_
                      refine lv_icmp_ne (tgt := 209) hx9 hb dL_leads_119 (by decide) (fun c_128 => ?_) (fun c_128 => ?_)
                      · exact (lead_a hgn hw c_123 c_127 c_128).elim
                      · have c_128 : (hFew n (hGo n g v.1)) = 5 := c_128
                        refine lv_goto (tgt := 143) hx9 hb dL_leads_122 (by decide) ?_
                        refine W.widen (k := ck + 24) (n := cq + 126) (by omega) (by omega) ?_
                        exact jn_143 u_89 u_83 _ _ _ hR_91 hR_85 hP hD hS (lv_sub hl [0, 1, 2, 3, 4, 5, 6, 7] rfl)
  refine W.widen (k := 2) (n := 12) (by omega) (by omega) ?_
  exact loop1 (n + 1) 0 v (2) (12) u_12 w _ _ _ (Nat.zero_le _) (by omega) (by omega) (by omega) Sfx.rf hR_14 hR2 hP hD hS (lv_sub hl [0, 1, 2, 3, 4, 5, 6] rfl)
