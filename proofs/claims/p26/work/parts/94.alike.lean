abbrev rm_L_alike : Room := { frames := 14, cells := 200, slots := 1200, locals := 317 }
set_option maxHeartbeats 4000000 in
set_option maxRecDepth 100000 in
/-- two hotels that are told the same answer the same -/
theorem c_L_alike (l : Launch) (D : va_G) (cy : Nat → ClassId) (hl0 : l.stackTraces = false) (a c9 : AD) (v : AV) (u w : BS) (B x9 : Nat) (hk9 : x9 < 2 ^ 31) (hI : Inv B v) (hR : Rep v u) (hR2 : Rep v w) (sz : Nat) : bMet l yL_alike wsL_alike rm_L_alike D cy a c9 [.int (nI x9)] u w sz (fun (r : Int32) (w : BS × BS) => r = 1 ∧ Rep v w.1 ∧ Rep v w.2) 200 1200 := by
  refine MwiX (cc := cL_alike) (maxL := 5) (ty := .boolean) (by decide) rfl (Nat.le_of_ble_eq_true rfl) (fun _ _ q => by rw [q.1]; rfl) ?_
  intro p e s m args below meth c Q ls A hAe hsz hX0 hF hK hP hD hA hl hret
  rw [← hsz, ← hAe] at hX0
  have hX : Gl A s := hX0
  obtain ⟨hx9, hb, hml, hown, hts⟩ := id hF
  have hown : s.vm.findClass RL = some m.cls := hown
  have hl : lv_has ls 5 [(0, .ref (aO a)), (1, .ref (aO c9)), (2, .int (nI x9))] := hl
  have hret : ∀ (pc : Nat) (ls : Array Slot) (H : Heap) (locs : List Loc) (r : Int32) (u : BS × BS), decode cL_alike pc = .ok (.ireturn, 1) → va_P D vwCl (gW cy a u.1 ++ gW cy c9 u.2) H → va_D A (gW cy a u.1 ++ gW cy c9 u.2) → va_S A s.heap H locs → (fun (r : Int32) (w : BS × BS) => r = 1 ∧ Rep v w.1 ∧ Rep v w.2) r u → W p l e rm_L_alike s m args below meth c H locs 200 1200 Q (F0 m pc ls [.int r]) := hret
  obtain ⟨n, hn1, hx⟩ := hI.1
  have hO := hI.Ok
  obtain ⟨hn, hgu, hok⟩ := hx.ok
  suffices key : ∀ (H : Heap) (locs : List Loc), va_P D vwCl (gW cy a u ++ gW cy c9 w) H → va_D A (gW cy a u ++ gW cy c9 w) → va_S A s.heap H locs → W p l e rm_L_alike s m args below meth c H locs 0 0 Q (F0 m 0 ls []) from key s.heap [] hP hD va_S.rf
  intro H locs hP hD hS
  refine lv_aload_n hx9 hb dL_alike_0 rfl (lv_at hl 0 rfl) ?_
  refine lv_iload_n hx9 hb dL_alike_1 rfl (lv_at hl 2 rfl) ?_
  refine lv_i2l (v := Int32.toInt64 (nI x9)) hx9 hb dL_alike_2 rfl ?_
  refine lv_iconst (v := 1) hx9 hb dL_alike_3 (by decide) ?_
  refine lv_iload_n hx9 hb dL_alike_4 rfl (lv_at hl 2 rfl) ?_
  refine lv_bipush (v := 60) hx9 hb dL_alike_5 (by decide) ?_
  refine lv_irem hx9 hb dL_alike_7 (by decide) ?_
  refine zz_top (y := nI (x9 % 60)) (pk_rem (d := 60) (by omega) (by decide) (by decide)) ?_
  refine lv_iadd hx9 hb dL_alike_8 ?_
  refine zz_top (y := nI (1 + (x9 % 60))) (nI_add _ _) ?_
  refine wr_i (fun w9 : BS => gW cy a w9 ++ gW cy c9 w) (vx_runSW (As := [.ref (aO a), .long (Int32.toInt64 (nI x9)), .int (nI (1 + (x9 % 60)))]) (rest := []) hF (c_L_doSimulate l D cy hl0 a v u hO hR (Int32.toInt64 (nI x9)) (nI (1 + (x9 % 60))) H.size) (vx_cwSW 3 hts gL_alike_L_doSimulate rfl rfl rfl (by decide +kernel) ⟨Nat.le_of_ble_eq_true rfl, Nat.le_of_ble_eq_true rfl⟩) (wrX_preS hK hP hD (List.Perm.refl _) Xok_l (fun U hU hW => Gl.at hX hS (zz_free hD (List.Perm.refl _) hS hA) hU hW)) rfl rfl hl.1 rfl (lv_room (Nat.le_of_ble_eq_true rfl)) dL_alike_9 ⟨Nat.le_of_ble_eq_true rfl, Nat.le_of_ble_eq_true rfl⟩) hP hD hS hA (List.Perm.refl _) (fun _ => List.Perm.refl _) (fun r_1 u_2 H locs e_3 hP hD hS => ?_)
  obtain ⟨x_5, hR_4⟩ : r_1 = qSi v (Int32.toInt64 (nI x9)) (nI (1 + (x9 % 60))) ∧ Rep v u_2 := by exact e_3
  subst x_5
  have hP : va_P D vwCl (gW cy a u_2 ++ gW cy c9 w) H := hP
  have hD : va_D A (gW cy a u_2 ++ gW cy c9 w) := hD
  refine lv_aload_n hx9 hb dL_alike_12 rfl (lv_at hl 1 rfl) ?_
  refine lv_iload_n hx9 hb dL_alike_13 rfl (lv_at hl 2 rfl) ?_
  refine lv_i2l (v := Int32.toInt64 (nI x9)) hx9 hb dL_alike_14 rfl ?_
  refine lv_iconst (v := 1) hx9 hb dL_alike_15 (by decide) ?_
  refine lv_iload_n hx9 hb dL_alike_16 rfl (lv_at hl 2 rfl) ?_
  refine lv_bipush (v := 60) hx9 hb dL_alike_17 (by decide) ?_
  refine lv_irem hx9 hb dL_alike_19 (by decide) ?_
  refine zz_top (y := nI (x9 % 60)) (pk_rem (d := 60) (by omega) (by decide) (by decide)) ?_
  refine lv_iadd hx9 hb dL_alike_20 ?_
  refine zz_top (y := nI (1 + (x9 % 60))) (nI_add _ _) ?_
  refine wr_i (fun w9 : BS => gW cy a u_2 ++ gW cy c9 w9) (vx_runSW (As := [.ref (aO c9), .long (Int32.toInt64 (nI x9)), .int (nI (1 + (x9 % 60)))]) (rest := [.int (qSi v (Int32.toInt64 (nI x9)) (nI (1 + (x9 % 60))))]) hF (c_L_doSimulate l D cy hl0 c9 v w hO hR2 (Int32.toInt64 (nI x9)) (nI (1 + (x9 % 60))) H.size) (vx_cwSW 3 hts gL_alike_L_doSimulate rfl rfl rfl (by decide +kernel) ⟨Nat.le_of_ble_eq_true rfl, Nat.le_of_ble_eq_true rfl⟩) (wrX_preS hK hP hD List.perm_append_comm Xok_l (fun U hU hW => Gl.at hX hS (zz_free hD List.perm_append_comm hS hA) hU hW)) rfl rfl hl.1 rfl (lv_room (Nat.le_of_ble_eq_true rfl)) dL_alike_21 ⟨Nat.le_of_ble_eq_true rfl, Nat.le_of_ble_eq_true rfl⟩) hP hD hS hA List.perm_append_comm (fun _ => List.perm_append_comm) (fun r_6 u_7 H locs e_8 hP hD hS => ?_)
  obtain ⟨x_10, hR_9⟩ : r_6 = qSi v (Int32.toInt64 (nI x9)) (nI (1 + (x9 % 60))) ∧ Rep v u_7 := by exact e_8
  subst x_10
  have hP : va_P D vwCl (gW cy a u_2 ++ gW cy c9 u_7) H := hP
  have hD : va_D A (gW cy a u_2 ++ gW cy c9 u_7) := hD
  refine lv_icmp_ne (tgt := 42) hx9 hb dL_alike_24 (by decide) (fun c_11 => ?_) (fun c_11 => ?_)
  · exact absurd rfl c_11
  · have c_11 : (qSi v (Int32.toInt64 (nI x9)) (nI (1 + (x9 % 60)))) = (qSi v (Int32.toInt64 (nI x9)) (nI (1 + (x9 % 60)))) := c_11
    refine lv_aload_n hx9 hb dL_alike_27 rfl (lv_at hl 0 rfl) ?_
    refine wr_i (fun w9 : BS => gW cy a w9 ++ gW cy c9 u_7) (va_runV (As := []) (rest := []) hF (m_best l D cy hl0 a v u_2 hO hR_4 H.size) (cwV 0 hts gL_alike_X7_best rfl rfl rfl (by decide +kernel) ⟨Nat.le_of_ble_eq_true rfl, Nat.le_of_ble_eq_true rfl⟩) (wrX_preV hK hP hD (List.Perm.refl _) 0 4 rfl rfl rfl Xok_x (fun U hU hW => Gx.at hX.1 hS (zz_free hD (List.Perm.refl _) hS hA) hU hW)) rfl rfl hl.1 rfl (lv_room (Nat.le_of_ble_eq_true rfl)) dL_alike_28 ⟨Nat.le_of_ble_eq_true rfl, Nat.le_of_ble_eq_true rfl⟩) hP hD hS hA (List.Perm.refl _) (fun _ => List.Perm.refl _) (fun r_12 u_13 H locs e_14 hP hD hS => ?_)
    obtain ⟨x_16, hR_15⟩ : r_12 = hBst (hN v.1) v.1 ∧ Rep v u_13 := by exact e_14
    subst x_16
    have hP : va_P D vwCl (gW cy a u_13 ++ gW cy c9 u_7) H := hP
    have hD : va_D A (gW cy a u_13 ++ gW cy c9 u_7) := hD
    refine lv_aload_n hx9 hb dL_alike_31 rfl (lv_at hl 1 rfl) ?_
    refine wr_i (fun w9 : BS => gW cy a u_13 ++ gW cy c9 w9) (va_runV (As := []) (rest := [.int (hBst (hN v.1) v.1)]) hF (m_best l D cy hl0 c9 v u_7 hO hR_9 H.size) (cwV 0 hts gL_alike_X7_best rfl rfl rfl (by decide +kernel) ⟨Nat.le_of_ble_eq_true rfl, Nat.le_of_ble_eq_true rfl⟩) (wrX_preV hK hP hD List.perm_append_comm 0 4 rfl rfl rfl Xok_x (fun U hU hW => Gx.at hX.1 hS (zz_free hD List.perm_append_comm hS hA) hU hW)) rfl rfl hl.1 rfl (lv_room (Nat.le_of_ble_eq_true rfl)) dL_alike_32 ⟨Nat.le_of_ble_eq_true rfl, Nat.le_of_ble_eq_true rfl⟩) hP hD hS hA List.perm_append_comm (fun _ => List.perm_append_comm) (fun r_17 u_18 H locs e_19 hP hD hS => ?_)
    obtain ⟨x_21, hR_20⟩ : r_17 = hBst (hN v.1) v.1 ∧ Rep v u_18 := by exact e_19
    subst x_21
    have hP : va_P D vwCl (gW cy a u_13 ++ gW cy c9 u_18) H := hP
    have hD : va_D A (gW cy a u_13 ++ gW cy c9 u_18) := hD
    refine lv_icmp_ne (tgt := 42) hx9 hb dL_alike_35 (by decide) (fun c_22 => ?_) (fun c_22 => ?_)
    · exact absurd rfl c_22
    · have c_22 : (hBst (hN v.1) v.1) = (hBst (hN v.1) v.1) := c_22
      refine lv_iconst (v := 1) hx9 hb dL_alike_38 (by decide) ?_
      refine lv_goto (tgt := 43) hx9 hb dL_alike_39 (by decide) ?_
      refine lv_istore_n (lv' := [(3, .int 1), (0, .ref (aO a)), (1, .ref (aO c9)), (2, .int (nI x9))]) hx9 hb dL_alike_43 rfl hl (by decide) rfl (fun ls hl => ?_)
      refine lv_iconst (v := 0) hx9 hb dL_alike_44 (by decide) ?_
      refine lv_istore (lv' := [(4, .int 0), (3, .int 1), (0, .ref (aO a)), (1, .ref (aO c9)), (2, .int (nI x9))]) hx9 hb dL_alike_45 hl (by decide) rfl (fun ls hl => ?_)
      have loop : ∀ (k i : Nat) (ck cq : Nat), ∀ (u_o : BS) (u_q : BS) (H : Heap) (locs : List Loc) (ls : Array Slot), i ≤ 12 → 13 ≤ i + k → ck + 12 * (12 - i) ≤ 160 → cq + 70 * (12 - i) ≤ 900 → Rep v u_o → Rep v u_q → va_P D vwCl (gW cy a u_o ++ gW cy c9 u_q) H → va_D A (gW cy a u_o ++ gW cy c9 u_q) → va_S A s.heap H locs → lv_has ls 5 [(4, .int (nI i)), (3, .int 1), (0, .ref (aO a)), (1, .ref (aO c9)), (2, .int (nI x9))] → W p l e rm_L_alike s m args below meth c H locs ck cq Q (F0 m 47 ls []) := by
        intro k
        induction k with
        | zero =>
          intro i ck cq u_o u_q H locs ls hi hk hc1 hc2 hR_o hR_q hP hD hS hl
          exact absurd hk (by omega)
        | succ k ih =>
          intro i ck cq u_o u_q H locs ls hi hk hc1 hc2 hR_o hR_q hP hD hS hl
          refine lv_iload hx9 hb dL_alike_47 (lv_at hl 0 rfl) ?_
          refine lv_bipush (v := 12) hx9 hb dL_alike_49 (by decide) ?_
          refine lv_icmp_ge (tgt := 164) hx9 hb dL_alike_51 (by decide) (fun c_23 => ?_) (fun c_23 => ?_)
          · have c_23 : 12 ≤ i := (nI_leI (a := 12) (b := i) (by omega) (by omega)).mp c_23
            refine lv_iload_n hx9 hb dL_alike_164 rfl (lv_at hl 1 rfl) ?_
            refine W.widen (k := 200) (n := 1200) (by omega) (by omega) ?_
            exact hret _ _ H locs _ (u_o, u_q) dL_alike_165 hP hD hS ⟨rfl, hR_o, hR_q⟩
          · have c_23 : ¬ 12 ≤ i := fun q => c_23 ((nI_leI (a := 12) (b := i) (by omega) (by omega)).mpr q)
            refine lv_iload_n hx9 hb dL_alike_54 rfl (lv_at hl 1 rfl) ?_
            refine lv_if_eq (tgt := 164) hx9 hb dL_alike_55 (by decide) (fun c_24 => ?_) (fun c_24 => ?_)
            · exact absurd c_24 (by decide)
            · refine lv_aload_n hx9 hb dL_alike_58 rfl (lv_at hl 2 rfl) ?_
              refine lv_iconst (v := 2) hx9 hb dL_alike_59 (by decide) ?_
              refine lv_iload hx9 hb dL_alike_60 (lv_at hl 0 rfl) ?_
              refine lv_iconst (v := 0) hx9 hb dL_alike_62 (by decide) ?_
              refine lv_iconst (v := 0) hx9 hb dL_alike_63 (by decide) ?_
              refine wr_i (fun w9 : BS => gW cy a w9 ++ gW cy c9 u_q) (va_runS (As := [.ref (aO a), .int 2, .int (nI i), .int 0, .int 0]) (rest := []) hF (c_L_call_2 l D cy hl0 a v u_o hO hR_o (nI i) 0 0 H.size) (va_cwS 5 hts gL_alike_L_call rfl rfl rfl (by decide +kernel) ⟨Nat.le_of_ble_eq_true rfl, Nat.le_of_ble_eq_true rfl⟩) (wrX_preS hK hP hD (List.Perm.refl _) Xok_l (fun U hU hW => Gl.at hX hS (zz_free hD (List.Perm.refl _) hS hA) hU hW)) rfl rfl hl.1 rfl (lv_room (Nat.le_of_ble_eq_true rfl)) dL_alike_64 ⟨(by show _ ≤ 200; omega), (by show _ ≤ 1200; omega)⟩) hP hD hS hA (List.Perm.refl _) (fun _ => List.Perm.refl _) (fun r_25 u_26 H locs e_27 hP hD hS => ?_)
              obtain ⟨x_29, hR_28⟩ : r_25 = qAb v (nI i) ∧ Rep v u_26 := by exact e_27
              subst x_29
              have hP : va_P D vwCl (gW cy a u_26 ++ gW cy c9 u_q) H := hP
              have hD : va_D A (gW cy a u_26 ++ gW cy c9 u_q) := hD
              refine lv_aload_n hx9 hb dL_alike_67 rfl (lv_at hl 3 rfl) ?_
              refine lv_iconst (v := 2) hx9 hb dL_alike_68 (by decide) ?_
              refine lv_iload hx9 hb dL_alike_69 (lv_at hl 0 rfl) ?_
              refine lv_iconst (v := 0) hx9 hb dL_alike_71 (by decide) ?_
              refine lv_iconst (v := 0) hx9 hb dL_alike_72 (by decide) ?_
              refine wr_i (fun w9 : BS => gW cy a u_26 ++ gW cy c9 w9) (va_runS (As := [.ref (aO c9), .int 2, .int (nI i), .int 0, .int 0]) (rest := [.int (qAb v (nI i))]) hF (c_L_call_2 l D cy hl0 c9 v u_q hO hR_q (nI i) 0 0 H.size) (va_cwS 5 hts gL_alike_L_call rfl rfl rfl (by decide +kernel) ⟨Nat.le_of_ble_eq_true rfl, Nat.le_of_ble_eq_true rfl⟩) (wrX_preS hK hP hD List.perm_append_comm Xok_l (fun U hU hW => Gl.at hX hS (zz_free hD List.perm_append_comm hS hA) hU hW)) rfl rfl hl.1 rfl (lv_room (Nat.le_of_ble_eq_true rfl)) dL_alike_73 ⟨(by show _ ≤ 200; omega), (by show _ ≤ 1200; omega)⟩) hP hD hS hA List.perm_append_comm (fun _ => List.perm_append_comm) (fun r_30 u_31 H locs e_32 hP hD hS => ?_)
              obtain ⟨x_34, hR_33⟩ : r_30 = qAb v (nI i) ∧ Rep v u_31 := by exact e_32
              subst x_34
              have hP : va_P D vwCl (gW cy a u_26 ++ gW cy c9 u_31) H := hP
              have hD : va_D A (gW cy a u_26 ++ gW cy c9 u_31) := hD
              refine lv_icmp_ne (tgt := 156) hx9 hb dL_alike_76 (by decide) (fun c_35 => ?_) (fun c_35 => ?_)
              · exact absurd rfl c_35
              · have c_35 : (qAb v (nI i)) = (qAb v (nI i)) := c_35
                refine lv_aload_n hx9 hb dL_alike_79 rfl (lv_at hl 2 rfl) ?_
                refine lv_iconst (v := 3) hx9 hb dL_alike_80 (by decide) ?_
                refine lv_iload hx9 hb dL_alike_81 (lv_at hl 0 rfl) ?_
                refine lv_iload_n hx9 hb dL_alike_83 rfl (lv_at hl 4 rfl) ?_
                refine lv_bipush (v := 8) hx9 hb dL_alike_84 (by decide) ?_
                refine lv_irem hx9 hb dL_alike_86 (by decide) ?_
                refine zz_top (y := nI (x9 % 8)) (pk_rem (d := 8) (by omega) (by decide) (by decide)) ?_
                refine lv_iconst (v := 0) hx9 hb dL_alike_87 (by decide) ?_
                refine wr_i (fun w9 : BS => gW cy a w9 ++ gW cy c9 u_31) (va_runS (As := [.ref (aO a), .int 3, .int (nI i), .int (nI (x9 % 8)), .int 0]) (rest := []) hF (c_L_call_3 l D cy hl0 a v u_26 hO hR_28 (nI i) (nI (x9 % 8)) 0 H.size) (va_cwS 5 hts gL_alike_L_call rfl rfl rfl (by decide +kernel) ⟨Nat.le_of_ble_eq_true rfl, Nat.le_of_ble_eq_true rfl⟩) (wrX_preS hK hP hD (List.Perm.refl _) Xok_l (fun U hU hW => Gl.at hX hS (zz_free hD (List.Perm.refl _) hS hA) hU hW)) rfl rfl hl.1 rfl (lv_room (Nat.le_of_ble_eq_true rfl)) dL_alike_88 ⟨(by show _ ≤ 200; omega), (by show _ ≤ 1200; omega)⟩) hP hD hS hA (List.Perm.refl _) (fun _ => List.Perm.refl _) (fun r_36 u_37 H locs e_38 hP hD hS => ?_)
                obtain ⟨x_40, hR_39⟩ : r_36 = qGu v (nI i) (nI (x9 % 8)) ∧ Rep v u_37 := by exact e_38
                subst x_40
                have hP : va_P D vwCl (gW cy a u_37 ++ gW cy c9 u_31) H := hP
                have hD : va_D A (gW cy a u_37 ++ gW cy c9 u_31) := hD
                refine lv_aload_n hx9 hb dL_alike_91 rfl (lv_at hl 3 rfl) ?_
                refine lv_iconst (v := 3) hx9 hb dL_alike_92 (by decide) ?_
                refine lv_iload hx9 hb dL_alike_93 (lv_at hl 0 rfl) ?_
                refine lv_iload_n hx9 hb dL_alike_95 rfl (lv_at hl 4 rfl) ?_
                refine lv_bipush (v := 8) hx9 hb dL_alike_96 (by decide) ?_
                refine lv_irem hx9 hb dL_alike_98 (by decide) ?_
                refine zz_top (y := nI (x9 % 8)) (pk_rem (d := 8) (by omega) (by decide) (by decide)) ?_
                refine lv_iconst (v := 0) hx9 hb dL_alike_99 (by decide) ?_
                refine wr_i (fun w9 : BS => gW cy a u_37 ++ gW cy c9 w9) (va_runS (As := [.ref (aO c9), .int 3, .int (nI i), .int (nI (x9 % 8)), .int 0]) (rest := [.int (qGu v (nI i) (nI (x9 % 8)))]) hF (c_L_call_3 l D cy hl0 c9 v u_31 hO hR_33 (nI i) (nI (x9 % 8)) 0 H.size) (va_cwS 5 hts gL_alike_L_call rfl rfl rfl (by decide +kernel) ⟨Nat.le_of_ble_eq_true rfl, Nat.le_of_ble_eq_true rfl⟩) (wrX_preS hK hP hD List.perm_append_comm Xok_l (fun U hU hW => Gl.at hX hS (zz_free hD List.perm_append_comm hS hA) hU hW)) rfl rfl hl.1 rfl (lv_room (Nat.le_of_ble_eq_true rfl)) dL_alike_100 ⟨(by show _ ≤ 200; omega), (by show _ ≤ 1200; omega)⟩) hP hD hS hA List.perm_append_comm (fun _ => List.perm_append_comm) (fun r_41 u_42 H locs e_43 hP hD hS => ?_)
                obtain ⟨x_45, hR_44⟩ : r_41 = qGu v (nI i) (nI (x9 % 8)) ∧ Rep v u_42 := by exact e_43
                subst x_45
                have hP : va_P D vwCl (gW cy a u_37 ++ gW cy c9 u_42) H := hP
                have hD : va_D A (gW cy a u_37 ++ gW cy c9 u_42) := hD
                refine lv_icmp_ne (tgt := 156) hx9 hb dL_alike_103 (by decide) (fun c_46 => ?_) (fun c_46 => ?_)
                · exact absurd rfl c_46
                · have c_46 : (qGu v (nI i) (nI (x9 % 8))) = (qGu v (nI i) (nI (x9 % 8))) := c_46
                  refine lv_aload_n hx9 hb dL_alike_106 rfl (lv_at hl 2 rfl) ?_
                  refine lv_iconst (v := 4) hx9 hb dL_alike_107 (by decide) ?_
                  refine lv_iload hx9 hb dL_alike_108 (lv_at hl 0 rfl) ?_
                  refine lv_iload_n hx9 hb dL_alike_110 rfl (lv_at hl 4 rfl) ?_
                  refine lv_iconst (v := 3) hx9 hb dL_alike_111 (by decide) ?_
                  refine lv_irem hx9 hb dL_alike_112 (by decide) ?_
                  refine zz_top (y := nI (x9 % 3)) (pk_rem (d := 3) (by omega) (by decide) (by decide)) ?_
                  refine lv_iconst (v := 0) hx9 hb dL_alike_113 (by decide) ?_
                  refine wr_i (fun w9 : BS => gW cy a w9 ++ gW cy c9 u_42) (va_runS (As := [.ref (aO a), .int 4, .int (nI i), .int (nI (x9 % 3)), .int 0]) (rest := []) hF (c_L_call_4 l D cy hl0 a v u_37 hO hR_39 (nI i) (nI (x9 % 3)) 0 H.size) (va_cwS 5 hts gL_alike_L_call rfl rfl rfl (by decide +kernel) ⟨Nat.le_of_ble_eq_true rfl, Nat.le_of_ble_eq_true rfl⟩) (wrX_preS hK hP hD (List.Perm.refl _) Xok_l (fun U hU hW => Gl.at hX hS (zz_free hD (List.Perm.refl _) hS hA) hU hW)) rfl rfl hl.1 rfl (lv_room (Nat.le_of_ble_eq_true rfl)) dL_alike_114 ⟨(by show _ ≤ 200; omega), (by show _ ≤ 1200; omega)⟩) hP hD hS hA (List.Perm.refl _) (fun _ => List.Perm.refl _) (fun r_47 u_48 H locs e_49 hP hD hS => ?_)
                  obtain ⟨x_51, hR_50⟩ : r_47 = qFl v (nI i) (nI (x9 % 3)) ∧ Rep v u_48 := by exact e_49
                  subst x_51
                  have hP : va_P D vwCl (gW cy a u_48 ++ gW cy c9 u_42) H := hP
                  have hD : va_D A (gW cy a u_48 ++ gW cy c9 u_42) := hD
                  refine lv_aload_n hx9 hb dL_alike_117 rfl (lv_at hl 3 rfl) ?_
                  refine lv_iconst (v := 4) hx9 hb dL_alike_118 (by decide) ?_
                  refine lv_iload hx9 hb dL_alike_119 (lv_at hl 0 rfl) ?_
                  refine lv_iload_n hx9 hb dL_alike_121 rfl (lv_at hl 4 rfl) ?_
                  refine lv_iconst (v := 3) hx9 hb dL_alike_122 (by decide) ?_
                  refine lv_irem hx9 hb dL_alike_123 (by decide) ?_
                  refine zz_top (y := nI (x9 % 3)) (pk_rem (d := 3) (by omega) (by decide) (by decide)) ?_
                  refine lv_iconst (v := 0) hx9 hb dL_alike_124 (by decide) ?_
                  refine wr_i (fun w9 : BS => gW cy a u_48 ++ gW cy c9 w9) (va_runS (As := [.ref (aO c9), .int 4, .int (nI i), .int (nI (x9 % 3)), .int 0]) (rest := [.int (qFl v (nI i) (nI (x9 % 3)))]) hF (c_L_call_4 l D cy hl0 c9 v u_42 hO hR_44 (nI i) (nI (x9 % 3)) 0 H.size) (va_cwS 5 hts gL_alike_L_call rfl rfl rfl (by decide +kernel) ⟨Nat.le_of_ble_eq_true rfl, Nat.le_of_ble_eq_true rfl⟩) (wrX_preS hK hP hD List.perm_append_comm Xok_l (fun U hU hW => Gl.at hX hS (zz_free hD List.perm_append_comm hS hA) hU hW)) rfl rfl hl.1 rfl (lv_room (Nat.le_of_ble_eq_true rfl)) dL_alike_125 ⟨(by show _ ≤ 200; omega), (by show _ ≤ 1200; omega)⟩) hP hD hS hA List.perm_append_comm (fun _ => List.perm_append_comm) (fun r_52 u_53 H locs e_54 hP hD hS => ?_)
                  obtain ⟨x_56, hR_55⟩ : r_52 = qFl v (nI i) (nI (x9 % 3)) ∧ Rep v u_53 := by exact e_54
                  subst x_56
                  have hP : va_P D vwCl (gW cy a u_48 ++ gW cy c9 u_53) H := hP
                  have hD : va_D A (gW cy a u_48 ++ gW cy c9 u_53) := hD
                  refine lv_icmp_ne (tgt := 156) hx9 hb dL_alike_128 (by decide) (fun c_57 => ?_) (fun c_57 => ?_)
                  · exact absurd rfl c_57
                  · have c_57 : (qFl v (nI i) (nI (x9 % 3))) = (qFl v (nI i) (nI (x9 % 3))) := c_57
                    refine lv_aload_n hx9 hb dL_alike_131 rfl (lv_at hl 2 rfl) ?_
                    refine lv_iconst (v := 5) hx9 hb dL_alike_132 (by decide) ?_
                    refine lv_iload hx9 hb dL_alike_133 (lv_at hl 0 rfl) ?_
                    refine lv_iconst (v := 0) hx9 hb dL_alike_135 (by decide) ?_
                    refine lv_iconst (v := 0) hx9 hb dL_alike_136 (by decide) ?_
                    refine wr_i (fun w9 : BS => gW cy a w9 ++ gW cy c9 u_53) (va_runS (As := [.ref (aO a), .int 5, .int (nI i), .int 0, .int 0]) (rest := []) hF (c_L_call_5 l D cy hl0 a v u_48 hO hR_50 (nI i) 0 0 H.size) (va_cwS 5 hts gL_alike_L_call rfl rfl rfl (by decide +kernel) ⟨Nat.le_of_ble_eq_true rfl, Nat.le_of_ble_eq_true rfl⟩) (wrX_preS hK hP hD (List.Perm.refl _) Xok_l (fun U hU hW => Gl.at hX hS (zz_free hD (List.Perm.refl _) hS hA) hU hW)) rfl rfl hl.1 rfl (lv_room (Nat.le_of_ble_eq_true rfl)) dL_alike_137 ⟨(by show _ ≤ 200; omega), (by show _ ≤ 1200; omega)⟩) hP hD hS hA (List.Perm.refl _) (fun _ => List.Perm.refl _) (fun r_58 u_59 H locs e_60 hP hD hS => ?_)
                    obtain ⟨x_62, hR_61⟩ : r_58 = qSe v (nI i) ∧ Rep v u_59 := by exact e_60
                    subst x_62
                    have hP : va_P D vwCl (gW cy a u_59 ++ gW cy c9 u_53) H := hP
                    have hD : va_D A (gW cy a u_59 ++ gW cy c9 u_53) := hD
                    refine lv_aload_n hx9 hb dL_alike_140 rfl (lv_at hl 3 rfl) ?_
                    refine lv_iconst (v := 5) hx9 hb dL_alike_141 (by decide) ?_
                    refine lv_iload hx9 hb dL_alike_142 (lv_at hl 0 rfl) ?_
                    refine lv_iconst (v := 0) hx9 hb dL_alike_144 (by decide) ?_
                    refine lv_iconst (v := 0) hx9 hb dL_alike_145 (by decide) ?_
                    refine wr_i (fun w9 : BS => gW cy a u_59 ++ gW cy c9 w9) (va_runS (As := [.ref (aO c9), .int 5, .int (nI i), .int 0, .int 0]) (rest := [.int (qSe v (nI i))]) hF (c_L_call_5 l D cy hl0 c9 v u_53 hO hR_55 (nI i) 0 0 H.size) (va_cwS 5 hts gL_alike_L_call rfl rfl rfl (by decide +kernel) ⟨Nat.le_of_ble_eq_true rfl, Nat.le_of_ble_eq_true rfl⟩) (wrX_preS hK hP hD List.perm_append_comm Xok_l (fun U hU hW => Gl.at hX hS (zz_free hD List.perm_append_comm hS hA) hU hW)) rfl rfl hl.1 rfl (lv_room (Nat.le_of_ble_eq_true rfl)) dL_alike_146 ⟨(by show _ ≤ 200; omega), (by show _ ≤ 1200; omega)⟩) hP hD hS hA List.perm_append_comm (fun _ => List.perm_append_comm) (fun r_63 u_64 H locs e_65 hP hD hS => ?_)
                    obtain ⟨x_67, hR_66⟩ : r_63 = qSe v (nI i) ∧ Rep v u_64 := by exact e_65
                    subst x_67
                    have hP : va_P D vwCl (gW cy a u_59 ++ gW cy c9 u_64) H := hP
                    have hD : va_D A (gW cy a u_59 ++ gW cy c9 u_64) := hD
                    refine lv_icmp_ne (tgt := 156) hx9 hb dL_alike_149 (by decide) (fun c_68 => ?_) (fun c_68 => ?_)
                    · exact absurd rfl c_68
                    · have c_68 : (qSe v (nI i)) = (qSe v (nI i)) := c_68
                      refine lv_iconst (v := 1) hx9 hb dL_alike_152 (by decide) ?_
                      refine lv_goto (tgt := 157) hx9 hb dL_alike_153 (by decide) ?_
                      refine lv_istore_n (lv' := [(3, .int 1), (4, .int (nI i)), (0, .ref (aO a)), (1, .ref (aO c9)), (2, .int (nI x9))]) hx9 hb dL_alike_157 rfl hl (by decide) rfl (fun ls hl => ?_)
                      refine lv_iinc (v := nI (i + 1)) (lv' := [(4, .int (nI (i + 1))), (3, .int 1), (0, .ref (aO a)), (1, .ref (aO c9)), (2, .int (nI x9))]) hx9 hb dL_alike_158 hl (k := 1) rfl (nI_add (i) 1) (by decide) rfl (fun ls hl => ?_)
                      refine lv_goto (tgt := 47) hx9 hb dL_alike_161 (by decide) ?_
                      refine W.widen (k := ck + 12) (n := cq + 70) (by omega) (by omega) ?_
                      exact ih (i + 1) (ck + 12) (cq + 70) u_59 u_64 _ _ _ (by omega) (by omega) (by omega) (by omega) hR_61 hR_66 hP hD hS (lv_sub hl [0, 1, 2, 3, 4] rfl)
      refine W.widen (k := 2) (n := 12) (by omega) (by omega) ?_
      exact loop 13 0 (2) (12) u_13 u_18 _ _ _ (by omega) (by omega) (by omega) (by omega) hR_15 hR_20 hP hD hS (lv_sub hl [0, 1, 2, 3, 4] rfl)
