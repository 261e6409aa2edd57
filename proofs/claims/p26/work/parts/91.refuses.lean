abbrev rm_L_refuses : Room := { frames := 14, cells := 300, slots := 1800, locals := 317 }
set_option maxHeartbeats 4000000 in
set_option maxRecDepth 100000 in
/-- calls that are refused leave no trace -/
theorem c_L_refuses (l : Launch) (D : va_G) (cy : Nat → ClassId) (hl0 : l.stackTraces = false) (a : AD) (v : AV) (u : BS) (B k : Nat) (hk9 : k < 100000) (hI : Inv B v) (hR : Rep v u) (sz : Nat) : aMet l yL_refuses wsL_refuses rm_L_refuses D cy a [.int (nI k)] u sz (fun (r : Int32) (w : BS) => r = 1 ∧ Rep v w) 300 1800 := by
  refine MwiX (cc := cL_refuses) (maxL := 6) (ty := .boolean) (by decide) rfl (Nat.le_of_ble_eq_true rfl) (fun _ _ q => by rw [q.1]; rfl) ?_
  intro p e s m args below meth c Q ls A hAe hsz hX0 hF hK hP hD hA hl hret
  rw [← hsz, ← hAe] at hX0
  have hX : Gl A s := hX0
  obtain ⟨hx9, hb, hml, hown, hts⟩ := id hF
  have hown : s.vm.findClass RL = some m.cls := hown
  have hl : lv_has ls 6 [(0, .ref (aO a)), (1, .int (nI k))] := hl
  have hret : ∀ (pc : Nat) (ls : Array Slot) (H : Heap) (locs : List Loc) (r : Int32) (u : BS), decode cL_refuses pc = .ok (.ireturn, 1) → va_P D vwCl (gW cy a u) H → va_D A (gW cy a u) → va_S A s.heap H locs → (fun (r : Int32) (w : BS) => r = 1 ∧ Rep v w) r u → W p l e rm_L_refuses s m args below meth c H locs 300 1800 Q (F0 m pc ls [.int r]) := hret
  obtain ⟨n, hn1, hx⟩ := hI.1
  have hO := hI.Ok
  obtain ⟨hn, hgu, hok⟩ := hx.ok
  suffices key : ∀ (H : Heap) (locs : List Loc), va_P D vwCl (gW cy a u) H → va_D A (gW cy a u) → va_S A s.heap H locs → W p l e rm_L_refuses s m args below meth c H locs 0 0 Q (F0 m 0 ls []) from key s.heap [] hP hD va_S.rf
  intro H locs hP hD hS
  refine lv_aload_n hx9 hb dL_refuses_0 rfl (lv_at hl 0 rfl) ?_
  refine lv_iconst (v := 2) hx9 hb dL_refuses_1 (by decide) ?_
  refine lv_iconst (v := 0) hx9 hb dL_refuses_2 (by decide) ?_
  refine lv_iconst (v := 0) hx9 hb dL_refuses_3 (by decide) ?_
  refine lv_iconst (v := 0) hx9 hb dL_refuses_4 (by decide) ?_
  refine wr_i (fun w9 : BS => gW cy a w9) (va_runS (As := [.ref (aO a), .int 2, .int 0, .int 0, .int 0]) (rest := []) hF (c_L_call_2 l D cy hl0 a v u hO hR 0 0 0 H.size) (va_cwS 5 hts gL_refuses_L_call rfl rfl rfl (by decide +kernel) ⟨Nat.le_of_ble_eq_true rfl, Nat.le_of_ble_eq_true rfl⟩) (wrX_preS hK hP hD (zz_all _) Xok_l (fun U hU hW => Gl.at hX hS (zz_free hD (zz_all _) hS hA) hU hW)) rfl rfl hl.1 rfl (lv_room (Nat.le_of_ble_eq_true rfl)) dL_refuses_5 ⟨Nat.le_of_ble_eq_true rfl, Nat.le_of_ble_eq_true rfl⟩) hP hD hS hA (zz_all _) (fun _ => zz_all _) (fun r_1 u_2 H locs e_3 hP hD hS => ?_)
  obtain ⟨x_5, hR_4⟩ : r_1 = nI n ∧ Rep v u_2 := by rw [qAb_0 hx] at e_3; exact e_3
  subst x_5
  have hP : va_P D vwCl (gW cy a u_2) H := hP
  have hD : va_D A (gW cy a u_2) := hD
  refine lv_istore_n (lv' := [(2, .int (nI n)), (0, .ref (aO a)), (1, .int (nI k))]) hx9 hb dL_refuses_8 rfl hl (by decide) rfl (fun ls hl => ?_)
  have jn_30 : ∀ (u_6 : BS) (H : Heap) (locs : List Loc) (ls : Array Slot), Rep v u_6 → va_P D vwCl (gW cy a u_6) H → va_D A (gW cy a u_6) → va_S A s.heap H locs → lv_has ls 6 [(2, .int (nI n)), (0, .ref (aO a)), (1, .int (nI k))] → W p l e rm_L_refuses s m args below meth c H locs (1) (6) Q (F0 m 30 ls [.int (rNo n k)]) := by
    intro u_6 H locs ls hR_7 hP hD hS hl
    refine lv_istore_n (lv' := [(3, .int (rNo n k)), (2, .int (nI n)), (0, .ref (aO a)), (1, .int (nI k))]) hx9 hb dL_refuses_30 rfl hl (by decide) rfl (fun ls hl => ?_)
    have jn_53 : ∀ (u_8 : BS) (H : Heap) (locs : List Loc) (ls : Array Slot), Rep v u_8 → va_P D vwCl (gW cy a u_8) H → va_D A (gW cy a u_8) → va_S A s.heap H locs → lv_has ls 6 [(3, .int (rNo n k)), (2, .int (nI n)), (0, .ref (aO a)), (1, .int (nI k))] → W p l e rm_L_refuses s m args below meth c H locs (1) (6) Q (F0 m 53 ls [.int (rAw k)]) := by
      intro u_8 H locs ls hR_9 hP hD hS hl
      refine lv_istore (lv' := [(4, .int (rAw k)), (3, .int (rNo n k)), (2, .int (nI n)), (0, .ref (aO a)), (1, .int (nI k))]) hx9 hb dL_refuses_53 hl (by decide) rfl (fun ls hl => ?_)
      refine lv_aload_n hx9 hb dL_refuses_55 rfl (lv_at hl 3 rfl) ?_
      refine lv_iconst (v := 0) hx9 hb dL_refuses_56 (by decide) ?_
      have jn_80 : ∀ (u_10 : BS) (H : Heap) (locs : List Loc) (ls : Array Slot), Rep v u_10 → va_P D vwCl (gW cy a u_10) H → va_D A (gW cy a u_10) → va_S A s.heap H locs → lv_has ls 6 [(4, .int (rAw k)), (3, .int (rNo n k)), (2, .int (nI n)), (0, .ref (aO a)), (1, .int (nI k))] → W p l e rm_L_refuses s m args below meth c H locs (1) (6) Q (F0 m 80 ls [.int (rCh k), .int 0, .ref (aO a)]) := by
        intro u_10 H locs ls hR_11 hP hD hS hl
        refine lv_iconst (v := 0) hx9 hb dL_refuses_80 (by decide) ?_
        refine lv_iconst (v := 0) hx9 hb dL_refuses_81 (by decide) ?_
        refine wr_i (fun w9 : BS => gW cy a w9) (va_runS (As := [.ref (aO a), .int 0, .int (rCh k), .int 0, .int 0]) (rest := []) hF (c_L_call_0 l D cy hl0 a v u_10 hO hR_11 (rCh k) 0 0 rCh_no H.size) (va_cwS 5 hts gL_refuses_L_call rfl rfl rfl (by decide +kernel) ⟨Nat.le_of_ble_eq_true rfl, Nat.le_of_ble_eq_true rfl⟩) (wrX_preS hK hP hD (zz_all _) Xok_l (fun U hU hW => Gl.at hX hS (zz_free hD (zz_all _) hS hA) hU hW)) rfl rfl hl.1 rfl (lv_room (Nat.le_of_ble_eq_true rfl)) dL_refuses_82 ⟨Nat.le_of_ble_eq_true rfl, Nat.le_of_ble_eq_true rfl⟩) hP hD hS hA (zz_all _) (fun _ => zz_all _) (fun r_12 u_13 H locs e_14 hP hD hS => ?_)
        obtain ⟨x_16, hR_15⟩ : r_12 = (-9999002) ∧ Rep v u_13 := by exact e_14
        subst x_16
        have hP : va_P D vwCl (gW cy a u_13) H := hP
        have hD : va_D A (gW cy a u_13) := hD
        refine lv_ldc (v := (-9999002)) hx9 hb hown (hts (.constant RL 18 (-9999002)) (by decide +kernel)) dL_refuses_85 ?_
        refine lv_icmp_ne (tgt := 601) hx9 hb dL_refuses_87 (by decide) (fun c_17 => ?_) (fun c_17 => ?_)
        · exact absurd c_17 (by decide)
        · refine lv_aload_n hx9 hb dL_refuses_90 rfl (lv_at hl 3 rfl) ?_
          refine lv_iconst (v := 2) hx9 hb dL_refuses_91 (by decide) ?_
          refine lv_bipush (v := 12) hx9 hb dL_refuses_92 (by decide) ?_
          refine lv_iload_n hx9 hb dL_refuses_94 rfl (lv_at hl 4 rfl) ?_
          refine lv_bipush (v := 50) hx9 hb dL_refuses_95 (by decide) ?_
          refine lv_irem hx9 hb dL_refuses_97 (by decide) ?_
          refine zz_top (y := nI (k % 50)) (pk_rem (d := 50) (by omega) (by decide) (by decide)) ?_
          refine lv_iadd hx9 hb dL_refuses_98 ?_
          refine zz_top (y := nI (12 + (k % 50))) (nI_add _ _) ?_
          refine lv_iconst (v := 0) hx9 hb dL_refuses_99 (by decide) ?_
          refine lv_iconst (v := 0) hx9 hb dL_refuses_100 (by decide) ?_
          refine wr_i (fun w9 : BS => gW cy a w9) (va_runS (As := [.ref (aO a), .int 2, .int (nI (12 + (k % 50))), .int 0, .int 0]) (rest := []) hF (c_L_call_2 l D cy hl0 a v u_13 hO hR_15 (nI (12 + (k % 50))) 0 0 H.size) (va_cwS 5 hts gL_refuses_L_call rfl rfl rfl (by decide +kernel) ⟨Nat.le_of_ble_eq_true rfl, Nat.le_of_ble_eq_true rfl⟩) (wrX_preS hK hP hD (zz_all _) Xok_l (fun U hU hW => Gl.at hX hS (zz_free hD (zz_all _) hS hA) hU hW)) rfl rfl hl.1 rfl (lv_room (Nat.le_of_ble_eq_true rfl)) dL_refuses_101 ⟨Nat.le_of_ble_eq_true rfl, Nat.le_of_ble_eq_true rfl⟩) hP hD hS hA (zz_all _) (fun _ => zz_all _) (fun r_18 u_19 H locs e_20 hP hD hS => ?_)
          obtain ⟨x_22, hR_21⟩ : r_18 = (-9999002) ∧ Rep v u_19 := by rw [qAb_no (nin (a := 0) (c := 11) (Or.inr (nI_lt (a := 11) (by omega) (by omega))))] at e_20; exact e_20
          subst x_22
          have hP : va_P D vwCl (gW cy a u_19) H := hP
          have hD : va_D A (gW cy a u_19) := hD
          refine lv_ldc (v := (-9999002)) hx9 hb hown (hts (.constant RL 18 (-9999002)) (by decide +kernel)) dL_refuses_104 ?_
          refine lv_icmp_ne (tgt := 601) hx9 hb dL_refuses_106 (by decide) (fun c_23 => ?_) (fun c_23 => ?_)
          · exact absurd c_23 (by decide)
          · refine lv_aload_n hx9 hb dL_refuses_109 rfl (lv_at hl 3 rfl) ?_
            refine lv_iconst (v := 3) hx9 hb dL_refuses_110 (by decide) ?_
            refine lv_iload_n hx9 hb dL_refuses_111 rfl (lv_at hl 1 rfl) ?_
            refine lv_bipush (v := 99) hx9 hb dL_refuses_112 (by decide) ?_
            refine lv_iconst (v := 0) hx9 hb dL_refuses_114 (by decide) ?_
            refine wr_i (fun w9 : BS => gW cy a w9) (va_runS (As := [.ref (aO a), .int 3, .int (rNo n k), .int 99, .int 0]) (rest := []) hF (c_L_call_3 l D cy hl0 a v u_19 hO hR_21 (rNo n k) 99 0 H.size) (va_cwS 5 hts gL_refuses_L_call rfl rfl rfl (by decide +kernel) ⟨Nat.le_of_ble_eq_true rfl, Nat.le_of_ble_eq_true rfl⟩) (wrX_preS hK hP hD (zz_all _) Xok_l (fun U hU hW => Gl.at hX hS (zz_free hD (zz_all _) hS hA) hU hW)) rfl rfl hl.1 rfl (lv_room (Nat.le_of_ble_eq_true rfl)) dL_refuses_115 ⟨Nat.le_of_ble_eq_true rfl, Nat.le_of_ble_eq_true rfl⟩) hP hD hS hA (zz_all _) (fun _ => zz_all _) (fun r_24 u_25 H locs e_26 hP hD hS => ?_)
            obtain ⟨x_28, hR_27⟩ : r_24 = (-9999001) ∧ Rep v u_25 := by rw [qGu_ng hx (rNo_no hn)] at e_26; exact e_26
            subst x_28
            have hP : va_P D vwCl (gW cy a u_25) H := hP
            have hD : va_D A (gW cy a u_25) := hD
            refine lv_ldc (v := (-9999001)) hx9 hb hown (hts (.constant RL 15 (-9999001)) (by decide +kernel)) dL_refuses_118 ?_
            refine lv_icmp_ne (tgt := 601) hx9 hb dL_refuses_120 (by decide) (fun c_29 => ?_) (fun c_29 => ?_)
            · exact absurd c_29 (by decide)
            · refine lv_aload_n hx9 hb dL_refuses_123 rfl (lv_at hl 3 rfl) ?_
              refine lv_iconst (v := 3) hx9 hb dL_refuses_124 (by decide) ?_
              refine lv_iconst (v := 0) hx9 hb dL_refuses_125 (by decide) ?_
              refine lv_bipush (v := 8) hx9 hb dL_refuses_126 (by decide) ?_
              refine lv_iload_n hx9 hb dL_refuses_128 rfl (lv_at hl 4 rfl) ?_
              refine lv_bipush (v := 9) hx9 hb dL_refuses_129 (by decide) ?_
              refine lv_irem hx9 hb dL_refuses_131 (by decide) ?_
              refine zz_top (y := nI (k % 9)) (pk_rem (d := 9) (by omega) (by decide) (by decide)) ?_
              refine lv_iadd hx9 hb dL_refuses_132 ?_
              refine zz_top (y := nI (8 + (k % 9))) (nI_add _ _) ?_
              refine lv_iconst (v := 0) hx9 hb dL_refuses_133 (by decide) ?_
              refine wr_i (fun w9 : BS => gW cy a w9) (va_runS (As := [.ref (aO a), .int 3, .int 0, .int (nI (8 + (k % 9))), .int 0]) (rest := []) hF (c_L_call_3 l D cy hl0 a v u_25 hO hR_27 0 (nI (8 + (k % 9))) 0 H.size) (va_cwS 5 hts gL_refuses_L_call rfl rfl rfl (by decide +kernel) ⟨Nat.le_of_ble_eq_true rfl, Nat.le_of_ble_eq_true rfl⟩) (wrX_preS hK hP hD (zz_all _) Xok_l (fun U hU hW => Gl.at hX hS (zz_free hD (zz_all _) hS hA) hU hW)) rfl rfl hl.1 rfl (lv_room (Nat.le_of_ble_eq_true rfl)) dL_refuses_134 ⟨Nat.le_of_ble_eq_true rfl, Nat.le_of_ble_eq_true rfl⟩) hP hD hS hA (zz_all _) (fun _ => zz_all _) (fun r_30 u_31 H locs e_32 hP hD hS => ?_)
              obtain ⟨x_34, hR_33⟩ : r_30 = (-9999002) ∧ Rep v u_31 := by rw [qGu_nw hx hn1 (nin (a := 0) (c := 7) (Or.inr (nI_lt (a := 7) (by omega) (by omega))))] at e_32; exact e_32
              subst x_34
              have hP : va_P D vwCl (gW cy a u_31) H := hP
              have hD : va_D A (gW cy a u_31) := hD
              refine lv_ldc (v := (-9999002)) hx9 hb hown (hts (.constant RL 18 (-9999002)) (by decide +kernel)) dL_refuses_137 ?_
              refine lv_icmp_ne (tgt := 601) hx9 hb dL_refuses_139 (by decide) (fun c_35 => ?_) (fun c_35 => ?_)
              · exact absurd c_35 (by decide)
              · refine lv_aload_n hx9 hb dL_refuses_142 rfl (lv_at hl 3 rfl) ?_
                refine lv_iconst (v := 4) hx9 hb dL_refuses_143 (by decide) ?_
                refine lv_iload hx9 hb dL_refuses_144 (lv_at hl 0 rfl) ?_
                refine lv_bipush (v := 9) hx9 hb dL_refuses_146 (by decide) ?_
                refine lv_iconst (v := 0) hx9 hb dL_refuses_148 (by decide) ?_
                refine wr_i (fun w9 : BS => gW cy a w9) (va_runS (As := [.ref (aO a), .int 4, .int (rAw k), .int 9, .int 0]) (rest := []) hF (c_L_call_4 l D cy hl0 a v u_31 hO hR_33 (rAw k) 9 0 H.size) (va_cwS 5 hts gL_refuses_L_call rfl rfl rfl (by decide +kernel) ⟨Nat.le_of_ble_eq_true rfl, Nat.le_of_ble_eq_true rfl⟩) (wrX_preS hK hP hD (zz_all _) Xok_l (fun U hU hW => Gl.at hX hS (zz_free hD (zz_all _) hS hA) hU hW)) rfl rfl hl.1 rfl (lv_room (Nat.le_of_ble_eq_true rfl)) dL_refuses_149 ⟨Nat.le_of_ble_eq_true rfl, Nat.le_of_ble_eq_true rfl⟩) hP hD hS hA (zz_all _) (fun _ => zz_all _) (fun r_36 u_37 H locs e_38 hP hD hS => ?_)
                obtain ⟨x_40, hR_39⟩ : r_36 = (-9999001) ∧ Rep v u_37 := by rw [qFl_nf rAw_no] at e_38; exact e_38
                subst x_40
                have hP : va_P D vwCl (gW cy a u_37) H := hP
                have hD : va_D A (gW cy a u_37) := hD
                refine lv_ldc (v := (-9999001)) hx9 hb hown (hts (.constant RL 15 (-9999001)) (by decide +kernel)) dL_refuses_152 ?_
                refine lv_icmp_ne (tgt := 601) hx9 hb dL_refuses_154 (by decide) (fun c_41 => ?_) (fun c_41 => ?_)
                · exact absurd c_41 (by decide)
                · refine lv_aload_n hx9 hb dL_refuses_157 rfl (lv_at hl 3 rfl) ?_
                  refine lv_iconst (v := 4) hx9 hb dL_refuses_158 (by decide) ?_
                  refine lv_iconst (v := 0) hx9 hb dL_refuses_159 (by decide) ?_
                  refine lv_iconst (v := 3) hx9 hb dL_refuses_160 (by decide) ?_
                  refine lv_iload_n hx9 hb dL_refuses_161 rfl (lv_at hl 4 rfl) ?_
                  refine lv_bipush (v := 9) hx9 hb dL_refuses_162 (by decide) ?_
                  refine lv_irem hx9 hb dL_refuses_164 (by decide) ?_
                  refine zz_top (y := nI (k % 9)) (pk_rem (d := 9) (by omega) (by decide) (by decide)) ?_
                  refine lv_iadd hx9 hb dL_refuses_165 ?_
                  refine zz_top (y := nI (3 + (k % 9))) (nI_add _ _) ?_
                  refine lv_iconst (v := 0) hx9 hb dL_refuses_166 (by decide) ?_
                  refine wr_i (fun w9 : BS => gW cy a w9) (va_runS (As := [.ref (aO a), .int 4, .int 0, .int (nI (3 + (k % 9))), .int 0]) (rest := []) hF (c_L_call_4 l D cy hl0 a v u_37 hO hR_39 0 (nI (3 + (k % 9))) 0 H.size) (va_cwS 5 hts gL_refuses_L_call rfl rfl rfl (by decide +kernel) ⟨Nat.le_of_ble_eq_true rfl, Nat.le_of_ble_eq_true rfl⟩) (wrX_preS hK hP hD (zz_all _) Xok_l (fun U hU hW => Gl.at hX hS (zz_free hD (zz_all _) hS hA) hU hW)) rfl rfl hl.1 rfl (lv_room (Nat.le_of_ble_eq_true rfl)) dL_refuses_167 ⟨Nat.le_of_ble_eq_true rfl, Nat.le_of_ble_eq_true rfl⟩) hP hD hS hA (zz_all _) (fun _ => zz_all _) (fun r_42 u_43 H locs e_44 hP hD hS => ?_)
                  obtain ⟨x_46, hR_45⟩ : r_42 = (-9999002) ∧ Rep v u_43 := by rw [qFl_nw (nin (a := 0) (c := 2) (Or.inr (nI_lt (a := 2) (by omega) (by omega))))] at e_44; exact e_44
                  subst x_46
                  have hP : va_P D vwCl (gW cy a u_43) H := hP
                  have hD : va_D A (gW cy a u_43) := hD
                  refine lv_ldc (v := (-9999002)) hx9 hb hown (hts (.constant RL 18 (-9999002)) (by decide +kernel)) dL_refuses_170 ?_
                  refine lv_icmp_ne (tgt := 601) hx9 hb dL_refuses_172 (by decide) (fun c_47 => ?_) (fun c_47 => ?_)
                  · exact absurd c_47 (by decide)
                  · refine lv_aload_n hx9 hb dL_refuses_175 rfl (lv_at hl 3 rfl) ?_
                    refine lv_iconst (v := 5) hx9 hb dL_refuses_176 (by decide) ?_
                    refine lv_iconst (v := 3) hx9 hb dL_refuses_177 (by decide) ?_
                    refine lv_iload_n hx9 hb dL_refuses_178 rfl (lv_at hl 4 rfl) ?_
                    refine lv_bipush (v := 9) hx9 hb dL_refuses_179 (by decide) ?_
                    refine lv_irem hx9 hb dL_refuses_181 (by decide) ?_
                    refine zz_top (y := nI (k % 9)) (pk_rem (d := 9) (by omega) (by decide) (by decide)) ?_
                    refine lv_iadd hx9 hb dL_refuses_182 ?_
                    refine zz_top (y := nI (3 + (k % 9))) (nI_add _ _) ?_
                    refine lv_iconst (v := 0) hx9 hb dL_refuses_183 (by decide) ?_
                    refine lv_iconst (v := 0) hx9 hb dL_refuses_184 (by decide) ?_
                    refine wr_i (fun w9 : BS => gW cy a w9) (va_runS (As := [.ref (aO a), .int 5, .int (nI (3 + (k % 9))), .int 0, .int 0]) (rest := []) hF (c_L_call_5 l D cy hl0 a v u_43 hO hR_45 (nI (3 + (k % 9))) 0 0 H.size) (va_cwS 5 hts gL_refuses_L_call rfl rfl rfl (by decide +kernel) ⟨Nat.le_of_ble_eq_true rfl, Nat.le_of_ble_eq_true rfl⟩) (wrX_preS hK hP hD (zz_all _) Xok_l (fun U hU hW => Gl.at hX hS (zz_free hD (zz_all _) hS hA) hU hW)) rfl rfl hl.1 rfl (lv_room (Nat.le_of_ble_eq_true rfl)) dL_refuses_185 ⟨Nat.le_of_ble_eq_true rfl, Nat.le_of_ble_eq_true rfl⟩) hP hD hS hA (zz_all _) (fun _ => zz_all _) (fun r_48 u_49 H locs e_50 hP hD hS => ?_)
                    obtain ⟨x_52, hR_51⟩ : r_48 = (-9999002) ∧ Rep v u_49 := by rw [qSe_no (nin (a := 0) (c := 2) (Or.inr (nI_lt (a := 2) (by omega) (by omega))))] at e_50; exact e_50
                    subst x_52
                    have hP : va_P D vwCl (gW cy a u_49) H := hP
                    have hD : va_D A (gW cy a u_49) := hD
                    refine lv_ldc (v := (-9999002)) hx9 hb hown (hts (.constant RL 18 (-9999002)) (by decide +kernel)) dL_refuses_188 ?_
                    refine lv_icmp_ne (tgt := 601) hx9 hb dL_refuses_190 (by decide) (fun c_53 => ?_) (fun c_53 => ?_)
                    · exact absurd c_53 (by decide)
                    · refine lv_aload_n hx9 hb dL_refuses_193 rfl (lv_at hl 3 rfl) ?_
                      refine lv_iload hx9 hb dL_refuses_194 (lv_at hl 0 rfl) ?_
                      refine lv_iconst (v := 0) hx9 hb dL_refuses_196 (by decide) ?_
                      refine lv_iconst (v := 0) hx9 hb dL_refuses_197 (by decide) ?_
                      refine lv_bipush (v := 9) hx9 hb dL_refuses_198 (by decide) ?_
                      refine wr_i (fun w9 : BS => gW cy a w9) (vx_runSW (As := [.ref (aO a), .int (rAw k), .int 0, .int 0, .int 9]) (rest := []) hF (c_L_comes l D cy hl0 a v u_49 hO hR_51 (rAw k) 0 0 9 H.size) (vx_cwSW 5 hts gL_refuses_L_comes rfl rfl rfl (by decide +kernel) ⟨Nat.le_of_ble_eq_true rfl, Nat.le_of_ble_eq_true rfl⟩) (wrX_preS hK hP hD (zz_all _) Xok_l (fun U hU hW => Gl.at hX hS (zz_free hD (zz_all _) hS hA) hU hW)) rfl rfl hl.1 rfl (lv_room (Nat.le_of_ble_eq_true rfl)) dL_refuses_200 ⟨Nat.le_of_ble_eq_true rfl, Nat.le_of_ble_eq_true rfl⟩) hP hD hS hA (zz_all _) (fun _ => zz_all _) (fun r_54 u_55 H locs e_56 hP hD hS => ?_)
                      obtain ⟨x_58, hR_57⟩ : r_54 = (-9999001) ∧ Rep v u_55 := by rw [aCome_n1 (Or.inl rAw_no)] at e_56; exact e_56
                      subst x_58
                      have hP : va_P D vwCl (gW cy a u_55) H := hP
                      have hD : va_D A (gW cy a u_55) := hD
                      refine lv_ldc (v := (-9999001)) hx9 hb hown (hts (.constant RL 15 (-9999001)) (by decide +kernel)) dL_refuses_203 ?_
                      refine lv_icmp_ne (tgt := 601) hx9 hb dL_refuses_205 (by decide) (fun c_59 => ?_) (fun c_59 => ?_)
                      · exact absurd c_59 (by decide)
                      · refine lv_aload_n hx9 hb dL_refuses_208 rfl (lv_at hl 3 rfl) ?_
                        refine lv_iconst (v := 0) hx9 hb dL_refuses_209 (by decide) ?_
                        refine lv_iload hx9 hb dL_refuses_210 (lv_at hl 0 rfl) ?_
                        refine lv_iconst (v := 0) hx9 hb dL_refuses_212 (by decide) ?_
                        refine lv_bipush (v := 9) hx9 hb dL_refuses_213 (by decide) ?_
                        refine wr_i (fun w9 : BS => gW cy a w9) (vx_runSW (As := [.ref (aO a), .int 0, .int (rAw k), .int 0, .int 9]) (rest := []) hF (c_L_comes l D cy hl0 a v u_55 hO hR_57 0 (rAw k) 0 9 H.size) (vx_cwSW 5 hts gL_refuses_L_comes rfl rfl rfl (by decide +kernel) ⟨Nat.le_of_ble_eq_true rfl, Nat.le_of_ble_eq_true rfl⟩) (wrX_preS hK hP hD (zz_all _) Xok_l (fun U hU hW => Gl.at hX hS (zz_free hD (zz_all _) hS hA) hU hW)) rfl rfl hl.1 rfl (lv_room (Nat.le_of_ble_eq_true rfl)) dL_refuses_215 ⟨Nat.le_of_ble_eq_true rfl, Nat.le_of_ble_eq_true rfl⟩) hP hD hS hA (zz_all _) (fun _ => zz_all _) (fun r_60 u_61 H locs e_62 hP hD hS => ?_)
                        obtain ⟨x_64, hR_63⟩ : r_60 = (-9999001) ∧ Rep v u_61 := by rw [aCome_n1 (Or.inr (Or.inl ⟨by decide, rAw_no⟩))] at e_62; exact e_62
                        subst x_64
                        have hP : va_P D vwCl (gW cy a u_61) H := hP
                        have hD : va_D A (gW cy a u_61) := hD
                        refine lv_ldc (v := (-9999001)) hx9 hb hown (hts (.constant RL 15 (-9999001)) (by decide +kernel)) dL_refuses_218 ?_
                        refine lv_icmp_ne (tgt := 601) hx9 hb dL_refuses_220 (by decide) (fun c_65 => ?_) (fun c_65 => ?_)
                        · exact absurd c_65 (by decide)
                        · refine lv_aload_n hx9 hb dL_refuses_223 rfl (lv_at hl 3 rfl) ?_
                          refine lv_iconst (v := 0) hx9 hb dL_refuses_224 (by decide) ?_
                          refine lv_iconst (v := 0) hx9 hb dL_refuses_225 (by decide) ?_
                          refine lv_iload hx9 hb dL_refuses_226 (lv_at hl 0 rfl) ?_
                          refine lv_bipush (v := 9) hx9 hb dL_refuses_228 (by decide) ?_
                          refine wr_i (fun w9 : BS => gW cy a w9) (vx_runSW (As := [.ref (aO a), .int 0, .int 0, .int (rAw k), .int 9]) (rest := []) hF (c_L_comes l D cy hl0 a v u_61 hO hR_63 0 0 (rAw k) 9 H.size) (vx_cwSW 5 hts gL_refuses_L_comes rfl rfl rfl (by decide +kernel) ⟨Nat.le_of_ble_eq_true rfl, Nat.le_of_ble_eq_true rfl⟩) (wrX_preS hK hP hD (zz_all _) Xok_l (fun U hU hW => Gl.at hX hS (zz_free hD (zz_all _) hS hA) hU hW)) rfl rfl hl.1 rfl (lv_room (Nat.le_of_ble_eq_true rfl)) dL_refuses_230 ⟨Nat.le_of_ble_eq_true rfl, Nat.le_of_ble_eq_true rfl⟩) hP hD hS hA (zz_all _) (fun _ => zz_all _) (fun r_66 u_67 H locs e_68 hP hD hS => ?_)
                          obtain ⟨x_70, hR_69⟩ : r_66 = (-9999001) ∧ Rep v u_67 := by rw [aCome_n1 (Or.inr (Or.inr ⟨by decide, by decide, rAw_no⟩))] at e_68; exact e_68
                          subst x_70
                          have hP : va_P D vwCl (gW cy a u_67) H := hP
                          have hD : va_D A (gW cy a u_67) := hD
                          refine lv_ldc (v := (-9999001)) hx9 hb hown (hts (.constant RL 15 (-9999001)) (by decide +kernel)) dL_refuses_233 ?_
                          refine lv_icmp_ne (tgt := 601) hx9 hb dL_refuses_235 (by decide) (fun c_71 => ?_) (fun c_71 => ?_)
                          · exact absurd c_71 (by decide)
                          · refine lv_aload_n hx9 hb dL_refuses_238 rfl (lv_at hl 3 rfl) ?_
                            refine lv_iconst (v := 0) hx9 hb dL_refuses_239 (by decide) ?_
                            refine lv_iconst (v := 0) hx9 hb dL_refuses_240 (by decide) ?_
                            refine lv_iconst (v := 0) hx9 hb dL_refuses_241 (by decide) ?_
                            have jn_258 : ∀ (u_72 : BS) (H : Heap) (locs : List Loc) (ls : Array Slot), Rep v u_72 → va_P D vwCl (gW cy a u_72) H → va_D A (gW cy a u_72) → va_S A s.heap H locs → lv_has ls 6 [(4, .int (rAw k)), (3, .int (rNo n k)), (2, .int (nI n)), (0, .ref (aO a)), (1, .int (nI k))] → W p l e rm_L_refuses s m args below meth c H locs (40) (213) Q (F0 m 258 ls [.int (rWe k), .int 0, .int 0, .int 0, .ref (aO a)]) := by
                              intro u_72 H locs ls hR_73 hP hD hS hl
                              refine wr_i (fun w9 : BS => gW cy a w9) (vx_runSW (As := [.ref (aO a), .int 0, .int 0, .int 0, .int (rWe k)]) (rest := []) hF (c_L_comes l D cy hl0 a v u_72 hO hR_73 0 0 0 (rWe k) H.size) (vx_cwSW 5 hts gL_refuses_L_comes rfl rfl rfl (by decide +kernel) ⟨Nat.le_of_ble_eq_true rfl, Nat.le_of_ble_eq_true rfl⟩) (wrX_preS hK hP hD (zz_all _) Xok_l (fun U hU hW => Gl.at hX hS (zz_free hD (zz_all _) hS hA) hU hW)) rfl rfl hl.1 rfl (lv_room (Nat.le_of_ble_eq_true rfl)) dL_refuses_258 ⟨Nat.le_of_ble_eq_true rfl, Nat.le_of_ble_eq_true rfl⟩) hP hD hS hA (zz_all _) (fun _ => zz_all _) (fun r_74 u_75 H locs e_76 hP hD hS => ?_)
                              obtain ⟨x_78, hR_77⟩ : r_74 = (-9999002) ∧ Rep v u_75 := by rw [aCome_n2 rWe_no] at e_76; exact e_76
                              subst x_78
                              have hP : va_P D vwCl (gW cy a u_75) H := hP
                              have hD : va_D A (gW cy a u_75) := hD
                              refine lv_ldc (v := (-9999002)) hx9 hb hown (hts (.constant RL 18 (-9999002)) (by decide +kernel)) dL_refuses_261 ?_
                              refine lv_icmp_ne (tgt := 601) hx9 hb dL_refuses_263 (by decide) (fun c_79 => ?_) (fun c_79 => ?_)
                              · exact absurd c_79 (by decide)
                              · refine lv_aload_n hx9 hb dL_refuses_266 rfl (lv_at hl 3 rfl) ?_
                                refine lv_bipush (v := 6) hx9 hb dL_refuses_267 (by decide) ?_
                                refine lv_iload_n hx9 hb dL_refuses_269 rfl (lv_at hl 1 rfl) ?_
                                refine lv_iconst (v := 0) hx9 hb dL_refuses_270 (by decide) ?_
                                refine lv_iconst (v := 0) hx9 hb dL_refuses_271 (by decide) ?_
                                refine wr_i (fun w9 : BS => gW cy a w9) (va_runS (As := [.ref (aO a), .int 6, .int (rNo n k), .int 0, .int 0]) (rest := []) hF (c_L_call_6 l D cy hl0 a v u_75 hO hR_77 (rNo n k) 0 0 H.size) (va_cwS 5 hts gL_refuses_L_call rfl rfl rfl (by decide +kernel) ⟨Nat.le_of_ble_eq_true rfl, Nat.le_of_ble_eq_true rfl⟩) (wrX_preS hK hP hD (zz_all _) Xok_l (fun U hU hW => Gl.at hX hS (zz_free hD (zz_all _) hS hA) hU hW)) rfl rfl hl.1 rfl (lv_room (Nat.le_of_ble_eq_true rfl)) dL_refuses_272 ⟨Nat.le_of_ble_eq_true rfl, Nat.le_of_ble_eq_true rfl⟩) hP hD hS hA (zz_all _) (fun _ => zz_all _) (fun r_80 u_81 H locs e_82 hP hD hS => ?_)
                                obtain ⟨x_84, hR_83⟩ : r_80 = (-9999001) ∧ Rep v u_81 := by rw [aLeave_no hx (rNo_no hn)] at e_82; exact e_82
                                subst x_84
                                have hP : va_P D vwCl (gW cy a u_81) H := hP
                                have hD : va_D A (gW cy a u_81) := hD
                                refine lv_ldc (v := (-9999001)) hx9 hb hown (hts (.constant RL 15 (-9999001)) (by decide +kernel)) dL_refuses_275 ?_
                                refine lv_icmp_ne (tgt := 601) hx9 hb dL_refuses_277 (by decide) (fun c_85 => ?_) (fun c_85 => ?_)
                                · exact absurd c_85 (by decide)
                                · refine lv_aload_n hx9 hb dL_refuses_280 rfl (lv_at hl 3 rfl) ?_
                                  refine lv_bipush (v := 7) hx9 hb dL_refuses_281 (by decide) ?_
                                  refine lv_iload_n hx9 hb dL_refuses_283 rfl (lv_at hl 1 rfl) ?_
                                  refine lv_iconst (v := 0) hx9 hb dL_refuses_284 (by decide) ?_
                                  refine lv_iconst (v := 0) hx9 hb dL_refuses_285 (by decide) ?_
                                  refine wr_i (fun w9 : BS => gW cy a w9) (va_runS (As := [.ref (aO a), .int 7, .int (rNo n k), .int 0, .int 0]) (rest := []) hF (c_L_call_7 l D cy hl0 a v u_81 hO hR_83 (rNo n k) 0 0 H.size) (va_cwS 5 hts gL_refuses_L_call rfl rfl rfl (by decide +kernel) ⟨Nat.le_of_ble_eq_true rfl, Nat.le_of_ble_eq_true rfl⟩) (wrX_preS hK hP hD (zz_all _) Xok_l (fun U hU hW => Gl.at hX hS (zz_free hD (zz_all _) hS hA) hU hW)) rfl rfl hl.1 rfl (lv_room (Nat.le_of_ble_eq_true rfl)) dL_refuses_286 ⟨Nat.le_of_ble_eq_true rfl, Nat.le_of_ble_eq_true rfl⟩) hP hD hS hA (zz_all _) (fun _ => zz_all _) (fun r_86 u_87 H locs e_88 hP hD hS => ?_)
                                  obtain ⟨x_90, hR_89⟩ : r_86 = (-9999001) ∧ Rep v u_87 := by rw [aPress_no hx (rNo_no hn)] at e_88; exact e_88
                                  subst x_90
                                  have hP : va_P D vwCl (gW cy a u_87) H := hP
                                  have hD : va_D A (gW cy a u_87) := hD
                                  refine lv_ldc (v := (-9999001)) hx9 hb hown (hts (.constant RL 15 (-9999001)) (by decide +kernel)) dL_refuses_289 ?_
                                  refine lv_icmp_ne (tgt := 601) hx9 hb dL_refuses_291 (by decide) (fun c_91 => ?_) (fun c_91 => ?_)
                                  · exact absurd c_91 (by decide)
                                  · refine lv_aload_n hx9 hb dL_refuses_294 rfl (lv_at hl 3 rfl) ?_
                                    refine lv_bipush (v := 8) hx9 hb dL_refuses_295 (by decide) ?_
                                    refine lv_iconst (v := 0) hx9 hb dL_refuses_297 (by decide) ?_
                                    have jn_315 : ∀ (u_92 : BS) (H : Heap) (locs : List Loc) (ls : Array Slot), Rep v u_92 → va_P D vwCl (gW cy a u_92) H → va_D A (gW cy a u_92) → va_S A s.heap H locs → lv_has ls 6 [(4, .int (rAw k)), (3, .int (rNo n k)), (2, .int (nI n)), (0, .ref (aO a)), (1, .int (nI k))] → W p l e rm_L_refuses s m args below meth c H locs (72) (378) Q (F0 m 315 ls [.int (rV0 k), .int 0, .int 8, .ref (aO a)]) := by
                                      intro u_92 H locs ls hR_93 hP hD hS hl
                                      refine lv_iconst (v := 0) hx9 hb dL_refuses_315 (by decide) ?_
                                      refine wr_i (fun w9 : BS => gW cy a w9) (va_runS (As := [.ref (aO a), .int 8, .int 0, .int (rV0 k), .int 0]) (rest := []) hF (c_L_call_8 l D cy hl0 a v u_92 hO hR_93 0 (rV0 k) 0 H.size) (va_cwS 5 hts gL_refuses_L_call rfl rfl rfl (by decide +kernel) ⟨Nat.le_of_ble_eq_true rfl, Nat.le_of_ble_eq_true rfl⟩) (wrX_preS hK hP hD (zz_all _) Xok_l (fun U hU hW => Gl.at hX hS (zz_free hD (zz_all _) hS hA) hU hW)) rfl rfl hl.1 rfl (lv_room (Nat.le_of_ble_eq_true rfl)) dL_refuses_316 ⟨Nat.le_of_ble_eq_true rfl, Nat.le_of_ble_eq_true rfl⟩) hP hD hS hA (zz_all _) (fun _ => zz_all _) (fun r_94 u_95 H locs e_96 hP hD hS => ?_)
                                      obtain ⟨x_98, hR_97⟩ : r_94 = (-9999002) ∧ Rep v u_95 := by rw [aLay_no rV0_no] at e_96; exact e_96
                                      subst x_98
                                      have hP : va_P D vwCl (gW cy a u_95) H := hP
                                      have hD : va_D A (gW cy a u_95) := hD
                                      refine lv_ldc (v := (-9999002)) hx9 hb hown (hts (.constant RL 18 (-9999002)) (by decide +kernel)) dL_refuses_319 ?_
                                      refine lv_icmp_ne (tgt := 601) hx9 hb dL_refuses_321 (by decide) (fun c_99 => ?_) (fun c_99 => ?_)
                                      · exact absurd c_99 (by decide)
                                      · refine lv_aload_n hx9 hb dL_refuses_324 rfl (lv_at hl 3 rfl) ?_
                                        refine lv_bipush (v := 8) hx9 hb dL_refuses_325 (by decide) ?_
                                        refine lv_iconst (v := 1) hx9 hb dL_refuses_327 (by decide) ?_
                                        refine lv_iload_n hx9 hb dL_refuses_328 rfl (lv_at hl 4 rfl) ?_
                                        refine lv_iconst (v := 2) hx9 hb dL_refuses_329 (by decide) ?_
                                        refine lv_irem hx9 hb dL_refuses_330 (by decide) ?_
                                        refine zz_top (y := nI (k % 2)) (pk_rem (d := 2) (by omega) (by decide) (by decide)) ?_
                                        refine lv_iadd hx9 hb dL_refuses_331 ?_
                                        refine zz_top (y := nI (1 + (k % 2))) (nI_add _ _) ?_
                                        have jn_350 : ∀ (u_100 : BS) (H : Heap) (locs : List Loc) (ls : Array Slot), Rep v u_100 → va_P D vwCl (gW cy a u_100) H → va_D A (gW cy a u_100) → va_S A s.heap H locs → lv_has ls 6 [(4, .int (rAw k)), (3, .int (rNo n k)), (2, .int (nI n)), (0, .ref (aO a)), (1, .int (nI k))] → W p l e rm_L_refuses s m args below meth c H locs (82) (429) Q (F0 m 350 ls [.int (rV1 k), .int (nI (1 + (k % 2))), .int 8, .ref (aO a)]) := by
                                          intro u_100 H locs ls hR_101 hP hD hS hl
                                          refine lv_iconst (v := 0) hx9 hb dL_refuses_350 (by decide) ?_
                                          refine wr_i (fun w9 : BS => gW cy a w9) (va_runS (As := [.ref (aO a), .int 8, .int (nI (1 + (k % 2))), .int (rV1 k), .int 0]) (rest := []) hF (c_L_call_8 l D cy hl0 a v u_100 hO hR_101 (nI (1 + (k % 2))) (rV1 k) 0 H.size) (va_cwS 5 hts gL_refuses_L_call rfl rfl rfl (by decide +kernel) ⟨Nat.le_of_ble_eq_true rfl, Nat.le_of_ble_eq_true rfl⟩) (wrX_preS hK hP hD (zz_all _) Xok_l (fun U hU hW => Gl.at hX hS (zz_free hD (zz_all _) hS hA) hU hW)) rfl rfl hl.1 rfl (lv_room (Nat.le_of_ble_eq_true rfl)) dL_refuses_351 ⟨Nat.le_of_ble_eq_true rfl, Nat.le_of_ble_eq_true rfl⟩) hP hD hS hA (zz_all _) (fun _ => zz_all _) (fun r_102 u_103 H locs e_104 hP hD hS => ?_)
                                          obtain ⟨x_106, hR_105⟩ : r_102 = (-9999002) ∧ Rep v u_103 := by rw [aLay_no rV1_no] at e_104; exact e_104
                                          subst x_106
                                          have hP : va_P D vwCl (gW cy a u_103) H := hP
                                          have hD : va_D A (gW cy a u_103) := hD
                                          refine lv_ldc (v := (-9999002)) hx9 hb hown (hts (.constant RL 18 (-9999002)) (by decide +kernel)) dL_refuses_354 ?_
                                          refine lv_icmp_ne (tgt := 601) hx9 hb dL_refuses_356 (by decide) (fun c_107 => ?_) (fun c_107 => ?_)
                                          · exact absurd c_107 (by decide)
                                          · refine lv_aload_n hx9 hb dL_refuses_359 rfl (lv_at hl 3 rfl) ?_
                                            refine lv_bipush (v := 8) hx9 hb dL_refuses_360 (by decide) ?_
                                            refine lv_iconst (v := 3) hx9 hb dL_refuses_362 (by decide) ?_
                                            refine lv_iload_n hx9 hb dL_refuses_363 rfl (lv_at hl 4 rfl) ?_
                                            refine lv_bipush (v := 9) hx9 hb dL_refuses_364 (by decide) ?_
                                            refine lv_irem hx9 hb dL_refuses_366 (by decide) ?_
                                            refine zz_top (y := nI (k % 9)) (pk_rem (d := 9) (by omega) (by decide) (by decide)) ?_
                                            refine lv_iadd hx9 hb dL_refuses_367 ?_
                                            refine zz_top (y := nI (3 + (k % 9))) (nI_add _ _) ?_
                                            refine lv_iconst (v := 5) hx9 hb dL_refuses_368 (by decide) ?_
                                            refine lv_iconst (v := 0) hx9 hb dL_refuses_369 (by decide) ?_
                                            refine wr_i (fun w9 : BS => gW cy a w9) (va_runS (As := [.ref (aO a), .int 8, .int (nI (3 + (k % 9))), .int 5, .int 0]) (rest := []) hF (c_L_call_8 l D cy hl0 a v u_103 hO hR_105 (nI (3 + (k % 9))) 5 0 H.size) (va_cwS 5 hts gL_refuses_L_call rfl rfl rfl (by decide +kernel) ⟨Nat.le_of_ble_eq_true rfl, Nat.le_of_ble_eq_true rfl⟩) (wrX_preS hK hP hD (zz_all _) Xok_l (fun U hU hW => Gl.at hX hS (zz_free hD (zz_all _) hS hA) hU hW)) rfl rfl hl.1 rfl (lv_room (Nat.le_of_ble_eq_true rfl)) dL_refuses_370 ⟨Nat.le_of_ble_eq_true rfl, Nat.le_of_ble_eq_true rfl⟩) hP hD hS hA (zz_all _) (fun _ => zz_all _) (fun r_108 u_109 H locs e_110 hP hD hS => ?_)
                                            obtain ⟨x_112, hR_111⟩ : r_108 = (-9999002) ∧ Rep v u_109 := by rw [aLay_no (fun q => q.1.2 (nI_le (a := 3) (by omega) (by omega)))] at e_110; exact e_110
                                            subst x_112
                                            have hP : va_P D vwCl (gW cy a u_109) H := hP
                                            have hD : va_D A (gW cy a u_109) := hD
                                            refine lv_ldc (v := (-9999002)) hx9 hb hown (hts (.constant RL 18 (-9999002)) (by decide +kernel)) dL_refuses_373 ?_
                                            refine lv_icmp_ne (tgt := 601) hx9 hb dL_refuses_375 (by decide) (fun c_113 => ?_) (fun c_113 => ?_)
                                            · exact absurd c_113 (by decide)
                                            · refine lv_aload_n hx9 hb dL_refuses_378 rfl (lv_at hl 3 rfl) ?_
                                              refine lv_bipush (v := 10) hx9 hb dL_refuses_379 (by decide) ?_
                                              refine lv_iload_n hx9 hb dL_refuses_381 rfl (lv_at hl 1 rfl) ?_
                                              refine lv_iconst (v := 0) hx9 hb dL_refuses_382 (by decide) ?_
                                              refine lv_iconst (v := 0) hx9 hb dL_refuses_383 (by decide) ?_
                                              refine wr_i (fun w9 : BS => gW cy a w9) (va_runS (As := [.ref (aO a), .int 10, .int (rNo n k), .int 0, .int 0]) (rest := []) hF (c_L_call_10 l D cy hl0 a v u_109 hO hR_111 (rNo n k) 0 0 H.size) (va_cwS 5 hts gL_refuses_L_call rfl rfl rfl (by decide +kernel) ⟨Nat.le_of_ble_eq_true rfl, Nat.le_of_ble_eq_true rfl⟩) (wrX_preS hK hP hD (zz_all _) Xok_l (fun U hU hW => Gl.at hX hS (zz_free hD (zz_all _) hS hA) hU hW)) rfl rfl hl.1 rfl (lv_room (Nat.le_of_ble_eq_true rfl)) dL_refuses_384 ⟨Nat.le_of_ble_eq_true rfl, Nat.le_of_ble_eq_true rfl⟩) hP hD hS hA (zz_all _) (fun _ => zz_all _) (fun r_114 u_115 H locs e_116 hP hD hS => ?_)
                                              obtain ⟨x_118, hR_117⟩ : r_114 = (-9999001) ∧ Rep v u_115 := by rw [qWh_no hx (rNo_no hn)] at e_116; exact e_116
                                              subst x_118
                                              have hP : va_P D vwCl (gW cy a u_115) H := hP
                                              have hD : va_D A (gW cy a u_115) := hD
                                              refine lv_ldc (v := (-9999001)) hx9 hb hown (hts (.constant RL 15 (-9999001)) (by decide +kernel)) dL_refuses_387 ?_
                                              refine lv_icmp_ne (tgt := 601) hx9 hb dL_refuses_389 (by decide) (fun c_119 => ?_) (fun c_119 => ?_)
                                              · exact absurd c_119 (by decide)
                                              · refine lv_aload_n hx9 hb dL_refuses_392 rfl (lv_at hl 3 rfl) ?_
                                                refine lv_bipush (v := 11) hx9 hb dL_refuses_393 (by decide) ?_
                                                have jn_411 : ∀ (u_120 : BS) (H : Heap) (locs : List Loc) (ls : Array Slot), Rep v u_120 → va_P D vwCl (gW cy a u_120) H → va_D A (gW cy a u_120) → va_S A s.heap H locs → lv_has ls 6 [(4, .int (rAw k)), (3, .int (rNo n k)), (2, .int (nI n)), (0, .ref (aO a)), (1, .int (nI k))] → W p l e rm_L_refuses s m args below meth c H locs (103) (537) Q (F0 m 411 ls [.int (rFe k), .int 11, .ref (aO a)]) := by
                                                  intro u_120 H locs ls hR_121 hP hD hS hl
                                                  refine lv_iconst (v := 0) hx9 hb dL_refuses_411 (by decide) ?_
                                                  refine lv_iconst (v := 0) hx9 hb dL_refuses_412 (by decide) ?_
                                                  refine wr_i (fun w9 : BS => gW cy a w9) (va_runS (As := [.ref (aO a), .int 11, .int (rFe k), .int 0, .int 0]) (rest := []) hF (c_L_call_11 l D cy hl0 a v u_120 hO hR_121 (rFe k) 0 0 H.size) (va_cwS 5 hts gL_refuses_L_call rfl rfl rfl (by decide +kernel) ⟨Nat.le_of_ble_eq_true rfl, Nat.le_of_ble_eq_true rfl⟩) (wrX_preS hK hP hD (zz_all _) Xok_l (fun U hU hW => Gl.at hX hS (zz_free hD (zz_all _) hS hA) hU hW)) rfl rfl hl.1 rfl (lv_room (Nat.le_of_ble_eq_true rfl)) dL_refuses_413 ⟨Nat.le_of_ble_eq_true rfl, Nat.le_of_ble_eq_true rfl⟩) hP hD hS hA (zz_all _) (fun _ => zz_all _) (fun r_122 u_123 H locs e_124 hP hD hS => ?_)
                                                  obtain ⟨x_126, hR_125⟩ : r_122 = (-9999002) ∧ Rep v u_123 := by rw [qFe_no rFe_no] at e_124; exact e_124
                                                  subst x_126
                                                  have hP : va_P D vwCl (gW cy a u_123) H := hP
                                                  have hD : va_D A (gW cy a u_123) := hD
                                                  refine lv_ldc (v := (-9999002)) hx9 hb hown (hts (.constant RL 18 (-9999002)) (by decide +kernel)) dL_refuses_416 ?_
                                                  refine lv_icmp_ne (tgt := 601) hx9 hb dL_refuses_418 (by decide) (fun c_127 => ?_) (fun c_127 => ?_)
                                                  · exact absurd c_127 (by decide)
                                                  · refine lv_aload_n hx9 hb dL_refuses_421 rfl (lv_at hl 3 rfl) ?_
                                                    refine lv_bipush (v := 12) hx9 hb dL_refuses_422 (by decide) ?_
                                                    have jn_441 : ∀ (u_128 : BS) (H : Heap) (locs : List Loc) (ls : Array Slot), Rep v u_128 → va_P D vwCl (gW cy a u_128) H → va_D A (gW cy a u_128) → va_S A s.heap H locs → lv_has ls 6 [(4, .int (rAw k)), (3, .int (rNo n k)), (2, .int (nI n)), (0, .ref (aO a)), (1, .int (nI k))] → W p l e rm_L_refuses s m args below meth c H locs (104) (543) Q (F0 m 441 ls [.int (rNn k), .int 12, .ref (aO a)]) := by
                                                      intro u_128 H locs ls hR_129 hP hD hS hl
                                                      refine lv_iconst (v := 0) hx9 hb dL_refuses_441 (by decide) ?_
                                                      refine lv_iconst (v := 0) hx9 hb dL_refuses_442 (by decide) ?_
                                                      refine wr_i (fun w9 : BS => gW cy a w9) (va_runS (As := [.ref (aO a), .int 12, .int (rNn k), .int 0, .int 0]) (rest := []) hF (c_L_call_12 l D cy hl0 a v u_128 hO hR_129 (rNn k) 0 0 H.size) (va_cwS 5 hts gL_refuses_L_call rfl rfl rfl (by decide +kernel) ⟨Nat.le_of_ble_eq_true rfl, Nat.le_of_ble_eq_true rfl⟩) (wrX_preS hK hP hD (zz_all _) Xok_l (fun U hU hW => Gl.at hX hS (zz_free hD (zz_all _) hS hA) hU hW)) rfl rfl hl.1 rfl (lv_room (Nat.le_of_ble_eq_true rfl)) dL_refuses_443 ⟨Nat.le_of_ble_eq_true rfl, Nat.le_of_ble_eq_true rfl⟩) hP hD hS hA (zz_all _) (fun _ => zz_all _) (fun r_130 u_131 H locs e_132 hP hD hS => ?_)
                                                      obtain ⟨x_134, hR_133⟩ : r_130 = (-9999002) ∧ Rep v u_131 := by rw [qIf_n1 rNn_no] at e_132; exact e_132
                                                      subst x_134
                                                      have hP : va_P D vwCl (gW cy a u_131) H := hP
                                                      have hD : va_D A (gW cy a u_131) := hD
                                                      refine lv_ldc (v := (-9999002)) hx9 hb hown (hts (.constant RL 18 (-9999002)) (by decide +kernel)) dL_refuses_446 ?_
                                                      refine lv_icmp_ne (tgt := 601) hx9 hb dL_refuses_448 (by decide) (fun c_135 => ?_) (fun c_135 => ?_)
                                                      · exact absurd c_135 (by decide)
                                                      · refine lv_aload_n hx9 hb dL_refuses_451 rfl (lv_at hl 3 rfl) ?_
                                                        refine lv_bipush (v := 12) hx9 hb dL_refuses_452 (by decide) ?_
                                                        refine lv_iconst (v := 2) hx9 hb dL_refuses_454 (by decide) ?_
                                                        have jn_472 : ∀ (u_136 : BS) (H : Heap) (locs : List Loc) (ls : Array Slot), Rep v u_136 → va_P D vwCl (gW cy a u_136) H → va_D A (gW cy a u_136) → va_S A s.heap H locs → lv_has ls 6 [(4, .int (rAw k)), (3, .int (rNo n k)), (2, .int (nI n)), (0, .ref (aO a)), (1, .int (nI k))] → W p l e rm_L_refuses s m args below meth c H locs (105) (549) Q (F0 m 472 ls [.int (rRo k), .int 2, .int 12, .ref (aO a)]) := by
                                                          intro u_136 H locs ls hR_137 hP hD hS hl
                                                          refine lv_iconst (v := 0) hx9 hb dL_refuses_472 (by decide) ?_
                                                          refine wr_i (fun w9 : BS => gW cy a w9) (va_runS (As := [.ref (aO a), .int 12, .int 2, .int (rRo k), .int 0]) (rest := []) hF (c_L_call_12 l D cy hl0 a v u_136 hO hR_137 2 (rRo k) 0 H.size) (va_cwS 5 hts gL_refuses_L_call rfl rfl rfl (by decide +kernel) ⟨Nat.le_of_ble_eq_true rfl, Nat.le_of_ble_eq_true rfl⟩) (wrX_preS hK hP hD (zz_all _) Xok_l (fun U hU hW => Gl.at hX hS (zz_free hD (zz_all _) hS hA) hU hW)) rfl rfl hl.1 rfl (lv_room (Nat.le_of_ble_eq_true rfl)) dL_refuses_473 ⟨Nat.le_of_ble_eq_true rfl, Nat.le_of_ble_eq_true rfl⟩) hP hD hS hA (zz_all _) (fun _ => zz_all _) (fun r_138 u_139 H locs e_140 hP hD hS => ?_)
                                                          obtain ⟨x_142, hR_141⟩ : r_138 = (-9999002) ∧ Rep v u_139 := by rw [qIf_n2] at e_140; exact e_140
                                                          subst x_142
                                                          have hP : va_P D vwCl (gW cy a u_139) H := hP
                                                          have hD : va_D A (gW cy a u_139) := hD
                                                          refine lv_ldc (v := (-9999002)) hx9 hb hown (hts (.constant RL 18 (-9999002)) (by decide +kernel)) dL_refuses_476 ?_
                                                          refine lv_icmp_ne (tgt := 601) hx9 hb dL_refuses_478 (by decide) (fun c_143 => ?_) (fun c_143 => ?_)
                                                          · exact absurd c_143 (by decide)
                                                          · refine lv_aload_n hx9 hb dL_refuses_481 rfl (lv_at hl 3 rfl) ?_
                                                            refine lv_bipush (v := 12) hx9 hb dL_refuses_482 (by decide) ?_
                                                            refine lv_iconst (v := 2) hx9 hb dL_refuses_484 (by decide) ?_
                                                            refine lv_iconst (v := 0) hx9 hb dL_refuses_485 (by decide) ?_
                                                            refine lv_iconst (v := 5) hx9 hb dL_refuses_486 (by decide) ?_
                                                            refine lv_iload_n hx9 hb dL_refuses_487 rfl (lv_at hl 4 rfl) ?_
                                                            refine lv_bipush (v := 9) hx9 hb dL_refuses_488 (by decide) ?_
                                                            refine lv_irem hx9 hb dL_refuses_490 (by decide) ?_
                                                            refine zz_top (y := nI (k % 9)) (pk_rem (d := 9) (by omega) (by decide) (by decide)) ?_
                                                            refine lv_iadd hx9 hb dL_refuses_491 ?_
                                                            refine zz_top (y := nI (5 + (k % 9))) (nI_add _ _) ?_
                                                            refine wr_i (fun w9 : BS => gW cy a w9) (va_runS (As := [.ref (aO a), .int 12, .int 2, .int 0, .int (nI (5 + (k % 9)))]) (rest := []) hF (c_L_call_12 l D cy hl0 a v u_139 hO hR_141 2 0 (nI (5 + (k % 9))) H.size) (va_cwS 5 hts gL_refuses_L_call rfl rfl rfl (by decide +kernel) ⟨Nat.le_of_ble_eq_true rfl, Nat.le_of_ble_eq_true rfl⟩) (wrX_preS hK hP hD (zz_all _) Xok_l (fun U hU hW => Gl.at hX hS (zz_free hD (zz_all _) hS hA) hU hW)) rfl rfl hl.1 rfl (lv_room (Nat.le_of_ble_eq_true rfl)) dL_refuses_492 ⟨Nat.le_of_ble_eq_true rfl, Nat.le_of_ble_eq_true rfl⟩) hP hD hS hA (zz_all _) (fun _ => zz_all _) (fun r_144 u_145 H locs e_146 hP hD hS => ?_)
                                                            obtain ⟨x_148, hR_147⟩ : r_144 = (-9999002) ∧ Rep v u_145 := by rw [qIf_n3 (nin (a := 0) (c := 4) (Or.inr (nI_lt (a := 4) (by omega) (by omega))))] at e_146; exact e_146
                                                            subst x_148
                                                            have hP : va_P D vwCl (gW cy a u_145) H := hP
                                                            have hD : va_D A (gW cy a u_145) := hD
                                                            refine lv_ldc (v := (-9999002)) hx9 hb hown (hts (.constant RL 18 (-9999002)) (by decide +kernel)) dL_refuses_495 ?_
                                                            refine lv_icmp_ne (tgt := 601) hx9 hb dL_refuses_497 (by decide) (fun c_149 => ?_) (fun c_149 => ?_)
                                                            · exact absurd c_149 (by decide)
                                                            · refine lv_aload_n hx9 hb dL_refuses_500 rfl (lv_at hl 3 rfl) ?_
                                                              refine lv_bipush (v := 13) hx9 hb dL_refuses_501 (by decide) ?_
                                                              refine lv_iload_n hx9 hb dL_refuses_503 rfl (lv_at hl 1 rfl) ?_
                                                              refine lv_iconst (v := 0) hx9 hb dL_refuses_504 (by decide) ?_
                                                              refine lv_iconst (v := 0) hx9 hb dL_refuses_505 (by decide) ?_
                                                              refine wr_i (fun w9 : BS => gW cy a w9) (va_runS (As := [.ref (aO a), .int 13, .int (rNo n k), .int 0, .int 0]) (rest := []) hF (c_L_call_13 l D cy hl0 a v u_145 hO hR_147 (rNo n k) 0 0 H.size) (va_cwS 5 hts gL_refuses_L_call rfl rfl rfl (by decide +kernel) ⟨Nat.le_of_ble_eq_true rfl, Nat.le_of_ble_eq_true rfl⟩) (wrX_preS hK hP hD (zz_all _) Xok_l (fun U hU hW => Gl.at hX hS (zz_free hD (zz_all _) hS hA) hU hW)) rfl rfl hl.1 rfl (lv_room (Nat.le_of_ble_eq_true rfl)) dL_refuses_506 ⟨Nat.le_of_ble_eq_true rfl, Nat.le_of_ble_eq_true rfl⟩) hP hD hS hA (zz_all _) (fun _ => zz_all _) (fun r_150 u_151 H locs e_152 hP hD hS => ?_)
                                                              obtain ⟨x_154, hR_153⟩ : r_150 = (-9999001) ∧ Rep v u_151 := by rw [qLe_no hx (rNo_no hn)] at e_152; exact e_152
                                                              subst x_154
                                                              have hP : va_P D vwCl (gW cy a u_151) H := hP
                                                              have hD : va_D A (gW cy a u_151) := hD
                                                              refine lv_ldc (v := (-9999001)) hx9 hb hown (hts (.constant RL 15 (-9999001)) (by decide +kernel)) dL_refuses_509 ?_
                                                              refine lv_icmp_ne (tgt := 601) hx9 hb dL_refuses_511 (by decide) (fun c_155 => ?_) (fun c_155 => ?_)
                                                              · exact absurd c_155 (by decide)
                                                              · refine lv_aload_n hx9 hb dL_refuses_514 rfl (lv_at hl 3 rfl) ?_
                                                                refine lv_bipush (v := 14) hx9 hb dL_refuses_515 (by decide) ?_
                                                                refine lv_iconst (v := 2) hx9 hb dL_refuses_517 (by decide) ?_
                                                                refine lv_iload_n hx9 hb dL_refuses_518 rfl (lv_at hl 4 rfl) ?_
                                                                refine lv_bipush (v := 50) hx9 hb dL_refuses_519 (by decide) ?_
                                                                refine lv_irem hx9 hb dL_refuses_521 (by decide) ?_
                                                                refine zz_top (y := nI (k % 50)) (pk_rem (d := 50) (by omega) (by decide) (by decide)) ?_
                                                                refine lv_iadd hx9 hb dL_refuses_522 ?_
                                                                refine zz_top (y := nI (2 + (k % 50))) (nI_add _ _) ?_
                                                                refine lv_iconst (v := 0) hx9 hb dL_refuses_523 (by decide) ?_
                                                                refine lv_iconst (v := 0) hx9 hb dL_refuses_524 (by decide) ?_
                                                                refine wr_i (fun w9 : BS => gW cy a w9) (va_runS (As := [.ref (aO a), .int 14, .int (nI (2 + (k % 50))), .int 0, .int 0]) (rest := []) hF (c_L_call_14 l D cy hl0 a v u_151 hO hR_153 (nI (2 + (k % 50))) 0 0 H.size) (va_cwS 5 hts gL_refuses_L_call rfl rfl rfl (by decide +kernel) ⟨Nat.le_of_ble_eq_true rfl, Nat.le_of_ble_eq_true rfl⟩) (wrX_preS hK hP hD (zz_all _) Xok_l (fun U hU hW => Gl.at hX hS (zz_free hD (zz_all _) hS hA) hU hW)) rfl rfl hl.1 rfl (lv_room (Nat.le_of_ble_eq_true rfl)) dL_refuses_525 ⟨Nat.le_of_ble_eq_true rfl, Nat.le_of_ble_eq_true rfl⟩) hP hD hS hA (zz_all _) (fun _ => zz_all _) (fun r_156 u_157 H locs e_158 hP hD hS => ?_)
                                                                obtain ⟨x_160, hR_159⟩ : r_156 = (-9999001) ∧ Rep v u_157 := by rw [aKeep_no (nin (a := 0) (c := 1) (Or.inr (nI_lt (a := 1) (by omega) (by omega))))] at e_158; exact e_158
                                                                subst x_160
                                                                have hP : va_P D vwCl (gW cy a u_157) H := hP
                                                                have hD : va_D A (gW cy a u_157) := hD
                                                                refine lv_ldc (v := (-9999001)) hx9 hb hown (hts (.constant RL 15 (-9999001)) (by decide +kernel)) dL_refuses_528 ?_
                                                                refine lv_icmp_ne (tgt := 601) hx9 hb dL_refuses_530 (by decide) (fun c_161 => ?_) (fun c_161 => ?_)
                                                                · exact absurd c_161 (by decide)
                                                                · refine lv_aload_n hx9 hb dL_refuses_533 rfl (lv_at hl 3 rfl) ?_
                                                                  refine lv_bipush (v := 15) hx9 hb dL_refuses_534 (by decide) ?_
                                                                  refine lv_iconst (v := (-1)) hx9 hb dL_refuses_536 (by decide) ?_
                                                                  refine lv_iload_n hx9 hb dL_refuses_537 rfl (lv_at hl 4 rfl) ?_
                                                                  refine lv_bipush (v := 9) hx9 hb dL_refuses_538 (by decide) ?_
                                                                  refine lv_irem hx9 hb dL_refuses_540 (by decide) ?_
                                                                  refine zz_top (y := nI (k % 9)) (pk_rem (d := 9) (by omega) (by decide) (by decide)) ?_
                                                                  refine lv_isub hx9 hb dL_refuses_541 ?_
                                                                  refine lv_iconst (v := 0) hx9 hb dL_refuses_542 (by decide) ?_
                                                                  refine lv_iconst (v := 0) hx9 hb dL_refuses_543 (by decide) ?_
                                                                  refine wr_i (fun w9 : BS => gW cy a w9) (va_runS (As := [.ref (aO a), .int 15, .int (((-1)) - (nI (k % 9))), .int 0, .int 0]) (rest := []) hF (c_L_call_15 l D cy hl0 a v u_157 hO hR_159 (((-1)) - (nI (k % 9))) 0 0 H.size) (va_cwS 5 hts gL_refuses_L_call rfl rfl rfl (by decide +kernel) ⟨Nat.le_of_ble_eq_true rfl, Nat.le_of_ble_eq_true rfl⟩) (wrX_preS hK hP hD (zz_all _) Xok_l (fun U hU hW => Gl.at hX hS (zz_free hD (zz_all _) hS hA) hU hW)) rfl rfl hl.1 rfl (lv_room (Nat.le_of_ble_eq_true rfl)) dL_refuses_544 ⟨Nat.le_of_ble_eq_true rfl, Nat.le_of_ble_eq_true rfl⟩) hP hD hS hA (zz_all _) (fun _ => zz_all _) (fun r_162 u_163 H locs e_164 hP hD hS => ?_)
                                                                  obtain ⟨x_166, hR_165⟩ : r_162 = (-9999001) ∧ Rep v u_163 := by rw [aBack_no (nin (a := 0) (c := 1) (Or.inl (neg_m _ (by omega))))] at e_164; exact e_164
                                                                  subst x_166
                                                                  have hP : va_P D vwCl (gW cy a u_163) H := hP
                                                                  have hD : va_D A (gW cy a u_163) := hD
                                                                  refine lv_ldc (v := (-9999001)) hx9 hb hown (hts (.constant RL 15 (-9999001)) (by decide +kernel)) dL_refuses_547 ?_
                                                                  refine lv_icmp_ne (tgt := 601) hx9 hb dL_refuses_549 (by decide) (fun c_167 => ?_) (fun c_167 => ?_)
                                                                  · exact absurd c_167 (by decide)
                                                                  · refine lv_aload_n hx9 hb dL_refuses_552 rfl (lv_at hl 3 rfl) ?_
                                                                    refine lv_iconst (v := 0) hx9 hb dL_refuses_553 (by decide) ?_
                                                                    refine lv_lconst (v := 0) hx9 hb dL_refuses_554 (by decide) ?_
                                                                    refine wr_i (fun w9 : BS => gW cy a w9) (vx_runSW (As := [.ref (aO a), .int 0, .long 0]) (rest := []) hF (c_L_doScript l D cy hl0 a v u_163 hO hR_165 0 0 H.size) (vx_cwSW 3 hts gL_refuses_L_doScript rfl rfl rfl (by decide +kernel) ⟨Nat.le_of_ble_eq_true rfl, Nat.le_of_ble_eq_true rfl⟩) (wrX_preS hK hP hD (zz_all _) Xok_l (fun U hU hW => Gl.at hX hS (zz_free hD (zz_all _) hS hA) hU hW)) rfl rfl hl.1 rfl (lv_room (Nat.le_of_ble_eq_true rfl)) dL_refuses_555 ⟨Nat.le_of_ble_eq_true rfl, Nat.le_of_ble_eq_true rfl⟩) hP hD hS hA (zz_all _) (fun _ => zz_all _) (fun r_168 u_169 H locs e_170 hP hD hS => ?_)
                                                                    obtain ⟨x_172, hR_171⟩ : r_168 = (-9999002) ∧ Rep v u_169 := by rw [qRu_n1] at e_170; exact e_170
                                                                    subst x_172
                                                                    have hP : va_P D vwCl (gW cy a u_169) H := hP
                                                                    have hD : va_D A (gW cy a u_169) := hD
                                                                    refine lv_ldc (v := (-9999002)) hx9 hb hown (hts (.constant RL 18 (-9999002)) (by decide +kernel)) dL_refuses_558 ?_
                                                                    refine lv_icmp_ne (tgt := 601) hx9 hb dL_refuses_560 (by decide) (fun c_173 => ?_) (fun c_173 => ?_)
                                                                    · exact absurd c_173 (by decide)
                                                                    · refine lv_aload_n hx9 hb dL_refuses_563 rfl (lv_at hl 3 rfl) ?_
                                                                      refine lv_iconst (v := 1) hx9 hb dL_refuses_564 (by decide) ?_
                                                                      refine lv_ldc2 (v := 100000) hx9 hb hown (hts (.constantLong RL 149 (100000)) (by decide +kernel)) dL_refuses_565 ?_
                                                                      refine lv_iload_n hx9 hb dL_refuses_568 rfl (lv_at hl 4 rfl) ?_
                                                                      refine lv_i2l (v := Int32.toInt64 (nI k)) hx9 hb dL_refuses_569 rfl ?_
                                                                      refine lv_ladd hx9 hb dL_refuses_570 ?_
                                                                      refine wr_i (fun w9 : BS => gW cy a w9) (vx_runSW (As := [.ref (aO a), .int 1, .long (100000 + (Int32.toInt64 (nI k)))]) (rest := []) hF (c_L_doScript l D cy hl0 a v u_169 hO hR_171 1 (100000 + (Int32.toInt64 (nI k))) H.size) (vx_cwSW 3 hts gL_refuses_L_doScript rfl rfl rfl (by decide +kernel) ⟨Nat.le_of_ble_eq_true rfl, Nat.le_of_ble_eq_true rfl⟩) (wrX_preS hK hP hD (zz_all _) Xok_l (fun U hU hW => Gl.at hX hS (zz_free hD (zz_all _) hS hA) hU hW)) rfl rfl hl.1 rfl (lv_room (Nat.le_of_ble_eq_true rfl)) dL_refuses_571 ⟨Nat.le_of_ble_eq_true rfl, Nat.le_of_ble_eq_true rfl⟩) hP hD hS hA (zz_all _) (fun _ => zz_all _) (fun r_174 u_175 H locs e_176 hP hD hS => ?_)
                                                                      obtain ⟨x_178, hR_177⟩ : r_174 = (-9999002) ∧ Rep v u_175 := by rw [qRu_n2 (by omega)] at e_176; exact e_176
                                                                      subst x_178
                                                                      have hP : va_P D vwCl (gW cy a u_175) H := hP
                                                                      have hD : va_D A (gW cy a u_175) := hD
                                                                      refine lv_ldc (v := (-9999002)) hx9 hb hown (hts (.constant RL 18 (-9999002)) (by decide +kernel)) dL_refuses_574 ?_
                                                                      refine lv_icmp_ne (tgt := 601) hx9 hb dL_refuses_576 (by decide) (fun c_179 => ?_) (fun c_179 => ?_)
                                                                      · exact absurd c_179 (by decide)
                                                                      · refine lv_aload_n hx9 hb dL_refuses_579 rfl (lv_at hl 3 rfl) ?_
                                                                        refine lv_iload_n hx9 hb dL_refuses_580 rfl (lv_at hl 4 rfl) ?_
                                                                        refine lv_i2l (v := Int32.toInt64 (nI k)) hx9 hb dL_refuses_581 rfl ?_
                                                                        refine lv_bipush (v := 101) hx9 hb dL_refuses_582 (by decide) ?_
                                                                        refine lv_iload_n hx9 hb dL_refuses_584 rfl (lv_at hl 4 rfl) ?_
                                                                        refine lv_bipush (v := 9) hx9 hb dL_refuses_585 (by decide) ?_
                                                                        refine lv_irem hx9 hb dL_refuses_587 (by decide) ?_
                                                                        refine zz_top (y := nI (k % 9)) (pk_rem (d := 9) (by omega) (by decide) (by decide)) ?_
                                                                        refine lv_iadd hx9 hb dL_refuses_588 ?_
                                                                        refine zz_top (y := nI (101 + (k % 9))) (nI_add _ _) ?_
                                                                        refine wr_i (fun w9 : BS => gW cy a w9) (vx_runSW (As := [.ref (aO a), .long (Int32.toInt64 (nI k)), .int (nI (101 + (k % 9)))]) (rest := []) hF (c_L_doSimulate l D cy hl0 a v u_175 hO hR_177 (Int32.toInt64 (nI k)) (nI (101 + (k % 9))) H.size) (vx_cwSW 3 hts gL_refuses_L_doSimulate rfl rfl rfl (by decide +kernel) ⟨Nat.le_of_ble_eq_true rfl, Nat.le_of_ble_eq_true rfl⟩) (wrX_preS hK hP hD (zz_all _) Xok_l (fun U hU hW => Gl.at hX hS (zz_free hD (zz_all _) hS hA) hU hW)) rfl rfl hl.1 rfl (lv_room (Nat.le_of_ble_eq_true rfl)) dL_refuses_589 ⟨Nat.le_of_ble_eq_true rfl, Nat.le_of_ble_eq_true rfl⟩) hP hD hS hA (zz_all _) (fun _ => zz_all _) (fun r_180 u_181 H locs e_182 hP hD hS => ?_)
                                                                        obtain ⟨x_184, hR_183⟩ : r_180 = (-9999002) ∧ Rep v u_181 := by rw [qSi_no (nin (a := 1) (c := 100) (Or.inr (nI_lt (a := 100) (by omega) (by omega))))] at e_182; exact e_182
                                                                        subst x_184
                                                                        have hP : va_P D vwCl (gW cy a u_181) H := hP
                                                                        have hD : va_D A (gW cy a u_181) := hD
                                                                        refine lv_ldc (v := (-9999002)) hx9 hb hown (hts (.constant RL 18 (-9999002)) (by decide +kernel)) dL_refuses_592 ?_
                                                                        refine lv_icmp_ne (tgt := 601) hx9 hb dL_refuses_594 (by decide) (fun c_185 => ?_) (fun c_185 => ?_)
                                                                        · exact absurd c_185 (by decide)
                                                                        · refine lv_iconst (v := 1) hx9 hb dL_refuses_597 (by decide) ?_
                                                                          refine lv_goto (tgt := 602) hx9 hb dL_refuses_598 (by decide) ?_
                                                                          refine lv_istore (lv' := [(5, .int 1), (4, .int (rAw k)), (3, .int (rNo n k)), (2, .int (nI n)), (0, .ref (aO a)), (1, .int (nI k))]) hx9 hb dL_refuses_602 hl (by decide) rfl (fun ls hl => ?_)
                                                                          refine lv_iload hx9 hb dL_refuses_604 (lv_at hl 0 rfl) ?_
                                                                          refine lv_if_eq (tgt := 631) hx9 hb dL_refuses_606 (by decide) (fun c_186 => ?_) (fun c_186 => ?_)
                                                                          · exact absurd c_186 (by decide)
                                                                          · have jn_627 : ∀ (u_187 : BS) (H : Heap) (locs : List Loc) (ls : Array Slot), Rep v u_187 → va_P D vwCl (gW cy a u_187) H → va_D A (gW cy a u_187) → va_S A s.heap H locs → lv_has ls 6 [(5, .int 1), (4, .int (rAw k)), (3, .int (rNo n k)), (2, .int (nI n)), (0, .ref (aO a)), (1, .int (nI k))] → W p l e rm_L_refuses s m args below meth c H locs (134) (705) Q (F0 m 627 ls []) := by
                                                                              intro u_187 H locs ls hR_188 hP hD hS hl
                                                                              refine lv_iconst (v := 1) hx9 hb dL_refuses_627 (by decide) ?_
                                                                              refine lv_goto (tgt := 632) hx9 hb dL_refuses_628 (by decide) ?_
                                                                              refine W.widen (k := 300) (n := 1800) (by omega) (by omega) ?_
                                                                              exact hret _ _ H locs _ u_187 dL_refuses_632 hP hD hS ⟨rfl, hR_188⟩
                                                                            refine lv_iload_n hx9 hb dL_refuses_609 rfl (lv_at hl 3 rfl) ?_
                                                                            refine lv_iconst (v := 4) hx9 hb dL_refuses_610 (by decide) ?_
                                                                            refine lv_icmp_lt (tgt := 627) hx9 hb dL_refuses_611 (by decide) (fun c_189 => ?_) (fun c_189 => ?_)
                                                                            · have c_189 : n < 4 := (nI_ltI (a := n) (b := 4) (by omega) (by omega)).mp c_189
                                                                              refine W.widen (k := 134) (n := 705) (by omega) (by omega) ?_
                                                                              exact jn_627 u_181 _ _ _ hR_183 hP hD hS (lv_sub hl [0, 1, 2, 3, 4, 5] rfl)
                                                                            · have c_189 : ¬ n < 4 := fun q => c_189 ((nI_ltI (a := n) (b := 4) (by omega) (by omega)).mpr q)
                                                                              refine lv_aload_n hx9 hb dL_refuses_614 rfl (lv_at hl 4 rfl) ?_
                                                                              refine lv_iconst (v := 0) hx9 hb dL_refuses_615 (by decide) ?_
                                                                              refine lv_iconst (v := 0) hx9 hb dL_refuses_616 (by decide) ?_
                                                                              refine lv_iconst (v := 0) hx9 hb dL_refuses_617 (by decide) ?_
                                                                              refine lv_iconst (v := 1) hx9 hb dL_refuses_618 (by decide) ?_
                                                                              refine wr_i (fun w9 : BS => gW cy a w9) (vx_runSW (As := [.ref (aO a), .int 0, .int 0, .int 0, .int 1]) (rest := []) hF (c_L_comes l D cy hl0 a v u_181 hO hR_183 0 0 0 1 H.size) (vx_cwSW 5 hts gL_refuses_L_comes rfl rfl rfl (by decide +kernel) ⟨Nat.le_of_ble_eq_true rfl, Nat.le_of_ble_eq_true rfl⟩) (wrX_preS hK hP hD (zz_all _) Xok_l (fun U hU hW => Gl.at hX hS (zz_free hD (zz_all _) hS hA) hU hW)) rfl rfl hl.1 rfl (lv_room (Nat.le_of_ble_eq_true rfl)) dL_refuses_619 ⟨Nat.le_of_ble_eq_true rfl, Nat.le_of_ble_eq_true rfl⟩) hP hD hS hA (zz_all _) (fun _ => zz_all _) (fun r_190 u_191 H locs e_192 hP hD hS => ?_)
                                                                              obtain ⟨x_194, hR_193⟩ : r_190 = (-9999003) ∧ Rep v u_191 := by rw [aCome_n3 hx (by omega)] at e_192; exact e_192
                                                                              subst x_194
                                                                              have hP : va_P D vwCl (gW cy a u_191) H := hP
                                                                              have hD : va_D A (gW cy a u_191) := hD
                                                                              refine lv_ldc (v := (-9999003)) hx9 hb hown (hts (.constant RL 21 (-9999003)) (by decide +kernel)) dL_refuses_622 ?_
                                                                              refine lv_icmp_ne (tgt := 631) hx9 hb dL_refuses_624 (by decide) (fun c_195 => ?_) (fun c_195 => ?_)
                                                                              · exact absurd c_195 (by decide)
                                                                              · refine W.widen (k := 134) (n := 705) (by omega) (by omega) ?_
                                                                                exact jn_627 u_191 _ _ _ hR_193 hP hD hS (lv_sub hl [0, 1, 2, 3, 4, 5] rfl)
                                                        refine lv_iload_n hx9 hb dL_refuses_455 rfl (lv_at hl 4 rfl) ?_
                                                        refine lv_iconst (v := 2) hx9 hb dL_refuses_456 (by decide) ?_
                                                        refine lv_irem hx9 hb dL_refuses_457 (by decide) ?_
                                                        refine zz_top (y := nI (k % 2)) (pk_rem (d := 2) (by omega) (by decide) (by decide)) ?_
                                                        refine lv_if_ne (tgt := 465) hx9 hb dL_refuses_458 (by decide) (fun c_196 => ?_) (fun c_196 => ?_)
                                                        · have c_196 : ¬ k % 2 = 0 := fun q => c_196 ((nI_eq (a := k % 2) (b := 0) (by omega) (by omega)).mpr q)
                                                          refine lv_bipush (v := 100) hx9 hb dL_refuses_465 (by decide) ?_
                                                          refine lv_iload_n hx9 hb dL_refuses_467 rfl (lv_at hl 4 rfl) ?_
                                                          refine lv_bipush (v := 99) hx9 hb dL_refuses_468 (by decide) ?_
                                                          refine lv_irem hx9 hb dL_refuses_470 (by decide) ?_
                                                          refine zz_top (y := nI (k % 99)) (pk_rem (d := 99) (by omega) (by decide) (by decide)) ?_
                                                          refine lv_iadd hx9 hb dL_refuses_471 ?_
                                                          refine zz_top (y := nI (100 + (k % 99))) (nI_add _ _) ?_
                                                          refine W.widen (k := 105) (n := 549) (by omega) (by omega) ?_
                                                          refine zz_top (y := rRo k) ((show _ = rRo k from (if_neg c_196).symm)) ?_
                                                          exact jn_472 u_131 _ _ _ hR_133 hP hD hS (lv_sub hl [0, 1, 2, 3, 4] rfl)
                                                        · have c_196 : k % 2 = 0 := (nI_eq (a := k % 2) (b := 0) (by omega) (by omega)).mp c_196
                                                          refine lv_iconst (v := (-1)) hx9 hb dL_refuses_461 (by decide) ?_
                                                          refine lv_goto (tgt := 472) hx9 hb dL_refuses_462 (by decide) ?_
                                                          refine W.widen (k := 105) (n := 549) (by omega) (by omega) ?_
                                                          refine zz_top (y := rRo k) ((show _ = rRo k from (if_pos c_196).symm)) ?_
                                                          exact jn_472 u_131 _ _ _ hR_133 hP hD hS (lv_sub hl [0, 1, 2, 3, 4] rfl)
                                                    refine lv_iload_n hx9 hb dL_refuses_424 rfl (lv_at hl 4 rfl) ?_
                                                    refine lv_iconst (v := 2) hx9 hb dL_refuses_425 (by decide) ?_
                                                    refine lv_irem hx9 hb dL_refuses_426 (by decide) ?_
                                                    refine zz_top (y := nI (k % 2)) (pk_rem (d := 2) (by omega) (by decide) (by decide)) ?_
                                                    refine lv_if_ne (tgt := 434) hx9 hb dL_refuses_427 (by decide) (fun c_197 => ?_) (fun c_197 => ?_)
                                                    · have c_197 : ¬ k % 2 = 0 := fun q => c_197 ((nI_eq (a := k % 2) (b := 0) (by omega) (by omega)).mpr q)
                                                      refine lv_bipush (v := 6) hx9 hb dL_refuses_434 (by decide) ?_
                                                      refine lv_iload_n hx9 hb dL_refuses_436 rfl (lv_at hl 4 rfl) ?_
                                                      refine lv_bipush (v := 9) hx9 hb dL_refuses_437 (by decide) ?_
                                                      refine lv_irem hx9 hb dL_refuses_439 (by decide) ?_
                                                      refine zz_top (y := nI (k % 9)) (pk_rem (d := 9) (by omega) (by decide) (by decide)) ?_
                                                      refine lv_iadd hx9 hb dL_refuses_440 ?_
                                                      refine zz_top (y := nI (6 + (k % 9))) (nI_add _ _) ?_
                                                      refine W.widen (k := 104) (n := 543) (by omega) (by omega) ?_
                                                      refine zz_top (y := rNn k) ((show _ = rNn k from (if_neg c_197).symm)) ?_
                                                      exact jn_441 u_123 _ _ _ hR_125 hP hD hS (lv_sub hl [0, 1, 2, 3, 4] rfl)
                                                    · have c_197 : k % 2 = 0 := (nI_eq (a := k % 2) (b := 0) (by omega) (by omega)).mp c_197
                                                      refine lv_iconst (v := 0) hx9 hb dL_refuses_430 (by decide) ?_
                                                      refine lv_goto (tgt := 441) hx9 hb dL_refuses_431 (by decide) ?_
                                                      refine W.widen (k := 104) (n := 543) (by omega) (by omega) ?_
                                                      refine zz_top (y := rNn k) ((show _ = rNn k from (if_pos c_197).symm)) ?_
                                                      exact jn_441 u_123 _ _ _ hR_125 hP hD hS (lv_sub hl [0, 1, 2, 3, 4] rfl)
                                                refine lv_iload_n hx9 hb dL_refuses_395 rfl (lv_at hl 4 rfl) ?_
                                                refine lv_iconst (v := 2) hx9 hb dL_refuses_396 (by decide) ?_
                                                refine lv_irem hx9 hb dL_refuses_397 (by decide) ?_
                                                refine zz_top (y := nI (k % 2)) (pk_rem (d := 2) (by omega) (by decide) (by decide)) ?_
                                                refine lv_if_ne (tgt := 405) hx9 hb dL_refuses_398 (by decide) (fun c_198 => ?_) (fun c_198 => ?_)
                                                · have c_198 : ¬ k % 2 = 0 := fun q => c_198 ((nI_eq (a := k % 2) (b := 0) (by omega) (by omega)).mpr q)
                                                  refine lv_iconst (v := 2) hx9 hb dL_refuses_405 (by decide) ?_
                                                  refine lv_iload_n hx9 hb dL_refuses_406 rfl (lv_at hl 4 rfl) ?_
                                                  refine lv_bipush (v := 9) hx9 hb dL_refuses_407 (by decide) ?_
                                                  refine lv_irem hx9 hb dL_refuses_409 (by decide) ?_
                                                  refine zz_top (y := nI (k % 9)) (pk_rem (d := 9) (by omega) (by decide) (by decide)) ?_
                                                  refine lv_iadd hx9 hb dL_refuses_410 ?_
                                                  refine zz_top (y := nI (2 + (k % 9))) (nI_add _ _) ?_
                                                  refine W.widen (k := 103) (n := 537) (by omega) (by omega) ?_
                                                  refine zz_top (y := rFe k) ((show _ = rFe k from (if_neg c_198).symm)) ?_
                                                  exact jn_411 u_115 _ _ _ hR_117 hP hD hS (lv_sub hl [0, 1, 2, 3, 4] rfl)
                                                · have c_198 : k % 2 = 0 := (nI_eq (a := k % 2) (b := 0) (by omega) (by omega)).mp c_198
                                                  refine lv_iconst (v := (-1)) hx9 hb dL_refuses_401 (by decide) ?_
                                                  refine lv_goto (tgt := 411) hx9 hb dL_refuses_402 (by decide) ?_
                                                  refine W.widen (k := 103) (n := 537) (by omega) (by omega) ?_
                                                  refine zz_top (y := rFe k) ((show _ = rFe k from (if_pos c_198).symm)) ?_
                                                  exact jn_411 u_115 _ _ _ hR_117 hP hD hS (lv_sub hl [0, 1, 2, 3, 4] rfl)
                                        refine lv_iload_n hx9 hb dL_refuses_332 rfl (lv_at hl 4 rfl) ?_
                                        refine lv_iconst (v := 4) hx9 hb dL_refuses_333 (by decide) ?_
                                        refine lv_irem hx9 hb dL_refuses_334 (by decide) ?_
                                        refine zz_top (y := nI (k % 4)) (pk_rem (d := 4) (by omega) (by decide) (by decide)) ?_
                                        refine lv_iconst (v := 2) hx9 hb dL_refuses_335 (by decide) ?_
                                        refine lv_icmp_ge (tgt := 343) hx9 hb dL_refuses_336 (by decide) (fun c_199 => ?_) (fun c_199 => ?_)
                                        · have c_199 : 2 ≤ k % 4 := (nI_leI (a := 2) (b := k % 4) (by omega) (by omega)).mp c_199
                                          refine lv_bipush (v := 10) hx9 hb dL_refuses_343 (by decide) ?_
                                          refine lv_iload_n hx9 hb dL_refuses_345 rfl (lv_at hl 4 rfl) ?_
                                          refine lv_bipush (v := 9) hx9 hb dL_refuses_346 (by decide) ?_
                                          refine lv_irem hx9 hb dL_refuses_348 (by decide) ?_
                                          refine zz_top (y := nI (k % 9)) (pk_rem (d := 9) (by omega) (by decide) (by decide)) ?_
                                          refine lv_iadd hx9 hb dL_refuses_349 ?_
                                          refine zz_top (y := nI (10 + (k % 9))) (nI_add _ _) ?_
                                          refine W.widen (k := 82) (n := 429) (by omega) (by omega) ?_
                                          refine zz_top (y := rV1 k) ((show _ = rV1 k from (if_neg (Nat.not_lt.mpr c_199)).symm)) ?_
                                          exact jn_350 u_95 _ _ _ hR_97 hP hD hS (lv_sub hl [0, 1, 2, 3, 4] rfl)
                                        · have c_199 : ¬ 2 ≤ k % 4 := fun q => c_199 ((nI_leI (a := 2) (b := k % 4) (by omega) (by omega)).mpr q)
                                          refine lv_iconst (v := 0) hx9 hb dL_refuses_339 (by decide) ?_
                                          refine lv_goto (tgt := 350) hx9 hb dL_refuses_340 (by decide) ?_
                                          refine W.widen (k := 82) (n := 429) (by omega) (by omega) ?_
                                          refine zz_top (y := rV1 k) ((show _ = rV1 k from (if_pos (Nat.not_le.mp c_199)).symm)) ?_
                                          exact jn_350 u_95 _ _ _ hR_97 hP hD hS (lv_sub hl [0, 1, 2, 3, 4] rfl)
                                    refine lv_iload_n hx9 hb dL_refuses_298 rfl (lv_at hl 4 rfl) ?_
                                    refine lv_iconst (v := 2) hx9 hb dL_refuses_299 (by decide) ?_
                                    refine lv_irem hx9 hb dL_refuses_300 (by decide) ?_
                                    refine zz_top (y := nI (k % 2)) (pk_rem (d := 2) (by omega) (by decide) (by decide)) ?_
                                    refine lv_if_ne (tgt := 308) hx9 hb dL_refuses_301 (by decide) (fun c_200 => ?_) (fun c_200 => ?_)
                                    · have c_200 : ¬ k % 2 = 0 := fun q => c_200 ((nI_eq (a := k % 2) (b := 0) (by omega) (by omega)).mpr q)
                                      refine lv_bipush (v := 17) hx9 hb dL_refuses_308 (by decide) ?_
                                      refine lv_iload_n hx9 hb dL_refuses_310 rfl (lv_at hl 4 rfl) ?_
                                      refine lv_bipush (v := 9) hx9 hb dL_refuses_311 (by decide) ?_
                                      refine lv_irem hx9 hb dL_refuses_313 (by decide) ?_
                                      refine zz_top (y := nI (k % 9)) (pk_rem (d := 9) (by omega) (by decide) (by decide)) ?_
                                      refine lv_iadd hx9 hb dL_refuses_314 ?_
                                      refine zz_top (y := nI (17 + (k % 9))) (nI_add _ _) ?_
                                      refine W.widen (k := 72) (n := 378) (by omega) (by omega) ?_
                                      refine zz_top (y := rV0 k) ((show _ = rV0 k from (if_neg c_200).symm)) ?_
                                      exact jn_315 u_87 _ _ _ hR_89 hP hD hS (lv_sub hl [0, 1, 2, 3, 4] rfl)
                                    · have c_200 : k % 2 = 0 := (nI_eq (a := k % 2) (b := 0) (by omega) (by omega)).mp c_200
                                      refine lv_iconst (v := 3) hx9 hb dL_refuses_304 (by decide) ?_
                                      refine lv_goto (tgt := 315) hx9 hb dL_refuses_305 (by decide) ?_
                                      refine W.widen (k := 72) (n := 378) (by omega) (by omega) ?_
                                      refine zz_top (y := rV0 k) ((show _ = rV0 k from (if_pos c_200).symm)) ?_
                                      exact jn_315 u_87 _ _ _ hR_89 hP hD hS (lv_sub hl [0, 1, 2, 3, 4] rfl)
                            refine lv_iload_n hx9 hb dL_refuses_242 rfl (lv_at hl 4 rfl) ?_
                            refine lv_iconst (v := 2) hx9 hb dL_refuses_243 (by decide) ?_
                            refine lv_irem hx9 hb dL_refuses_244 (by decide) ?_
                            refine zz_top (y := nI (k % 2)) (pk_rem (d := 2) (by omega) (by decide) (by decide)) ?_
                            refine lv_if_ne (tgt := 252) hx9 hb dL_refuses_245 (by decide) (fun c_201 => ?_) (fun c_201 => ?_)
                            · have c_201 : ¬ k % 2 = 0 := fun q => c_201 ((nI_eq (a := k % 2) (b := 0) (by omega) (by omega)).mpr q)
                              refine lv_iconst (v := 5) hx9 hb dL_refuses_252 (by decide) ?_
                              refine lv_iload_n hx9 hb dL_refuses_253 rfl (lv_at hl 4 rfl) ?_
                              refine lv_bipush (v := 9) hx9 hb dL_refuses_254 (by decide) ?_
                              refine lv_irem hx9 hb dL_refuses_256 (by decide) ?_
                              refine zz_top (y := nI (k % 9)) (pk_rem (d := 9) (by omega) (by decide) (by decide)) ?_
                              refine lv_iadd hx9 hb dL_refuses_257 ?_
                              refine zz_top (y := nI (5 + (k % 9))) (nI_add _ _) ?_
                              refine W.widen (k := 40) (n := 213) (by omega) (by omega) ?_
                              refine zz_top (y := rWe k) ((show _ = rWe k from (if_neg c_201).symm)) ?_
                              exact jn_258 u_67 _ _ _ hR_69 hP hD hS (lv_sub hl [0, 1, 2, 3, 4] rfl)
                            · have c_201 : k % 2 = 0 := (nI_eq (a := k % 2) (b := 0) (by omega) (by omega)).mp c_201
                              refine lv_iconst (v := 0) hx9 hb dL_refuses_248 (by decide) ?_
                              refine lv_goto (tgt := 258) hx9 hb dL_refuses_249 (by decide) ?_
                              refine W.widen (k := 40) (n := 213) (by omega) (by omega) ?_
                              refine zz_top (y := rWe k) ((show _ = rWe k from (if_pos c_201).symm)) ?_
                              exact jn_258 u_67 _ _ _ hR_69 hP hD hS (lv_sub hl [0, 1, 2, 3, 4] rfl)
      refine lv_iload_n hx9 hb dL_refuses_57 rfl (lv_at hl 4 rfl) ?_
      refine lv_iconst (v := 2) hx9 hb dL_refuses_58 (by decide) ?_
      refine lv_irem hx9 hb dL_refuses_59 (by decide) ?_
      refine zz_top (y := nI (k % 2)) (pk_rem (d := 2) (by omega) (by decide) (by decide)) ?_
      refine lv_if_ne (tgt := 72) hx9 hb dL_refuses_60 (by decide) (fun c_202 => ?_) (fun c_202 => ?_)
      · have c_202 : ¬ k % 2 = 0 := fun q => c_202 ((nI_eq (a := k % 2) (b := 0) (by omega) (by omega)).mpr q)
        refine lv_sipush (v := 256) hx9 hb dL_refuses_72 (by decide) ?_
        refine lv_iload_n hx9 hb dL_refuses_75 rfl (lv_at hl 4 rfl) ?_
        refine lv_bipush (v := 9) hx9 hb dL_refuses_76 (by decide) ?_
        refine lv_irem hx9 hb dL_refuses_78 (by decide) ?_
        refine zz_top (y := nI (k % 9)) (pk_rem (d := 9) (by omega) (by decide) (by decide)) ?_
        refine lv_iadd hx9 hb dL_refuses_79 ?_
        refine zz_top (y := nI (256 + (k % 9))) (nI_add _ _) ?_
        refine W.widen (k := 1) (n := 6) (by omega) (by omega) ?_
        refine zz_top (y := rCh k) ((show _ = rCh k from (if_neg c_202).symm)) ?_
        exact jn_80 u_8 _ _ _ hR_9 hP hD hS (lv_sub hl [0, 1, 2, 3, 4] rfl)
      · have c_202 : k % 2 = 0 := (nI_eq (a := k % 2) (b := 0) (by omega) (by omega)).mp c_202
        refine lv_iconst (v := (-1)) hx9 hb dL_refuses_63 (by decide) ?_
        refine lv_iload_n hx9 hb dL_refuses_64 rfl (lv_at hl 4 rfl) ?_
        refine lv_bipush (v := 9) hx9 hb dL_refuses_65 (by decide) ?_
        refine lv_irem hx9 hb dL_refuses_67 (by decide) ?_
        refine zz_top (y := nI (k % 9)) (pk_rem (d := 9) (by omega) (by decide) (by decide)) ?_
        refine lv_isub hx9 hb dL_refuses_68 ?_
        refine lv_goto (tgt := 80) hx9 hb dL_refuses_69 (by decide) ?_
        refine W.widen (k := 1) (n := 6) (by omega) (by omega) ?_
        refine zz_top (y := rCh k) ((show _ = rCh k from (if_pos c_202).symm)) ?_
        exact jn_80 u_8 _ _ _ hR_9 hP hD hS (lv_sub hl [0, 1, 2, 3, 4] rfl)
    refine lv_iload_n hx9 hb dL_refuses_31 rfl (lv_at hl 3 rfl) ?_
    refine lv_iconst (v := 2) hx9 hb dL_refuses_32 (by decide) ?_
    refine lv_irem hx9 hb dL_refuses_33 (by decide) ?_
    refine zz_top (y := nI (k % 2)) (pk_rem (d := 2) (by omega) (by decide) (by decide)) ?_
    refine lv_if_ne (tgt := 46) hx9 hb dL_refuses_34 (by decide) (fun c_203 => ?_) (fun c_203 => ?_)
    · have c_203 : ¬ k % 2 = 0 := fun q => c_203 ((nI_eq (a := k % 2) (b := 0) (by omega) (by omega)).mpr q)
      refine lv_bipush (v := 7) hx9 hb dL_refuses_46 (by decide) ?_
      refine lv_iload_n hx9 hb dL_refuses_48 rfl (lv_at hl 3 rfl) ?_
      refine lv_bipush (v := 99) hx9 hb dL_refuses_49 (by decide) ?_
      refine lv_irem hx9 hb dL_refuses_51 (by decide) ?_
      refine zz_top (y := nI (k % 99)) (pk_rem (d := 99) (by omega) (by decide) (by decide)) ?_
      refine lv_iadd hx9 hb dL_refuses_52 ?_
      refine zz_top (y := nI (7 + (k % 99))) (nI_add _ _) ?_
      refine W.widen (k := 1) (n := 6) (by omega) (by omega) ?_
      refine zz_top (y := rAw k) ((show _ = rAw k from (if_neg c_203).symm)) ?_
      exact jn_53 u_6 _ _ _ hR_7 hP hD hS (lv_sub hl [0, 1, 2, 3] rfl)
    · have c_203 : k % 2 = 0 := (nI_eq (a := k % 2) (b := 0) (by omega) (by omega)).mp c_203
      refine lv_iconst (v := (-1)) hx9 hb dL_refuses_37 (by decide) ?_
      refine lv_iload_n hx9 hb dL_refuses_38 rfl (lv_at hl 3 rfl) ?_
      refine lv_bipush (v := 99) hx9 hb dL_refuses_39 (by decide) ?_
      refine lv_irem hx9 hb dL_refuses_41 (by decide) ?_
      refine zz_top (y := nI (k % 99)) (pk_rem (d := 99) (by omega) (by decide) (by decide)) ?_
      refine lv_isub hx9 hb dL_refuses_42 ?_
      refine lv_goto (tgt := 53) hx9 hb dL_refuses_43 (by decide) ?_
      refine W.widen (k := 1) (n := 6) (by omega) (by omega) ?_
      refine zz_top (y := rAw k) ((show _ = rAw k from (if_pos c_203).symm)) ?_
      exact jn_53 u_6 _ _ _ hR_7 hP hD hS (lv_sub hl [0, 1, 2, 3] rfl)
  refine lv_iload_n hx9 hb dL_refuses_9 rfl (lv_at hl 2 rfl) ?_
  refine lv_iconst (v := 2) hx9 hb dL_refuses_10 (by decide) ?_
  refine lv_irem hx9 hb dL_refuses_11 (by decide) ?_
  refine zz_top (y := nI (k % 2)) (pk_rem (d := 2) (by omega) (by decide) (by decide)) ?_
  refine lv_if_ne (tgt := 24) hx9 hb dL_refuses_12 (by decide) (fun c_204 => ?_) (fun c_204 => ?_)
  · have c_204 : ¬ k % 2 = 0 := fun q => c_204 ((nI_eq (a := k % 2) (b := 0) (by omega) (by omega)).mpr q)
    refine lv_iload_n hx9 hb dL_refuses_24 rfl (lv_at hl 0 rfl) ?_
    refine lv_iload_n hx9 hb dL_refuses_25 rfl (lv_at hl 2 rfl) ?_
    refine lv_bipush (v := 99) hx9 hb dL_refuses_26 (by decide) ?_
    refine lv_irem hx9 hb dL_refuses_28 (by decide) ?_
    refine zz_top (y := nI (k % 99)) (pk_rem (d := 99) (by omega) (by decide) (by decide)) ?_
    refine lv_iadd hx9 hb dL_refuses_29 ?_
    refine zz_top (y := nI (n + (k % 99))) (nI_add _ _) ?_
    refine W.widen (k := 1) (n := 6) (by omega) (by omega) ?_
    refine zz_top (y := rNo n k) ((show _ = rNo n k from (if_neg c_204).symm)) ?_
    exact jn_30 u_2 _ _ _ hR_4 hP hD hS (lv_sub hl [0, 1, 2] rfl)
  · have c_204 : k % 2 = 0 := (nI_eq (a := k % 2) (b := 0) (by omega) (by omega)).mp c_204
    refine lv_iconst (v := (-1)) hx9 hb dL_refuses_15 (by decide) ?_
    refine lv_iload_n hx9 hb dL_refuses_16 rfl (lv_at hl 2 rfl) ?_
    refine lv_bipush (v := 99) hx9 hb dL_refuses_17 (by decide) ?_
    refine lv_irem hx9 hb dL_refuses_19 (by decide) ?_
    refine zz_top (y := nI (k % 99)) (pk_rem (d := 99) (by omega) (by decide) (by decide)) ?_
    refine lv_isub hx9 hb dL_refuses_20 ?_
    refine lv_goto (tgt := 30) hx9 hb dL_refuses_21 (by decide) ?_
    refine W.widen (k := 1) (n := 6) (by omega) (by omega) ?_
    refine zz_top (y := rNo n k) ((show _ = rNo n k from (if_pos c_204).symm)) ?_
    exact jn_30 u_2 _ _ _ hR_4 hP hD hS (lv_sub hl [0, 1, 2] rfl)
