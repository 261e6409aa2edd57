set_option maxHeartbeats 4000000 in
set_option maxRecDepth 100000 in
/-- the law behind its two new objects -/
theorem law_body {p : Program} {l : Launch} {e : Env} {s : State} {m : MethodId} {below : List Frame} {meth : Method} {c : Code} {D : va_G} {cy : Nat → ClassId} {sb L : Nat} {xs : Nat → Int32} {a c9 : AD} {u w : BS} (C0 : lw_At p s m meth c sb L xs) (hl0 : l.stackTraces = false) (hK : va_K D vwCl (tyL cy) s) (hX : Gl (lwA s) s) (hL : L ≤ 260) (hR : Rep v0 u) (hR2 : Rep v0 w) (c0 q0 : Nat) (hc0 : c0 ≤ 200) (hq0 : q0 ≤ 3000) (H : Heap) (locs : List Loc) (ls : Array Slot) (hP : va_P D vwCl (gW cy a u ++ gW cy c9 w) H) (hD : va_D (lwA s) (gW cy a u ++ gW cy c9 w)) (hS : va_S (lwA s) s.heap H locs) (hl : lv_has ls 9 [(2, .ref (aO c9)), (1, .ref (aO a)), (0, .ref sb)]) : W p l e room_1 s m #[Value.ref sb] below meth c H locs c0 q0 (lw_Z below #[Value.ref sb] s) (F0 m 16 ls []) := by
  obtain ⟨hx9, hb, hr, hml, hown, hts0, hXs, hbl, hlocks, hgv⟩ := id C0
  have hts : ∀ w ∈ wsL_law, w.before #[Value.ref sb] s = true := fun w h => hts0 w (wsL_law_in w h)
  have hF : CallFix p m c cL_law 9 s #[Value.ref sb] wsL_law RL := ⟨hx9, hb, hml, hown, hts⟩
  have hb : c.code = cL_law := hb
  have hown : s.vm.findClass RL = some m.cls := hown
  have hA : ∀ q, s.heap.size ≤ q → lwA s q := fun _ h => h
  have hbA : ¬ lwA s sb := Nat.not_le.mpr hbl
  obtain ⟨A, hAe⟩ : ∃ A, A = lwA s := ⟨_, rfl⟩
  rw [← hAe] at hX hD hS hA hbA
  obtain ⟨j0, hj0, ej0⟩ := cellV_n (L := L) (xs := xs) (k := 0)
  obtain ⟨j1, hj1, ej1⟩ := cellV_n (L := L) (xs := xs) (k := 1)
  have hO2 : Okv (v2 j1) := (inv_v2 j1).Ok
  refine lv_bipush (v := 14) hx9 hb dL_law_16 (by decide) ?_
  refine lv_aload_n hx9 hb dL_law_18 rfl (lv_at hl 2 rfl) ?_
  refine lv_iconst (v := 0) hx9 hb dL_law_19 (by decide) ?_
  refine rd_SX (As := [.ref sb, .int 0]) (rest := [.int 14]) hF (c_L_cell l D cy sb L xs hL 0 (by omega)) (va_cwS 2 hts gL_law_L_cell rfl rfl rfl (by decide +kernel) ⟨Nat.le_of_ble_eq_true rfl, Nat.le_of_ble_eq_true rfl⟩) hK (fun k q h => by simp at h) Xok_c (fun U hU hW => Xs.at hXs hbl hbA hS hU hW) rfl hl.1 rfl (Nat.le_of_ble_eq_true rfl) dL_law_20 ⟨(by show _ ≤ 678137; omega), (by show _ ≤ 7067214; omega)⟩ ?_
  refine zz_top (y := nI j0) ej0 ?_
  refine lv_bipush (v := 27) hx9 hb dL_law_23 (by decide) ?_
  refine lv_irem hx9 hb dL_law_25 (by decide) ?_
  refine zz_top (y := nI (j0 % 27)) (pk_rem (d := 27) (by omega) (by decide) (by decide)) ?_
  refine lv_iadd hx9 hb dL_law_26 ?_
  refine zz_top (y := nI (14 + (j0 % 27))) (nI_add _ _) ?_
  refine lv_istore_n (lv' := [(3, .int (nI (14 + (j0 % 27)))), (2, .ref (aO c9)), (1, .ref (aO a)), (0, .ref sb)]) hx9 hb dL_law_27 rfl hl (by decide) rfl (fun ls hl => ?_)
  refine lv_aload_n hx9 hb dL_law_28 rfl (lv_at hl 3 rfl) ?_
  refine lv_iconst (v := 1) hx9 hb dL_law_29 (by decide) ?_
  refine rd_SX (As := [.ref sb, .int 1]) (rest := []) hF (c_L_cell l D cy sb L xs hL 1 (by omega)) (va_cwS 2 hts gL_law_L_cell rfl rfl rfl (by decide +kernel) ⟨Nat.le_of_ble_eq_true rfl, Nat.le_of_ble_eq_true rfl⟩) hK (fun k q h => by simp at h) Xok_c (fun U hU hW => Xs.at hXs hbl hbA hS hU hW) rfl hl.1 rfl (Nat.le_of_ble_eq_true rfl) dL_law_30 ⟨(by show _ ≤ 678137; omega), (by show _ ≤ 7067214; omega)⟩ ?_
  refine zz_top (y := nI j1) ej1 ?_
  refine lv_istore (lv' := [(4, .int (nI j1)), (3, .int (nI (14 + (j0 % 27)))), (2, .ref (aO c9)), (1, .ref (aO a)), (0, .ref sb)]) hx9 hb dL_law_33 hl (by decide) rfl (fun ls hl => ?_)
  refine lv_aload_n hx9 hb dL_law_35 rfl (lv_at hl 3 rfl) ?_
  refine lv_iload hx9 hb dL_law_36 (lv_at hl 0 rfl) ?_
  refine lv_bipush (v := 7) hx9 hb dL_law_38 (by decide) ?_
  refine lv_irem hx9 hb dL_law_40 (by decide) ?_
  refine zz_top (y := nI (j1 % 7)) (pk_rem (d := 7) (by omega) (by decide) (by decide)) ?_
  refine lv_iload hx9 hb dL_law_41 (lv_at hl 0 rfl) ?_
  refine lv_bipush (v := 7) hx9 hb dL_law_43 (by decide) ?_
  refine lv_idiv hx9 hb dL_law_45 (by decide) ?_
  refine zz_top (y := nI (j1 / 7)) (pk_div (d := 7) (by omega) (by decide) (by decide)) ?_
  refine lv_bipush (v := 7) hx9 hb dL_law_46 (by decide) ?_
  refine lv_irem hx9 hb dL_law_48 (by decide) ?_
  refine zz_top (y := nI ((j1 / 7) % 7)) (pk_rem (d := 7) (by omega) (by decide) (by decide)) ?_
  refine lv_iload hx9 hb dL_law_49 (lv_at hl 0 rfl) ?_
  refine lv_bipush (v := 49) hx9 hb dL_law_51 (by decide) ?_
  refine lv_idiv hx9 hb dL_law_53 (by decide) ?_
  refine zz_top (y := nI (j1 / 49)) (pk_div (d := 49) (by omega) (by decide) (by decide)) ?_
  refine lv_bipush (v := 7) hx9 hb dL_law_54 (by decide) ?_
  refine lv_irem hx9 hb dL_law_56 (by decide) ?_
  refine zz_top (y := nI ((j1 / 49) % 7)) (pk_rem (d := 7) (by omega) (by decide) (by decide)) ?_
  refine lv_iconst (v := 1) hx9 hb dL_law_57 (by decide) ?_
  refine lv_iload hx9 hb dL_law_58 (lv_at hl 0 rfl) ?_
  refine lv_sipush (v := 343) hx9 hb dL_law_60 (by decide) ?_
  refine lv_idiv hx9 hb dL_law_63 (by decide) ?_
  refine zz_top (y := nI (j1 / 343)) (pk_div (d := 343) (by omega) (by decide) (by decide)) ?_
  refine lv_iconst (v := 4) hx9 hb dL_law_64 (by decide) ?_
  refine lv_irem hx9 hb dL_law_65 (by decide) ?_
  refine zz_top (y := nI ((j1 / 343) % 4)) (pk_rem (d := 4) (by omega) (by decide) (by decide)) ?_
  refine lv_iadd hx9 hb dL_law_66 ?_
  refine zz_top (y := nI (1 + ((j1 / 343) % 4))) (nI_add _ _) ?_
  refine wr_i (fun w9 : BS => gW cy a w9 ++ gW cy c9 w) (vx_runSW (As := [.ref (aO a), .int (nI (j1 % 7)), .int (nI ((j1 / 7) % 7)), .int (nI ((j1 / 49) % 7)), .int (nI (1 + ((j1 / 343) % 4)))]) (rest := []) hF (c_L_comes l D cy hl0 a v0 u ok_v0 hR (nI (j1 % 7)) (nI ((j1 / 7) % 7)) (nI ((j1 / 49) % 7)) (nI (1 + ((j1 / 343) % 4))) H.size) (vx_cwSW 5 hts gL_law_L_comes rfl rfl rfl (by decide +kernel) ⟨Nat.le_of_ble_eq_true rfl, Nat.le_of_ble_eq_true rfl⟩) (wrX_preS hK hP hD (List.Perm.refl _) Xok_l (fun U hU hW => Gl.at hX hS (zz_free hD (List.Perm.refl _) hS hA) hU hW)) rfl rfl hl.1 rfl (lv_room (Nat.le_of_ble_eq_true rfl)) dL_law_67 ⟨(by show _ ≤ 678137; omega), (by show _ ≤ 7067214; omega)⟩) hP hD hS hA (List.Perm.refl _) (fun _ => List.Perm.refl _) (fun r_1 u_2 H locs e_3 hP hD hS => ?_)
  obtain ⟨x_5, hR_4⟩ : r_1 = 0 ∧ Rep ((v1 j1)) u_2 := by rw [come_1 j1] at e_3; exact e_3
  subst x_5
  have hP : va_P D vwCl (gW cy a u_2 ++ gW cy c9 w) H := hP
  have hD : va_D A (gW cy a u_2 ++ gW cy c9 w) := hD
  refine lv_if_ne (tgt := 185) hx9 hb dL_law_70 (by decide) (fun c_6 => ?_) (fun c_6 => ?_)
  · exact absurd c_6 (by decide)
  · refine lv_aload_n hx9 hb dL_law_73 rfl (lv_at hl 2 rfl) ?_
    refine lv_iload hx9 hb dL_law_74 (lv_at hl 0 rfl) ?_
    refine lv_bipush (v := 7) hx9 hb dL_law_76 (by decide) ?_
    refine lv_irem hx9 hb dL_law_78 (by decide) ?_
    refine zz_top (y := nI (j1 % 7)) (pk_rem (d := 7) (by omega) (by decide) (by decide)) ?_
    refine lv_iload hx9 hb dL_law_79 (lv_at hl 0 rfl) ?_
    refine lv_bipush (v := 7) hx9 hb dL_law_81 (by decide) ?_
    refine lv_idiv hx9 hb dL_law_83 (by decide) ?_
    refine zz_top (y := nI (j1 / 7)) (pk_div (d := 7) (by omega) (by decide) (by decide)) ?_
    refine lv_bipush (v := 7) hx9 hb dL_law_84 (by decide) ?_
    refine lv_irem hx9 hb dL_law_86 (by decide) ?_
    refine zz_top (y := nI ((j1 / 7) % 7)) (pk_rem (d := 7) (by omega) (by decide) (by decide)) ?_
    refine lv_iload hx9 hb dL_law_87 (lv_at hl 0 rfl) ?_
    refine lv_bipush (v := 49) hx9 hb dL_law_89 (by decide) ?_
    refine lv_idiv hx9 hb dL_law_91 (by decide) ?_
    refine zz_top (y := nI (j1 / 49)) (pk_div (d := 49) (by omega) (by decide) (by decide)) ?_
    refine lv_bipush (v := 7) hx9 hb dL_law_92 (by decide) ?_
    refine lv_irem hx9 hb dL_law_94 (by decide) ?_
    refine zz_top (y := nI ((j1 / 49) % 7)) (pk_rem (d := 7) (by omega) (by decide) (by decide)) ?_
    refine lv_iconst (v := 1) hx9 hb dL_law_95 (by decide) ?_
    refine lv_iload hx9 hb dL_law_96 (lv_at hl 0 rfl) ?_
    refine lv_sipush (v := 343) hx9 hb dL_law_98 (by decide) ?_
    refine lv_idiv hx9 hb dL_law_101 (by decide) ?_
    refine zz_top (y := nI (j1 / 343)) (pk_div (d := 343) (by omega) (by decide) (by decide)) ?_
    refine lv_iconst (v := 4) hx9 hb dL_law_102 (by decide) ?_
    refine lv_irem hx9 hb dL_law_103 (by decide) ?_
    refine zz_top (y := nI ((j1 / 343) % 4)) (pk_rem (d := 4) (by omega) (by decide) (by decide)) ?_
    refine lv_iadd hx9 hb dL_law_104 ?_
    refine zz_top (y := nI (1 + ((j1 / 343) % 4))) (nI_add _ _) ?_
    refine wr_i (fun w9 : BS => gW cy a u_2 ++ gW cy c9 w9) (vx_runSW (As := [.ref (aO c9), .int (nI (j1 % 7)), .int (nI ((j1 / 7) % 7)), .int (nI ((j1 / 49) % 7)), .int (nI (1 + ((j1 / 343) % 4)))]) (rest := []) hF (c_L_comes l D cy hl0 c9 v0 w ok_v0 hR2 (nI (j1 % 7)) (nI ((j1 / 7) % 7)) (nI ((j1 / 49) % 7)) (nI (1 + ((j1 / 343) % 4))) H.size) (vx_cwSW 5 hts gL_law_L_comes rfl rfl rfl (by decide +kernel) ⟨Nat.le_of_ble_eq_true rfl, Nat.le_of_ble_eq_true rfl⟩) (wrX_preS hK hP hD List.perm_append_comm Xok_l (fun U hU hW => Gl.at hX hS (zz_free hD List.perm_append_comm hS hA) hU hW)) rfl rfl hl.1 rfl (lv_room (Nat.le_of_ble_eq_true rfl)) dL_law_105 ⟨(by show _ ≤ 678137; omega), (by show _ ≤ 7067214; omega)⟩) hP hD hS hA List.perm_append_comm (fun _ => List.perm_append_comm) (fun r_7 u_8 H locs e_9 hP hD hS => ?_)
    obtain ⟨x_11, hR_10⟩ : r_7 = 0 ∧ Rep ((v1 j1)) u_8 := by rw [come_1 j1] at e_9; exact e_9
    subst x_11
    have hP : va_P D vwCl (gW cy a u_2 ++ gW cy c9 u_8) H := hP
    have hD : va_D A (gW cy a u_2 ++ gW cy c9 u_8) := hD
    refine lv_if_ne (tgt := 185) hx9 hb dL_law_108 (by decide) (fun c_12 => ?_) (fun c_12 => ?_)
    · exact absurd c_12 (by decide)
    · refine lv_aload_n hx9 hb dL_law_111 rfl (lv_at hl 3 rfl) ?_
      refine lv_iload hx9 hb dL_law_112 (lv_at hl 0 rfl) ?_
      refine lv_sipush (v := 1372) hx9 hb dL_law_114 (by decide) ?_
      refine lv_idiv hx9 hb dL_law_117 (by decide) ?_
      refine zz_top (y := nI (j1 / 1372)) (pk_div (d := 1372) (by omega) (by decide) (by decide)) ?_
      refine lv_bipush (v := 7) hx9 hb dL_law_118 (by decide) ?_
      refine lv_irem hx9 hb dL_law_120 (by decide) ?_
      refine zz_top (y := nI ((j1 / 1372) % 7)) (pk_rem (d := 7) (by omega) (by decide) (by decide)) ?_
      refine lv_iload hx9 hb dL_law_121 (lv_at hl 0 rfl) ?_
      refine lv_sipush (v := 9604) hx9 hb dL_law_123 (by decide) ?_
      refine lv_idiv hx9 hb dL_law_126 (by decide) ?_
      refine zz_top (y := nI (j1 / 9604)) (pk_div (d := 9604) (by omega) (by decide) (by decide)) ?_
      refine lv_bipush (v := 7) hx9 hb dL_law_127 (by decide) ?_
      refine lv_irem hx9 hb dL_law_129 (by decide) ?_
      refine zz_top (y := nI ((j1 / 9604) % 7)) (pk_rem (d := 7) (by omega) (by decide) (by decide)) ?_
      refine lv_iload hx9 hb dL_law_130 (lv_at hl 0 rfl) ?_
      refine lv_ldc (v := 67228) hx9 hb hown (hts (.constant RL 166 (67228)) (by decide +kernel)) dL_law_132 ?_
      refine lv_idiv hx9 hb dL_law_134 (by decide) ?_
      refine zz_top (y := nI (j1 / 67228)) (pk_div (d := 67228) (by omega) (by decide) (by decide)) ?_
      refine lv_bipush (v := 7) hx9 hb dL_law_135 (by decide) ?_
      refine lv_irem hx9 hb dL_law_137 (by decide) ?_
      refine zz_top (y := nI ((j1 / 67228) % 7)) (pk_rem (d := 7) (by omega) (by decide) (by decide)) ?_
      refine lv_iconst (v := 2) hx9 hb dL_law_138 (by decide) ?_
      refine wr_i (fun w9 : BS => gW cy a w9 ++ gW cy c9 u_8) (vx_runSW (As := [.ref (aO a), .int (nI ((j1 / 1372) % 7)), .int (nI ((j1 / 9604) % 7)), .int (nI ((j1 / 67228) % 7)), .int 2]) (rest := []) hF (c_L_comes l D cy hl0 a ((v1 j1)) u_2 (ok_v1 j1) hR_4 (nI ((j1 / 1372) % 7)) (nI ((j1 / 9604) % 7)) (nI ((j1 / 67228) % 7)) 2 H.size) (vx_cwSW 5 hts gL_law_L_comes rfl rfl rfl (by decide +kernel) ⟨Nat.le_of_ble_eq_true rfl, Nat.le_of_ble_eq_true rfl⟩) (wrX_preS hK hP hD (List.Perm.refl _) Xok_l (fun U hU hW => Gl.at hX hS (zz_free hD (List.Perm.refl _) hS hA) hU hW)) rfl rfl hl.1 rfl (lv_room (Nat.le_of_ble_eq_true rfl)) dL_law_139 ⟨(by show _ ≤ 678137; omega), (by show _ ≤ 7067214; omega)⟩) hP hD hS hA (List.Perm.refl _) (fun _ => List.Perm.refl _) (fun r_13 u_14 H locs e_15 hP hD hS => ?_)
      obtain ⟨x_17, hR_16⟩ : r_13 = 1 ∧ Rep ((v2 j1)) u_14 := by rw [come_2 j1] at e_15; exact e_15
      subst x_17
      have hP : va_P D vwCl (gW cy a u_14 ++ gW cy c9 u_8) H := hP
      have hD : va_D A (gW cy a u_14 ++ gW cy c9 u_8) := hD
      refine lv_iconst (v := 1) hx9 hb dL_law_142 (by decide) ?_
      refine lv_icmp_ne (tgt := 185) hx9 hb dL_law_143 (by decide) (fun c_18 => ?_) (fun c_18 => ?_)
      · exact absurd c_18 (by decide)
      · refine lv_aload_n hx9 hb dL_law_146 rfl (lv_at hl 2 rfl) ?_
        refine lv_iload hx9 hb dL_law_147 (lv_at hl 0 rfl) ?_
        refine lv_sipush (v := 1372) hx9 hb dL_law_149 (by decide) ?_
        refine lv_idiv hx9 hb dL_law_152 (by decide) ?_
        refine zz_top (y := nI (j1 / 1372)) (pk_div (d := 1372) (by omega) (by decide) (by decide)) ?_
        refine lv_bipush (v := 7) hx9 hb dL_law_153 (by decide) ?_
        refine lv_irem hx9 hb dL_law_155 (by decide) ?_
        refine zz_top (y := nI ((j1 / 1372) % 7)) (pk_rem (d := 7) (by omega) (by decide) (by decide)) ?_
        refine lv_iload hx9 hb dL_law_156 (lv_at hl 0 rfl) ?_
        refine lv_sipush (v := 9604) hx9 hb dL_law_158 (by decide) ?_
        refine lv_idiv hx9 hb dL_law_161 (by decide) ?_
        refine zz_top (y := nI (j1 / 9604)) (pk_div (d := 9604) (by omega) (by decide) (by decide)) ?_
        refine lv_bipush (v := 7) hx9 hb dL_law_162 (by decide) ?_
        refine lv_irem hx9 hb dL_law_164 (by decide) ?_
        refine zz_top (y := nI ((j1 / 9604) % 7)) (pk_rem (d := 7) (by omega) (by decide) (by decide)) ?_
        refine lv_iload hx9 hb dL_law_165 (lv_at hl 0 rfl) ?_
        refine lv_ldc (v := 67228) hx9 hb hown (hts (.constant RL 166 (67228)) (by decide +kernel)) dL_law_167 ?_
        refine lv_idiv hx9 hb dL_law_169 (by decide) ?_
        refine zz_top (y := nI (j1 / 67228)) (pk_div (d := 67228) (by omega) (by decide) (by decide)) ?_
        refine lv_bipush (v := 7) hx9 hb dL_law_170 (by decide) ?_
        refine lv_irem hx9 hb dL_law_172 (by decide) ?_
        refine zz_top (y := nI ((j1 / 67228) % 7)) (pk_rem (d := 7) (by omega) (by decide) (by decide)) ?_
        refine lv_iconst (v := 2) hx9 hb dL_law_173 (by decide) ?_
        refine wr_i (fun w9 : BS => gW cy a u_14 ++ gW cy c9 w9) (vx_runSW (As := [.ref (aO c9), .int (nI ((j1 / 1372) % 7)), .int (nI ((j1 / 9604) % 7)), .int (nI ((j1 / 67228) % 7)), .int 2]) (rest := []) hF (c_L_comes l D cy hl0 c9 ((v1 j1)) u_8 (ok_v1 j1) hR_10 (nI ((j1 / 1372) % 7)) (nI ((j1 / 9604) % 7)) (nI ((j1 / 67228) % 7)) 2 H.size) (vx_cwSW 5 hts gL_law_L_comes rfl rfl rfl (by decide +kernel) ⟨Nat.le_of_ble_eq_true rfl, Nat.le_of_ble_eq_true rfl⟩) (wrX_preS hK hP hD List.perm_append_comm Xok_l (fun U hU hW => Gl.at hX hS (zz_free hD List.perm_append_comm hS hA) hU hW)) rfl rfl hl.1 rfl (lv_room (Nat.le_of_ble_eq_true rfl)) dL_law_174 ⟨(by show _ ≤ 678137; omega), (by show _ ≤ 7067214; omega)⟩) hP hD hS hA List.perm_append_comm (fun _ => List.perm_append_comm) (fun r_19 u_20 H locs e_21 hP hD hS => ?_)
        obtain ⟨x_23, hR_22⟩ : r_19 = 1 ∧ Rep ((v2 j1)) u_20 := by rw [come_2 j1] at e_21; exact e_21
        subst x_23
        have hP : va_P D vwCl (gW cy a u_14 ++ gW cy c9 u_20) H := hP
        have hD : va_D A (gW cy a u_14 ++ gW cy c9 u_20) := hD
        refine lv_iconst (v := 1) hx9 hb dL_law_177 (by decide) ?_
        refine lv_icmp_ne (tgt := 185) hx9 hb dL_law_178 (by decide) (fun c_24 => ?_) (fun c_24 => ?_)
        · exact absurd c_24 (by decide)
        · refine lv_iconst (v := 1) hx9 hb dL_law_181 (by decide) ?_
          refine lv_goto (tgt := 186) hx9 hb dL_law_182 (by decide) ?_
          refine lv_istore (lv' := [(5, .int 1), (4, .int (nI j1)), (3, .int (nI (14 + (j0 % 27)))), (2, .ref (aO c9)), (1, .ref (aO a)), (0, .ref sb)]) hx9 hb dL_law_186 hl (by decide) rfl (fun ls hl => ?_)
          refine lv_iconst (v := 0) hx9 hb dL_law_188 (by decide) ?_
          refine lv_istore (lv' := [(6, .int 0), (5, .int 1), (4, .int (nI j1)), (3, .int (nI (14 + (j0 % 27)))), (2, .ref (aO c9)), (1, .ref (aO a)), (0, .ref sb)]) hx9 hb dL_law_189 hl (by decide) rfl (fun ls hl => ?_)
          have loop : ∀ (k i : Nat) (v : AV) (ck cq : Nat), ∀ (u_o : BS) (u_q : BS) (H : Heap) (locs : List Loc) (ls : Array Slot), i ≤ 14 + (j0 % 27) → 14 + (j0 % 27) + 1 ≤ i + k → ck + 1700 * (14 + (j0 % 27) - i) ≤ 70000 → cq + 10000 * (14 + (j0 % 27) - i) ≤ 410000 → Inv (i + 2) v → Rep v u_o → Rep v u_q → va_P D vwCl (gW cy a u_o ++ gW cy c9 u_q) H → va_D A (gW cy a u_o ++ gW cy c9 u_q) → va_S A s.heap H locs → lv_has ls 9 [(6, .int (nI i)), (5, .int 1), (4, .int (nI j1)), (3, .int (nI (14 + (j0 % 27)))), (2, .ref (aO c9)), (1, .ref (aO a)), (0, .ref sb)] → W p l e room_1 s m #[Value.ref sb] below meth c H locs ck cq (lw_Z below #[Value.ref sb] s) (F0 m 191 ls []) := by
            intro k
            induction k with
            | zero =>
              intro i v ck cq u_o u_q H locs ls hi hk hc1 hc2 hI hR_o hR_q hP hD hS hl
              exact absurd hk (by omega)
            | succ k ih =>
              intro i v ck cq u_o u_q H locs ls hi hk hc1 hc2 hI hR_o hR_q hP hD hS hl
              refine lv_iload hx9 hb dL_law_191 (lv_at hl 0 rfl) ?_
              refine lv_iload_n hx9 hb dL_law_193 rfl (lv_at hl 3 rfl) ?_
              refine lv_icmp_ge (tgt := 328) hx9 hb dL_law_194 (by decide) (fun c_25 => ?_) (fun c_25 => ?_)
              · have c_25 : 14 + (j0 % 27) ≤ i := (nI_leI (a := 14 + (j0 % 27)) (b := i) (by omega) (by omega)).mp c_25
                refine lv_iload hx9 hb dL_law_328 (lv_at hl 1 rfl) ?_
                refine va_forget (fun q hq => by have z := hS.2.2 q hq; rw [hAe] at z; exact z) ?_
                refine W.widen (k := 678137) (n := 7067214) (by omega) (by omega) ?_
                exact lw_ret hx9 hb hr hlocks dL_law_330
              · have c_25 : ¬ 14 + (j0 % 27) ≤ i := fun q => c_25 ((nI_leI (a := 14 + (j0 % 27)) (b := i) (by omega) (by omega)).mpr q)
                have hi2 : i < 14 + (j0 % 27) := by omega
                refine lv_iload hx9 hb dL_law_197 (lv_at hl 1 rfl) ?_
                refine lv_if_eq (tgt := 328) hx9 hb dL_law_199 (by decide) (fun c_26 => ?_) (fun c_26 => ?_)
                · exact absurd c_26 (by decide)
                · obtain ⟨jv, hjv, ejv⟩ := cellV_n (L := L) (xs := xs) (k := 2 + i)
                  refine lv_aload_n hx9 hb dL_law_202 rfl (lv_at hl 6 rfl) ?_
                  refine lv_iconst (v := 2) hx9 hb dL_law_203 (by decide) ?_
                  refine lv_iload hx9 hb dL_law_204 (lv_at hl 0 rfl) ?_
                  refine lv_iadd hx9 hb dL_law_206 ?_
                  refine zz_top (y := nI (2 + i)) (nI_add _ _) ?_
                  refine rd_SX (As := [.ref sb, .int (nI (2 + i))]) (rest := []) hF (c_L_cell l D cy sb L xs hL (2 + i) (by omega)) (va_cwS 2 hts gL_law_L_cell rfl rfl rfl (by decide +kernel) ⟨Nat.le_of_ble_eq_true rfl, Nat.le_of_ble_eq_true rfl⟩) hK (fun k q h => by simp at h) Xok_c (fun U hU hW => Xs.at hXs hbl hbA hS hU hW) rfl hl.1 rfl (Nat.le_of_ble_eq_true rfl) dL_law_207 ⟨(by show _ ≤ 678137; omega), (by show _ ≤ 7067214; omega)⟩ ?_
                  refine zz_top (y := nI jv) ejv ?_
                  refine lv_istore (lv' := [(7, .int (nI jv)), (6, .int (nI i)), (5, .int 1), (4, .int (nI j1)), (3, .int (nI (14 + (j0 % 27)))), (2, .ref (aO c9)), (1, .ref (aO a)), (0, .ref sb)]) hx9 hb dL_law_210 hl (by decide) rfl (fun ls hl => ?_)
                  have hI2 : Inv (i + 2 + 1) (aAct v jv).2 := inv_act (by omega) hI
                  refine lv_aload_n hx9 hb dL_law_212 rfl (lv_at hl 6 rfl) ?_
                  refine lv_iload hx9 hb dL_law_213 (lv_at hl 0 rfl) ?_
                  refine wr_i (fun w9 : BS => gW cy a w9 ++ gW cy c9 u_q) (va_runS (As := [.ref (aO a), .int (nI jv)]) (rest := []) hF (c_L_act l D cy hl0 a v u_o (i + 2) jv (by omega) hjv hI hR_o H.size) (va_cwS 2 hts gL_law_L_act rfl rfl rfl (by decide +kernel) ⟨Nat.le_of_ble_eq_true rfl, Nat.le_of_ble_eq_true rfl⟩) (wrX_preS hK hP hD (List.Perm.refl _) Xok_l (fun U hU hW => Gl.at hX hS (zz_free hD (List.Perm.refl _) hS hA) hU hW)) rfl rfl hl.1 rfl (lv_room (Nat.le_of_ble_eq_true rfl)) dL_law_215 ⟨(by show _ ≤ 678137; omega), (by show _ ≤ 7067214; omega)⟩) hP hD hS hA (List.Perm.refl _) (fun _ => List.Perm.refl _) (fun r_27 u_28 H locs e_29 hP hD hS => ?_)
                  obtain ⟨x_31, hR_30⟩ : r_27 = (aAct v jv).1 ∧ Rep ((aAct v jv).2) u_28 := by exact e_29
                  subst x_31
                  have hP : va_P D vwCl (gW cy a u_28 ++ gW cy c9 u_q) H := hP
                  have hD : va_D A (gW cy a u_28 ++ gW cy c9 u_q) := hD
                  refine lv_istore (lv' := [(8, .int ((aAct v jv).1)), (7, .int (nI jv)), (6, .int (nI i)), (5, .int 1), (4, .int (nI j1)), (3, .int (nI (14 + (j0 % 27)))), (2, .ref (aO c9)), (1, .ref (aO a)), (0, .ref sb)]) hx9 hb dL_law_218 hl (by decide) rfl (fun ls hl => ?_)
                  refine lv_aload_n hx9 hb dL_law_220 rfl (lv_at hl 6 rfl) ?_
                  refine lv_iload hx9 hb dL_law_221 (lv_at hl 1 rfl) ?_
                  refine lv_ldc (v := 100000) hx9 hb hown (hts (.constant RL 170 (100000)) (by decide +kernel)) dL_law_223 ?_
                  refine lv_irem hx9 hb dL_law_225 (by decide) ?_
                  refine zz_top (y := nI (jv % 100000)) (pk_rem (d := 100000) (by omega) (by decide) (by decide)) ?_
                  refine wr_i (fun w9 : BS => gW cy a u_28 ++ gW cy c9 w9) (va_runS (As := [.ref (aO c9), .int (nI (jv % 100000))]) (rest := []) hF (c_L_refuses l D cy hl0 c9 v u_q (i + 2) (jv % 100000) (by omega) hI hR_q H.size) (va_cwS 2 hts gL_law_L_refuses rfl rfl rfl (by decide +kernel) ⟨Nat.le_of_ble_eq_true rfl, Nat.le_of_ble_eq_true rfl⟩) (wrX_preS hK hP hD List.perm_append_comm Xok_l (fun U hU hW => Gl.at hX hS (zz_free hD List.perm_append_comm hS hA) hU hW)) rfl rfl hl.1 rfl (lv_room (Nat.le_of_ble_eq_true rfl)) dL_law_226 ⟨(by show _ ≤ 678137; omega), (by show _ ≤ 7067214; omega)⟩) hP hD hS hA List.perm_append_comm (fun _ => List.perm_append_comm) (fun r_32 u_33 H locs e_34 hP hD hS => ?_)
                  obtain ⟨x_36, hR_35⟩ : r_32 = 1 ∧ Rep v u_33 := by exact e_34
                  subst x_36
                  have hP : va_P D vwCl (gW cy a u_28 ++ gW cy c9 u_33) H := hP
                  have hD : va_D A (gW cy a u_28 ++ gW cy c9 u_33) := hD
                  refine lv_if_eq (tgt := 319) hx9 hb dL_law_229 (by decide) (fun c_37 => ?_) (fun c_37 => ?_)
                  · exact absurd c_37 (by decide)
                  · refine lv_aload_n hx9 hb dL_law_232 rfl (lv_at hl 6 rfl) ?_
                    refine lv_iload hx9 hb dL_law_233 (lv_at hl 1 rfl) ?_
                    refine wr_i (fun w9 : BS => gW cy a u_28 ++ gW cy c9 w9) (va_runS (As := [.ref (aO c9), .int (nI jv)]) (rest := []) hF (c_L_act l D cy hl0 c9 v u_33 (i + 2) jv (by omega) hjv hI hR_35 H.size) (va_cwS 2 hts gL_law_L_act rfl rfl rfl (by decide +kernel) ⟨Nat.le_of_ble_eq_true rfl, Nat.le_of_ble_eq_true rfl⟩) (wrX_preS hK hP hD List.perm_append_comm Xok_l (fun U hU hW => Gl.at hX hS (zz_free hD List.perm_append_comm hS hA) hU hW)) rfl rfl hl.1 rfl (lv_room (Nat.le_of_ble_eq_true rfl)) dL_law_235 ⟨(by show _ ≤ 678137; omega), (by show _ ≤ 7067214; omega)⟩) hP hD hS hA List.perm_append_comm (fun _ => List.perm_append_comm) (fun r_38 u_39 H locs e_40 hP hD hS => ?_)
                    obtain ⟨x_42, hR_41⟩ : r_38 = (aAct v jv).1 ∧ Rep ((aAct v jv).2) u_39 := by exact e_40
                    subst x_42
                    have hP : va_P D vwCl (gW cy a u_28 ++ gW cy c9 u_39) H := hP
                    have hD : va_D A (gW cy a u_28 ++ gW cy c9 u_39) := hD
                    refine lv_iload hx9 hb dL_law_238 (lv_at hl 0 rfl) ?_
                    refine lv_icmp_ne (tgt := 319) hx9 hb dL_law_240 (by decide) (fun c_43 => ?_) (fun c_43 => ?_)
                    · exact absurd rfl c_43
                    · have c_43 : ((aAct v jv).1) = ((aAct v jv).1) := c_43
                      refine lv_aload_n hx9 hb dL_law_243 rfl (lv_at hl 6 rfl) ?_
                      refine lv_iload hx9 hb dL_law_244 (lv_at hl 1 rfl) ?_
                      refine lv_sipush (v := 1000) hx9 hb dL_law_246 (by decide) ?_
                      refine lv_irem hx9 hb dL_law_249 (by decide) ?_
                      refine zz_top (y := nI (jv % 1000)) (pk_rem (d := 1000) (by omega) (by decide) (by decide)) ?_
                      refine wr_i (fun w9 : BS => gW cy a u_28 ++ gW cy c9 w9) (va_runS (As := [.ref (aO c9), .int (nI (jv % 1000))]) (rest := []) hF (c_L_refuses l D cy hl0 c9 ((aAct v jv).2) u_39 (i + 2 + 1) (jv % 1000) (by omega) hI2 hR_41 H.size) (va_cwS 2 hts gL_law_L_refuses rfl rfl rfl (by decide +kernel) ⟨Nat.le_of_ble_eq_true rfl, Nat.le_of_ble_eq_true rfl⟩) (wrX_preS hK hP hD List.perm_append_comm Xok_l (fun U hU hW => Gl.at hX hS (zz_free hD List.perm_append_comm hS hA) hU hW)) rfl rfl hl.1 rfl (lv_room (Nat.le_of_ble_eq_true rfl)) dL_law_250 ⟨(by show _ ≤ 678137; omega), (by show _ ≤ 7067214; omega)⟩) hP hD hS hA List.perm_append_comm (fun _ => List.perm_append_comm) (fun r_44 u_45 H locs e_46 hP hD hS => ?_)
                      obtain ⟨x_48, hR_47⟩ : r_44 = 1 ∧ Rep ((aAct v jv).2) u_45 := by exact e_46
                      subst x_48
                      have hP : va_P D vwCl (gW cy a u_28 ++ gW cy c9 u_45) H := hP
                      have hD : va_D A (gW cy a u_28 ++ gW cy c9 u_45) := hD
                      refine lv_if_eq (tgt := 319) hx9 hb dL_law_253 (by decide) (fun c_49 => ?_) (fun c_49 => ?_)
                      · exact absurd c_49 (by decide)
                      · refine lv_aload_n hx9 hb dL_law_256 rfl (lv_at hl 7 rfl) ?_
                        refine lv_aload_n hx9 hb dL_law_257 rfl (lv_at hl 6 rfl) ?_
                        refine lv_iload hx9 hb dL_law_258 (lv_at hl 1 rfl) ?_
                        refine lv_sipush (v := 5000) hx9 hb dL_law_260 (by decide) ?_
                        refine lv_irem hx9 hb dL_law_263 (by decide) ?_
                        refine zz_top (y := nI (jv % 5000)) (pk_rem (d := 5000) (by omega) (by decide) (by decide)) ?_
                        refine wr_i (fun w9 : BS × BS => gW cy a w9.1 ++ gW cy c9 w9.2) (va_runS (As := [.ref (aO a), .ref (aO c9), .int (nI (jv % 5000))]) (rest := []) hF (c_L_alike l D cy hl0 a c9 ((aAct v jv).2) u_28 u_45 (i + 2 + 1) (jv % 5000) (by omega) hI2 hR_30 hR_47 H.size) (va_cwS 3 hts gL_law_L_alike rfl rfl rfl (by decide +kernel) ⟨Nat.le_of_ble_eq_true rfl, Nat.le_of_ble_eq_true rfl⟩) (wrX_preS hK hP hD (zz_all _) Xok_l (fun U hU hW => Gl.at hX hS (zz_free hD (zz_all _) hS hA) hU hW)) rfl rfl hl.1 rfl (lv_room (Nat.le_of_ble_eq_true rfl)) dL_law_264 ⟨(by show _ ≤ 678137; omega), (by show _ ≤ 7067214; omega)⟩) hP hD hS hA (zz_all _) (fun _ => zz_all _) (fun r_50 u_51 H locs e_52 hP hD hS => ?_)
                        obtain ⟨x_55, hR_53, hR_54⟩ := e_52
                        subst x_55
                        have hP : va_P D vwCl (gW cy a u_51.1 ++ gW cy c9 u_51.2) H := hP
                        have hD : va_D A (gW cy a u_51.1 ++ gW cy c9 u_51.2) := hD
                        refine lv_if_eq (tgt := 319) hx9 hb dL_law_267 (by decide) (fun c_56 => ?_) (fun c_56 => ?_)
                        · exact absurd c_56 (by decide)
                        · have jn_294 : ∀ (u_57 : BS) (u_59 : BS) (H : Heap) (locs : List Loc) (ls : Array Slot), Rep ((aAct v jv).2) u_57 → Rep ((aAct v jv).2) u_59 → va_P D vwCl (gW cy a u_57 ++ gW cy c9 u_59) H → va_D A (gW cy a u_57 ++ gW cy c9 u_59) → va_S A s.heap H locs → lv_has ls 9 [(8, .int ((aAct v jv).1)), (7, .int (nI jv)), (6, .int (nI i)), (5, .int 1), (4, .int (nI j1)), (3, .int (nI (14 + (j0 % 27)))), (2, .ref (aO c9)), (1, .ref (aO a)), (0, .ref sb)] → W p l e room_1 s m #[Value.ref sb] below meth c H locs (ck + 1180) (cq + 7100) (lw_Z below #[Value.ref sb] s) (F0 m 294 ls []) := by
                            intro u_57 u_59 H locs ls hR_58 hR_60 hP hD hS hl
                            refine lv_aload_n hx9 hb dL_law_294 rfl (lv_at hl 7 rfl) ?_
                            refine lv_aload_n hx9 hb dL_law_295 rfl (lv_at hl 6 rfl) ?_
                            refine lv_iload hx9 hb dL_law_296 (lv_at hl 1 rfl) ?_
                            refine lv_bipush (v := 7) hx9 hb dL_law_298 (by decide) ?_
                            refine lv_idiv hx9 hb dL_law_300 (by decide) ?_
                            refine zz_top (y := nI (jv / 7)) (pk_div (d := 7) (by omega) (by decide) (by decide)) ?_
                            refine wr_i (fun w9 : BS × BS => gW cy a w9.1 ++ gW cy c9 w9.2) (va_runS (As := [.ref (aO a), .ref (aO c9), .int (nI (jv / 7))]) (rest := []) hF (c_L_presses l D cy hl0 a c9 ((aAct v jv).2) u_57 u_59 (i + 2 + 1) (jv / 7) (by omega) hI2 hR_58 hR_60 H.size) (va_cwS 3 hts gL_law_L_presses rfl rfl rfl (by decide +kernel) ⟨Nat.le_of_ble_eq_true rfl, Nat.le_of_ble_eq_true rfl⟩) (wrX_preS hK hP hD (zz_all _) Xok_l (fun U hU hW => Gl.at hX hS (zz_free hD (zz_all _) hS hA) hU hW)) rfl rfl hl.1 rfl (lv_room (Nat.le_of_ble_eq_true rfl)) dL_law_301 ⟨(by show _ ≤ 678137; omega), (by show _ ≤ 7067214; omega)⟩) hP hD hS hA (zz_all _) (fun _ => zz_all _) (fun r_61 u_62 H locs e_63 hP hD hS => ?_)
                            obtain ⟨x_66, w4, hsf4, hR_64, hR_65⟩ := e_63
                            subst x_66
                            have hI4 : Inv (i + 2 + 1) w4 := hI2.sfx hsf4
                            have hP : va_P D vwCl (gW cy a u_62.1 ++ gW cy c9 u_62.2) H := hP
                            have hD : va_D A (gW cy a u_62.1 ++ gW cy c9 u_62.2) := hD
                            refine lv_if_eq (tgt := 319) hx9 hb dL_law_304 (by decide) (fun c_67 => ?_) (fun c_67 => ?_)
                            · exact absurd c_67 (by decide)
                            · refine lv_aload_n hx9 hb dL_law_307 rfl (lv_at hl 7 rfl) ?_
                              refine lv_aload_n hx9 hb dL_law_308 rfl (lv_at hl 6 rfl) ?_
                              refine wr_i (fun w9 : BS × BS => gW cy a w9.1 ++ gW cy c9 w9.2) (va_runS (As := [.ref (aO a), .ref (aO c9)]) (rest := []) hF (c_L_leads l D cy hl0 a c9 w4 u_62.1 u_62.2 (i + 2 + 1) hI4 hR_64 hR_65 H.size) (va_cwS 2 hts gL_law_L_leads rfl rfl rfl (by decide +kernel) ⟨Nat.le_of_ble_eq_true rfl, Nat.le_of_ble_eq_true rfl⟩) (wrX_preS hK hP hD (zz_all _) Xok_l (fun U hU hW => Gl.at hX hS (zz_free hD (zz_all _) hS hA) hU hW)) rfl rfl hl.1 rfl (lv_room (Nat.le_of_ble_eq_true rfl)) dL_law_309 ⟨(by show _ ≤ 678137; omega), (by show _ ≤ 7067214; omega)⟩) hP hD hS hA (zz_all _) (fun _ => zz_all _) (fun r_68 u_69 H locs e_70 hP hD hS => ?_)
                              obtain ⟨x_73, w5, hsf5, hR_71, hR_72⟩ := e_70
                              subst x_73
                              have hI5 : Inv (i + 2 + 1) w5 := hI4.sfx hsf5
                              have hP : va_P D vwCl (gW cy a u_69.1 ++ gW cy c9 u_69.2) H := hP
                              have hD : va_D A (gW cy a u_69.1 ++ gW cy c9 u_69.2) := hD
                              refine lv_if_eq (tgt := 319) hx9 hb dL_law_312 (by decide) (fun c_74 => ?_) (fun c_74 => ?_)
                              · exact absurd c_74 (by decide)
                              · refine lv_iconst (v := 1) hx9 hb dL_law_315 (by decide) ?_
                                refine lv_goto (tgt := 320) hx9 hb dL_law_316 (by decide) ?_
                                refine lv_istore (lv' := [(5, .int 1), (8, .int ((aAct v jv).1)), (7, .int (nI jv)), (6, .int (nI i)), (4, .int (nI j1)), (3, .int (nI (14 + (j0 % 27)))), (2, .ref (aO c9)), (1, .ref (aO a)), (0, .ref sb)]) hx9 hb dL_law_320 hl (by decide) rfl (fun ls hl => ?_)
                                refine lv_iinc (v := nI (i + 1)) (lv' := [(6, .int (nI (i + 1))), (5, .int 1), (8, .int ((aAct v jv).1)), (7, .int (nI jv)), (4, .int (nI j1)), (3, .int (nI (14 + (j0 % 27)))), (2, .ref (aO c9)), (1, .ref (aO a)), (0, .ref sb)]) hx9 hb dL_law_322 hl (k := 3) rfl (nI_add (i) 1) (by decide) rfl (fun ls hl => ?_)
                                refine lv_goto (tgt := 191) hx9 hb dL_law_325 (by decide) ?_
                                refine W.widen (k := ck + 1700) (n := cq + 10000) (by omega) (by omega) ?_
                                exact ih (i + 1) w5 (ck + 1700) (cq + 10000) u_69.1 u_69.2 _ _ _ (by omega) (by omega) (by omega) (by omega) (by rw [show i + 1 + 2 = i + 2 + 1 by omega]; exact hI5) hR_71 hR_72 hP hD hS (lv_sub hl [0, 1, 4, 5, 6, 7, 8] rfl)
                          refine lv_iload hx9 hb dL_law_270 (lv_at hl 2 rfl) ?_
                          refine lv_iconst (v := 2) hx9 hb dL_law_272 (by decide) ?_
                          refine lv_irem hx9 hb dL_law_273 (by decide) ?_
                          refine zz_top (y := nI (i % 2)) (pk_rem (d := 2) (by omega) (by decide) (by decide)) ?_
                          refine lv_if_ne (tgt := 287) hx9 hb dL_law_274 (by decide) (fun c_75 => ?_) (fun c_75 => ?_)
                          · have c_75 : ¬ i % 2 = 0 := fun q => c_75 ((nI_eq (a := i % 2) (b := 0) (by omega) (by omega)).mpr q)
                            refine lv_aload_n hx9 hb dL_law_287 rfl (lv_at hl 6 rfl) ?_
                            refine wr_i (fun w9 : BS => gW cy a u_51.1 ++ gW cy c9 w9) (va_runS (As := [.ref (aO c9)]) (rest := []) hF (c_L_holds l D cy hl0 c9 ((aAct v jv).2) u_51.2 (i + 2 + 1) (by omega) hI2 hR_54 H.size) (va_cwS 1 hts gL_law_L_holds rfl rfl rfl (by decide +kernel) ⟨Nat.le_of_ble_eq_true rfl, Nat.le_of_ble_eq_true rfl⟩) (wrX_preS hK hP hD List.perm_append_comm Xok_l (fun U hU hW => Gl.at hX hS (zz_free hD List.perm_append_comm hS hA) hU hW)) rfl rfl hl.1 rfl (lv_room (Nat.le_of_ble_eq_true rfl)) dL_law_288 ⟨(by show _ ≤ 678137; omega), (by show _ ≤ 7067214; omega)⟩) hP hD hS hA List.perm_append_comm (fun _ => List.perm_append_comm) (fun r_76 u_77 H locs e_78 hP hD hS => ?_)
                            obtain ⟨x_80, hR_79⟩ : r_76 = 1 ∧ Rep ((aAct v jv).2) u_77 := by exact e_78
                            subst x_80
                            have hP : va_P D vwCl (gW cy a u_51.1 ++ gW cy c9 u_77) H := hP
                            have hD : va_D A (gW cy a u_51.1 ++ gW cy c9 u_77) := hD
                            refine lv_if_eq (tgt := 319) hx9 hb dL_law_291 (by decide) (fun c_81 => ?_) (fun c_81 => ?_)
                            · exact absurd c_81 (by decide)
                            · refine W.widen (k := ck + 1180) (n := cq + 7100) (by omega) (by omega) ?_
                              exact jn_294 u_51.1 u_77 _ _ _ hR_53 hR_79 hP hD hS (lv_sub hl [0, 1, 2, 3, 4, 5, 6, 7, 8] rfl)
                          · have c_75 : i % 2 = 0 := (nI_eq (a := i % 2) (b := 0) (by omega) (by omega)).mp c_75
                            refine lv_aload_n hx9 hb dL_law_277 rfl (lv_at hl 7 rfl) ?_
                            refine wr_i (fun w9 : BS => gW cy a w9 ++ gW cy c9 u_51.2) (va_runS (As := [.ref (aO a)]) (rest := []) hF (c_L_holds l D cy hl0 a ((aAct v jv).2) u_51.1 (i + 2 + 1) (by omega) hI2 hR_53 H.size) (va_cwS 1 hts gL_law_L_holds rfl rfl rfl (by decide +kernel) ⟨Nat.le_of_ble_eq_true rfl, Nat.le_of_ble_eq_true rfl⟩) (wrX_preS hK hP hD (List.Perm.refl _) Xok_l (fun U hU hW => Gl.at hX hS (zz_free hD (List.Perm.refl _) hS hA) hU hW)) rfl rfl hl.1 rfl (lv_room (Nat.le_of_ble_eq_true rfl)) dL_law_278 ⟨(by show _ ≤ 678137; omega), (by show _ ≤ 7067214; omega)⟩) hP hD hS hA (List.Perm.refl _) (fun _ => List.Perm.refl _) (fun r_82 u_83 H locs e_84 hP hD hS => ?_)
                            obtain ⟨x_86, hR_85⟩ : r_82 = 1 ∧ Rep ((aAct v jv).2) u_83 := by exact e_84
                            subst x_86
                            have hP : va_P D vwCl (gW cy a u_83 ++ gW cy c9 u_51.2) H := hP
                            have hD : va_D A (gW cy a u_83 ++ gW cy c9 u_51.2) := hD
                            refine lv_if_eq (tgt := 319) hx9 hb dL_law_281 (by decide) (fun c_87 => ?_) (fun c_87 => ?_)
                            · exact absurd c_87 (by decide)
                            · refine lv_goto (tgt := 294) hx9 hb dL_law_284 (by decide) ?_
                              refine W.widen (k := ck + 1180) (n := cq + 7100) (by omega) (by omega) ?_
                              exact jn_294 u_83 u_51.2 _ _ _ hR_85 hR_54 hP hD hS (lv_sub hl [0, 1, 2, 3, 4, 5, 6, 7, 8] rfl)
          refine W.widen (k := c0 + 40) (n := q0 + 204) (by omega) (by omega) ?_
          exact loop (14 + (j0 % 27) + 1) 0 (v2 j1) (c0 + 40) (q0 + 204) u_14 u_20 _ _ _ (Nat.zero_le _) (by omega) (by omega) (by omega) (inv_v2 j1) hR_16 hR_22 hP hD hS (lv_sub hl [0, 1, 2, 3, 4, 5, 6] rfl)
