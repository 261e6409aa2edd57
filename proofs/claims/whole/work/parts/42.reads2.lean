abbrev rm_X8_figures : Room := { frames := 1, cells := 0, slots := 0, locals := 25 }
set_option maxHeartbeats 4000000 in
set_option maxRecDepth 100000 in
theorem c_X8_figures_1 (l : Launch) (D : va_G) (cy : Nat → ClassId) (b : Nat → Nat) (rf ac ou : Int32) (tx : Nat → Int32) (zs s0 : Nat) (ht : okT zs tx) (hs : s0 ≤ zs) (ah : Int32) (lo hi : Nat) (hlo : lo ≤ 9) (hhi : hi ≤ 9) (sz : Nat) : Met l yX8_figures wsX8_figures rm_X8_figures (wrP D cy [.ref (b 0), .int ah, .int 1, .int (nI lo), .int (nI hi)] (wj [[(b 0, .inr (5, [.int rf, .ref (b 1), .int (nI zs), .ref (b 2), .ref (b 3), .ref (b 4), .ref (b 5), .int ac, .ref (b 6), .ref (b 7), .int (nI s0), .int ou]))], [(b 1, .inl (cy 0, 120, .inl tx))]]) sz) (va_Qi (fun (r : Int32) (u : Nat) => FigP zs tx s0 ah lo hi r u) (wrB D (va_A (wj [[(b 0, .inr (5, [.int rf, .ref (b 1), .int (nI zs), .ref (b 2), .ref (b 3), .ref (b 4), .ref (b 5), .int ac, .ref (b 6), .ref (b 7), .int (nI s0), .int ou]))], [(b 1, .inl (cy 0, 120, .inl tx))]]) sz) (fun u => wj [[(b 0, .inr (5, [.int rf, .ref (b 1), .int (nI zs), .ref (b 2), .ref (b 3), .ref (b 4), .ref (b 5), .int ac, .ref (b 6), .ref (b 7), .int (nI u), .int ou]))], [(b 1, .inl (cy 0, 120, .inl tx))]])) (va_A (wj [[(b 0, .inr (5, [.int rf, .ref (b 1), .int (nI zs), .ref (b 2), .ref (b 3), .ref (b 4), .ref (b 5), .int ac, .ref (b 6), .ref (b 7), .int (nI s0), .int ou]))], [(b 1, .inl (cy 0, 120, .inl tx))]]) sz)) 0 0 (va_A (wj [[(b 0, .inr (5, [.int rf, .ref (b 1), .int (nI zs), .ref (b 2), .ref (b 3), .ref (b 4), .ref (b 5), .int ac, .ref (b 6), .ref (b 7), .int (nI s0), .int ou]))], [(b 1, .inl (cy 0, 120, .inl tx))]]) sz) := by
  have hz := ht.1
  refine Mwi (cc := cX8_figures) (maxL := 9) (ty := .int) (by decide) rfl (Nat.le_of_ble_eq_true rfl) (fun _ _ _ => rfl) ?_
  intro p e s m args below meth c Q ls A hsz hF hK hP hD hA hl hret
  obtain ⟨hx, hb, hml, hown, hts⟩ := id hF
  have hown : s.vm.findClass RX8 = some m.cls := hown
  have hin_X8 : ∀ w ∈ u_ws RX8 TX8 12, w ∈ wsX8_figures := by decide +kernel
  have hl : lv_has ls 9 [(0, .ref (b 0)), (1, .int ah), (2, .int 1), (3, .int (nI lo)), (4, .int (nI hi))] := hl
  suffices key : ∀ (H : Heap) (locs : List Loc), va_P D vwCl (wj [[(b 0, .inr (5, [.int rf, .ref (b 1), .int (nI zs), .ref (b 2), .ref (b 3), .ref (b 4), .ref (b 5), .int ac, .ref (b 6), .ref (b 7), .int (nI s0), .int ou]))], [(b 1, .inl (cy 0, 120, .inl tx))]]) H → va_D A (wj [[(b 0, .inr (5, [.int rf, .ref (b 1), .int (nI zs), .ref (b 2), .ref (b 3), .ref (b 4), .ref (b 5), .int ac, .ref (b 6), .ref (b 7), .int (nI s0), .int ou]))], [(b 1, .inl (cy 0, 120, .inl tx))]]) → va_S A s.heap H locs → W p l e rm_X8_figures s m args below meth c H locs 0 0 Q (F0 m 0 ls []) from key s.heap [] hP hD va_S.rf
  intro H locs hP hD hS
  refine lv_iconst (v := 0) hx hb dX8_figures_0 (by decide) ?_
  refine lv_istore (lv' := [(5, .int 0), (0, .ref (b 0)), (1, .int ah), (2, .int 1), (3, .int (nI lo)), (4, .int (nI hi))]) hx hb dX8_figures_1 hl (by decide) rfl (fun ls hl => ?_)
  refine lv_iload_n hx hb dX8_figures_3 rfl (lv_at hl 3 rfl) ?_
  refine lv_iconst (v := 2) hx hb dX8_figures_4 (by decide) ?_
  refine lv_icmp_ne (tgt := 13) hx hb dX8_figures_5 (by decide) (fun c_1 => ?_) (fun c_1 => ?_)
  · refine lv_iconst (v := 1) hx hb dX8_figures_13 (by decide) ?_
    refine lv_istore (lv' := [(6, .int 1), (5, .int 0), (0, .ref (b 0)), (1, .int ah), (2, .int 1), (3, .int (nI lo)), (4, .int (nI hi))]) hx hb dX8_figures_14 hl (by decide) rfl (fun ls hl => ?_)
    refine lv_iload hx hb dX8_figures_16 (lv_at hl 0 rfl) ?_
    refine lv_if_le (tgt := 122) hx hb dX8_figures_18 (by decide) (fun c_2 => ?_) (fun c_2 => ?_)
    · exact absurd c_2 (by decide)
    · refine lv_iload_n hx hb dX8_figures_21 rfl (lv_at hl 3 rfl) ?_
      refine lv_iconst (v := (-1)) hx hb dX8_figures_22 (by decide) ?_
      refine lv_icmp_eq (tgt := 122) hx hb dX8_figures_23 (by decide) (fun c_3 => ?_) (fun c_3 => ?_)
      · have c_3 : ah = ((-1)) := c_3
        refine lv_iload_n hx hb dX8_figures_122 rfl (lv_at hl 3 rfl) ?_
        refine lv_iconst (v := (-1)) hx hb dX8_figures_123 (by decide) ?_
        refine lv_icmp_ne (tgt := 131) hx hb dX8_figures_124 (by decide) (fun c_4 => ?_) (fun c_4 => ?_)
        · have c_4 : ¬ ah = ((-1)) := c_4
          exact absurd c_3 c_4
        · have c_4 : ah = ((-1)) := c_4
          refine lv_iconst (v := (-1)) hx hb dX8_figures_127 (by decide) ?_
          refine lv_goto (tgt := 133) hx hb dX8_figures_128 (by decide) ?_
          exact hret _ _ H locs _ s0 dX8_figures_133 hP hD hS (figP_ah c_3)
      · have c_3 : ¬ ah = ((-1)) := c_3
        refine lv_aload_n hx hb dX8_figures_26 rfl (lv_at hl 2 rfl) ?_
        refine va_get (ci := 5) (v := .int (nI s0)) (C := RX8) (T := TX8) (N := 12) hx hb hts hin_X8 hown hK hP 0 rfl rfl 10 (by decide) (hts (.fieldLink RX8 112 "ButtonGuestsModel" "spot" "I") (by decide +kernel)) (fun _ h9 => h9) rfl dX8_figures_27 ?_
        refine lv_aload_n hx hb dX8_figures_30 rfl (lv_at hl 2 rfl) ?_
        refine va_get (ci := 5) (v := .int (nI zs)) (C := RX8) (T := TX8) (N := 12) hx hb hts hin_X8 hown hK hP 0 rfl rfl 2 (by decide) (hts (.fieldLink RX8 105 "ButtonGuestsModel" "size" "I") (by decide +kernel)) (fun _ h9 => h9) rfl dX8_figures_31 ?_
        refine lv_icmp_ge (tgt := 52) hx hb dX8_figures_34 (by decide) (fun c_5 => ?_) (fun c_5 => ?_)
        · have c_5 : zs ≤ s0 := (nI_leI (a := zs) (b := s0) (by omega) (by omega)).mp c_5
          refine lv_iconst (v := (-1)) hx hb dX8_figures_52 (by decide) ?_
          refine lv_istore (lv' := [(7, .int ((-1))), (6, .int 1), (5, .int 0), (0, .ref (b 0)), (1, .int ah), (2, .int 1), (3, .int (nI lo)), (4, .int (nI hi))]) hx hb dX8_figures_53 hl (by decide) rfl (fun ls hl => ?_)
          refine lv_iload hx hb dX8_figures_55 (lv_at hl 2 rfl) ?_
          refine lv_iload hx hb dX8_figures_57 (lv_at hl 0 rfl) ?_
          refine lv_iload hx hb dX8_figures_59 (lv_at hl 1 rfl) ?_
          refine lv_imul hx hb dX8_figures_61 ?_
          refine lv_iadd hx hb dX8_figures_62 ?_
          refine lv_istore (lv' := [(8, .int (0 + (((-1)) * 1))), (7, .int ((-1))), (6, .int 1), (5, .int 0), (0, .ref (b 0)), (1, .int ah), (2, .int 1), (3, .int (nI lo)), (4, .int (nI hi))]) hx hb dX8_figures_63 hl (by decide) rfl (fun ls hl => ?_)
          refine lv_iload hx hb dX8_figures_65 (lv_at hl 1 rfl) ?_
          refine lv_i2l (v := Int32.toInt64 ((-1))) hx hb dX8_figures_67 rfl ?_
          refine lv_lconst (v := 0) hx hb dX8_figures_68 (by decide) ?_
          refine lv_ldc2 (v := 9) hx hb hown (hts (.constantLong RX8 50 (9)) (by decide +kernel)) dX8_figures_69 ?_
          refine rd_S (As := [.long (Int32.toInt64 ((-1))), .long 0, .long 9]) (rest := []) hF (c_X8_in l D cy (Int32.toInt64 ((-1))) 0 9) (va_cwS 3 hts gX8_figures_X8_in rfl rfl rfl (by decide +kernel) ⟨Nat.le_of_ble_eq_true rfl, Nat.le_of_ble_eq_true rfl⟩) hK (fun k q h => by simp at h) rfl hl.1 rfl (Nat.le_of_ble_eq_true rfl) dX8_figures_72 ⟨Nat.le_of_ble_eq_true rfl, Nat.le_of_ble_eq_true rfl⟩ ?_
          refine lv_if_eq (tgt := 96) hx hb dX8_figures_75 (by decide) (fun c_6 => ?_) (fun c_6 => ?_)
          · have c_6 := zb_eq.mp c_6
            refine lv_iconst (v := (-1)) hx hb dX8_figures_96 (by decide) ?_
            exact hret _ _ H locs _ s0 dX8_figures_97 hP hD hS (figP_m1 hlo (dig_end (by omega) (by have := ht.1; omega)))
          · have c_6 := zb_ne.mp c_6
            exact absurd c_6 (by decide)
        · have c_5 : ¬ zs ≤ s0 := fun q => c_5 ((nI_leI (a := zs) (b := s0) (by omega) (by omega)).mpr q)
          refine lv_aload_n hx hb dX8_figures_37 rfl (lv_at hl 2 rfl) ?_
          refine va_get (ci := 5) (v := .ref (b 1)) (C := RX8) (T := TX8) (N := 12) hx hb hts hin_X8 hown hK hP 0 rfl rfl 1 (by decide) (hts (.fieldLink RX8 7 "ButtonGuestsModel" "text" "[I") (by decide +kernel)) (fun _ h9 => h9) rfl dX8_figures_38 ?_
          refine lv_aload_n hx hb dX8_figures_41 rfl (lv_at hl 2 rfl) ?_
          refine va_get (ci := 5) (v := .int (nI s0)) (C := RX8) (T := TX8) (N := 12) hx hb hts hin_X8 hown hK hP 0 rfl rfl 10 (by decide) (hts (.fieldLink RX8 112 "ButtonGuestsModel" "spot" "I") (by decide +kernel)) (fun _ h9 => h9) rfl dX8_figures_42 ?_
          refine zz_iald hx hb hK hP 1 0 s0 rfl rfl rfl ⟨by omega, Nat.le_of_ble_eq_true rfl⟩ dX8_figures_45 ?_
          refine lv_bipush (v := 48) hx hb dX8_figures_46 (by decide) ?_
          refine lv_isub hx hb dX8_figures_48 ?_
          refine lv_goto (tgt := 53) hx hb dX8_figures_49 (by decide) ?_
          refine lv_istore (lv' := [(7, .int ((tx s0) - 48)), (6, .int 1), (5, .int 0), (0, .ref (b 0)), (1, .int ah), (2, .int 1), (3, .int (nI lo)), (4, .int (nI hi))]) hx hb dX8_figures_53 hl (by decide) rfl (fun ls hl => ?_)
          refine lv_iload hx hb dX8_figures_55 (lv_at hl 2 rfl) ?_
          refine lv_iload hx hb dX8_figures_57 (lv_at hl 0 rfl) ?_
          refine lv_iload hx hb dX8_figures_59 (lv_at hl 1 rfl) ?_
          refine lv_imul hx hb dX8_figures_61 ?_
          refine lv_iadd hx hb dX8_figures_62 ?_
          refine lv_istore (lv' := [(8, .int (0 + (((tx s0) - 48) * 1))), (7, .int ((tx s0) - 48)), (6, .int 1), (5, .int 0), (0, .ref (b 0)), (1, .int ah), (2, .int 1), (3, .int (nI lo)), (4, .int (nI hi))]) hx hb dX8_figures_63 hl (by decide) rfl (fun ls hl => ?_)
          refine lv_iload hx hb dX8_figures_65 (lv_at hl 1 rfl) ?_
          refine lv_i2l (v := Int32.toInt64 ((tx s0) - 48)) hx hb dX8_figures_67 rfl ?_
          refine lv_lconst (v := 0) hx hb dX8_figures_68 (by decide) ?_
          refine lv_ldc2 (v := 9) hx hb hown (hts (.constantLong RX8 50 (9)) (by decide +kernel)) dX8_figures_69 ?_
          refine rd_S (As := [.long (Int32.toInt64 ((tx s0) - 48)), .long 0, .long 9]) (rest := []) hF (c_X8_in l D cy (Int32.toInt64 ((tx s0) - 48)) 0 9) (va_cwS 3 hts gX8_figures_X8_in rfl rfl rfl (by decide +kernel) ⟨Nat.le_of_ble_eq_true rfl, Nat.le_of_ble_eq_true rfl⟩) hK (fun k q h => by simp at h) rfl hl.1 rfl (Nat.le_of_ble_eq_true rfl) dX8_figures_72 ⟨Nat.le_of_ble_eq_true rfl, Nat.le_of_ble_eq_true rfl⟩ ?_
          refine lv_if_eq (tgt := 96) hx hb dX8_figures_75 (by decide) (fun c_7 => ?_) (fun c_7 => ?_)
          · have c_7 := zb_eq.mp c_7
            refine lv_iconst (v := (-1)) hx hb dX8_figures_96 (by decide) ?_
            exact hret _ _ H locs _ s0 dX8_figures_97 hP hD hS (figP_m1 hlo (dig_no ht (by omega) c_7))
          · have c_7 := zb_ne.mp c_7
            obtain ⟨a1, ha1, ea1⟩ := inL_nat (c := 9) (k := 9) (by decide) rfl c_7
            have ed1 := dig_of ht (show s0 < zs by omega) ha1 ea1
            refine lv_iload hx hb dX8_figures_78 (lv_at hl 0 rfl) ?_
            refine zz_top (y := nI a1) (by rw [ea1]; show nI 0 + nI a1 * nI 1 = _; rw [pk_mul, nI_add, Nat.mul_one, Nat.zero_add]) ?_
            refine lv_iload hx hb dX8_figures_80 (lv_at hl 8 rfl) ?_
            refine lv_icmp_gt (tgt := 96) hx hb dX8_figures_82 (by decide) (fun c_8 => ?_) (fun c_8 => ?_)
            · have c_8 : hi < a1 := (nI_ltI (a := hi) (b := a1) (by omega) (by omega)).mp c_8
              refine lv_iconst (v := (-1)) hx hb dX8_figures_96 (by decide) ?_
              exact hret _ _ H locs _ s0 dX8_figures_97 hP hD hS (figP_no hlo hhi ha1 ed1 (by omega))
            · have c_8 : ¬ hi < a1 := fun q => c_8 ((nI_ltI (a := hi) (b := a1) (by omega) (by omega)).mpr q)
              refine lv_iload hx hb dX8_figures_85 (lv_at hl 0 rfl) ?_
              refine zz_top (y := nI a1) (by rw [ea1]; show nI 0 + nI a1 * nI 1 = _; rw [pk_mul, nI_add, Nat.mul_one, Nat.zero_add]) ?_
              refine lv_iload hx hb dX8_figures_87 (lv_at hl 2 rfl) ?_
              refine lv_iadd hx hb dX8_figures_89 ?_
              refine zz_top (y := nI (a1 + 1)) (nI_add _ _) ?_
              refine lv_iconst (v := 1) hx hb dX8_figures_90 (by decide) ?_
              refine lv_isub hx hb dX8_figures_91 ?_
              refine zz_top (y := nI a1) (pk_sub (a := a1 + 1) (b := 1) (by omega)) ?_
              refine lv_iload_n hx hb dX8_figures_92 rfl (lv_at hl 7 rfl) ?_
              refine lv_icmp_ge (tgt := 98) hx hb dX8_figures_93 (by decide) (fun c_9 => ?_) (fun c_9 => ?_)
              · have c_9 : lo ≤ a1 := (nI_leI (a := lo) (b := a1) (by omega) (by omega)).mp c_9
                refine lv_iload hx hb dX8_figures_98 (lv_at hl 0 rfl) ?_
                refine zz_top (y := nI a1) (by rw [ea1]; show nI 0 + nI a1 * nI 1 = _; rw [pk_mul, nI_add, Nat.mul_one, Nat.zero_add]) ?_
                refine lv_istore (lv' := [(5, .int (nI a1)), (8, .int (0 + (((tx s0) - 48) * 1))), (7, .int ((tx s0) - 48)), (6, .int 1), (0, .ref (b 0)), (1, .int ah), (2, .int 1), (3, .int (nI lo)), (4, .int (nI hi))]) hx hb dX8_figures_100 hl (by decide) rfl (fun ls hl => ?_)
                refine lv_aload_n hx hb dX8_figures_102 rfl (lv_at hl 4 rfl) ?_
                refine lv_dup hx hb dX8_figures_103 rfl ?_
                refine va_get (ci := 5) (v := .int (nI s0)) (C := RX8) (T := TX8) (N := 12) hx hb hts hin_X8 hown hK hP 0 rfl rfl 10 (by decide) (hts (.fieldLink RX8 112 "ButtonGuestsModel" "spot" "I") (by decide +kernel)) (fun _ h9 => h9) rfl dX8_figures_104 ?_
                refine lv_iconst (v := 1) hx hb dX8_figures_107 (by decide) ?_
                refine lv_iadd hx hb dX8_figures_108 ?_
                refine zz_top (y := nI (s0 + 1)) (nI_add _ _) ?_
                refine va_put (ci := 5) (v := .int (nI (s0 + 1))) (ty := .int) (C := RX8) (T := TX8) (N := 12) hx hb hts hin_X8 tyX8 tyX8_ok nmX8 hown hK hP hD hS 0 rfl rfl 10 (by decide) (hts (.fieldLink RX8 112 "ButtonGuestsModel" "spot" "I") (by decide +kernel)) (fun _ h9 => h9) rfl (by decide +kernel) rfl rfl (Nat.le_of_ble_eq_true rfl) dX8_figures_109 (fun H locs hP hD hS => ?_)
                have hP : va_P D vwCl (wj [[(b 0, .inr (5, [.int rf, .ref (b 1), .int (nI zs), .ref (b 2), .ref (b 3), .ref (b 4), .ref (b 5), .int ac, .ref (b 6), .ref (b 7), .int (nI (s0 + 1)), .int ou]))], [(b 1, .inl (cy 0, 120, .inl tx))]]) H := hP
                have hD : va_D A (wj [[(b 0, .inr (5, [.int rf, .ref (b 1), .int (nI zs), .ref (b 2), .ref (b 3), .ref (b 4), .ref (b 5), .int ac, .ref (b 6), .ref (b 7), .int (nI (s0 + 1)), .int ou]))], [(b 1, .inl (cy 0, 120, .inl tx))]]) := hD
                refine lv_iload hx hb dX8_figures_112 (lv_at hl 3 rfl) ?_
                refine lv_bipush (v := 10) hx hb dX8_figures_114 (by decide) ?_
                refine lv_idiv hx hb dX8_figures_116 (by decide) ?_
                refine zz_top (y := 0) rfl ?_
                refine zz_top (y := 0) rfl ?_
                refine lv_istore (lv' := [(6, .int 0), (5, .int (nI a1)), (8, .int (0 + (((tx s0) - 48) * 1))), (7, .int ((tx s0) - 48)), (0, .ref (b 0)), (1, .int ah), (2, .int 1), (3, .int (nI lo)), (4, .int (nI hi))]) hx hb dX8_figures_117 hl (by decide) rfl (fun ls hl => ?_)
                refine lv_goto (tgt := 16) hx hb dX8_figures_119 (by decide) ?_
                refine lv_iload hx hb dX8_figures_16 (lv_at hl 0 rfl) ?_
                refine lv_if_le (tgt := 122) hx hb dX8_figures_18 (by decide) (fun c_10 => ?_) (fun c_10 => ?_)
                · refine lv_iload_n hx hb dX8_figures_122 rfl (lv_at hl 5 rfl) ?_
                  refine lv_iconst (v := (-1)) hx hb dX8_figures_123 (by decide) ?_
                  refine lv_icmp_ne (tgt := 131) hx hb dX8_figures_124 (by decide) (fun c_11 => ?_) (fun c_11 => ?_)
                  · have c_11 : ¬ ah = ((-1)) := c_11
                    refine lv_iload hx hb dX8_figures_131 (lv_at hl 1 rfl) ?_
                    exact hret _ _ H locs _ (s0 + 1) dX8_figures_133 hP hD hS (figP_ok c_3 hlo hhi ha1 ed1 c_9 (by omega))
                  · have c_11 : ah = ((-1)) := c_11
                    exact absurd c_11 c_3
                · exact absurd c_10 (by decide)
              · have c_9 : ¬ lo ≤ a1 := fun q => c_9 ((nI_leI (a := lo) (b := a1) (by omega) (by omega)).mpr q)
                refine lv_iconst (v := (-1)) hx hb dX8_figures_96 (by decide) ?_
                exact hret _ _ H locs _ s0 dX8_figures_97 hP hD hS (figP_no hlo hhi ha1 ed1 (by omega))
  · exact absurd c_1 (by decide)
set_option maxHeartbeats 4000000 in
set_option maxRecDepth 100000 in
theorem c_X8_figures_2 (l : Launch) (D : va_G) (cy : Nat → ClassId) (b : Nat → Nat) (rf ac ou : Int32) (tx : Nat → Int32) (zs s0 : Nat) (ht : okT zs tx) (hs : s0 ≤ zs) (ah : Int32) (sz : Nat) : Met l yX8_figures wsX8_figures rm_X8_figures (wrP D cy [.ref (b 0), .int ah, .int 2, .int 0, .int 16] (wj [[(b 0, .inr (5, [.int rf, .ref (b 1), .int (nI zs), .ref (b 2), .ref (b 3), .ref (b 4), .ref (b 5), .int ac, .ref (b 6), .ref (b 7), .int (nI s0), .int ou]))], [(b 1, .inl (cy 0, 120, .inl tx))]]) sz) (va_Qi (fun (r : Int32) (u : Nat) => FigP2 zs tx s0 ah r u) (wrB D (va_A (wj [[(b 0, .inr (5, [.int rf, .ref (b 1), .int (nI zs), .ref (b 2), .ref (b 3), .ref (b 4), .ref (b 5), .int ac, .ref (b 6), .ref (b 7), .int (nI s0), .int ou]))], [(b 1, .inl (cy 0, 120, .inl tx))]]) sz) (fun u => wj [[(b 0, .inr (5, [.int rf, .ref (b 1), .int (nI zs), .ref (b 2), .ref (b 3), .ref (b 4), .ref (b 5), .int ac, .ref (b 6), .ref (b 7), .int (nI u), .int ou]))], [(b 1, .inl (cy 0, 120, .inl tx))]])) (va_A (wj [[(b 0, .inr (5, [.int rf, .ref (b 1), .int (nI zs), .ref (b 2), .ref (b 3), .ref (b 4), .ref (b 5), .int ac, .ref (b 6), .ref (b 7), .int (nI s0), .int ou]))], [(b 1, .inl (cy 0, 120, .inl tx))]]) sz)) 0 0 (va_A (wj [[(b 0, .inr (5, [.int rf, .ref (b 1), .int (nI zs), .ref (b 2), .ref (b 3), .ref (b 4), .ref (b 5), .int ac, .ref (b 6), .ref (b 7), .int (nI s0), .int ou]))], [(b 1, .inl (cy 0, 120, .inl tx))]]) sz) := by
  have hz := ht.1
  refine Mwi (cc := cX8_figures) (maxL := 9) (ty := .int) (by decide) rfl (Nat.le_of_ble_eq_true rfl) (fun _ _ _ => rfl) ?_
  intro p e s m args below meth c Q ls A hsz hF hK hP hD hA hl hret
  obtain ⟨hx, hb, hml, hown, hts⟩ := id hF
  have hown : s.vm.findClass RX8 = some m.cls := hown
  have hin_X8 : ∀ w ∈ u_ws RX8 TX8 12, w ∈ wsX8_figures := by decide +kernel
  have hl : lv_has ls 9 [(0, .ref (b 0)), (1, .int ah), (2, .int 2), (3, .int 0), (4, .int 16)] := hl
  suffices key : ∀ (H : Heap) (locs : List Loc), va_P D vwCl (wj [[(b 0, .inr (5, [.int rf, .ref (b 1), .int (nI zs), .ref (b 2), .ref (b 3), .ref (b 4), .ref (b 5), .int ac, .ref (b 6), .ref (b 7), .int (nI s0), .int ou]))], [(b 1, .inl (cy 0, 120, .inl tx))]]) H → va_D A (wj [[(b 0, .inr (5, [.int rf, .ref (b 1), .int (nI zs), .ref (b 2), .ref (b 3), .ref (b 4), .ref (b 5), .int ac, .ref (b 6), .ref (b 7), .int (nI s0), .int ou]))], [(b 1, .inl (cy 0, 120, .inl tx))]]) → va_S A s.heap H locs → W p l e rm_X8_figures s m args below meth c H locs 0 0 Q (F0 m 0 ls []) from key s.heap [] hP hD va_S.rf
  intro H locs hP hD hS
  refine lv_iconst (v := 0) hx hb dX8_figures_0 (by decide) ?_
  refine lv_istore (lv' := [(5, .int 0), (0, .ref (b 0)), (1, .int ah), (2, .int 2), (3, .int 0), (4, .int 16)]) hx hb dX8_figures_1 hl (by decide) rfl (fun ls hl => ?_)
  refine lv_iload_n hx hb dX8_figures_3 rfl (lv_at hl 3 rfl) ?_
  refine lv_iconst (v := 2) hx hb dX8_figures_4 (by decide) ?_
  refine lv_icmp_ne (tgt := 13) hx hb dX8_figures_5 (by decide) (fun c_1 => ?_) (fun c_1 => ?_)
  · exact absurd c_1 (by decide)
  · refine lv_bipush (v := 10) hx hb dX8_figures_8 (by decide) ?_
    refine lv_goto (tgt := 14) hx hb dX8_figures_10 (by decide) ?_
    refine lv_istore (lv' := [(6, .int 10), (5, .int 0), (0, .ref (b 0)), (1, .int ah), (2, .int 2), (3, .int 0), (4, .int 16)]) hx hb dX8_figures_14 hl (by decide) rfl (fun ls hl => ?_)
    refine lv_iload hx hb dX8_figures_16 (lv_at hl 0 rfl) ?_
    refine lv_if_le (tgt := 122) hx hb dX8_figures_18 (by decide) (fun c_2 => ?_) (fun c_2 => ?_)
    · exact absurd c_2 (by decide)
    · refine lv_iload_n hx hb dX8_figures_21 rfl (lv_at hl 3 rfl) ?_
      refine lv_iconst (v := (-1)) hx hb dX8_figures_22 (by decide) ?_
      refine lv_icmp_eq (tgt := 122) hx hb dX8_figures_23 (by decide) (fun c_3 => ?_) (fun c_3 => ?_)
      · have c_3 : ah = ((-1)) := c_3
        refine lv_iload_n hx hb dX8_figures_122 rfl (lv_at hl 3 rfl) ?_
        refine lv_iconst (v := (-1)) hx hb dX8_figures_123 (by decide) ?_
        refine lv_icmp_ne (tgt := 131) hx hb dX8_figures_124 (by decide) (fun c_4 => ?_) (fun c_4 => ?_)
        · have c_4 : ¬ ah = ((-1)) := c_4
          exact absurd c_3 c_4
        · have c_4 : ah = ((-1)) := c_4
          refine lv_iconst (v := (-1)) hx hb dX8_figures_127 (by decide) ?_
          refine lv_goto (tgt := 133) hx hb dX8_figures_128 (by decide) ?_
          exact hret _ _ H locs _ s0 dX8_figures_133 hP hD hS (figQ_ah c_3)
      · have c_3 : ¬ ah = ((-1)) := c_3
        refine lv_aload_n hx hb dX8_figures_26 rfl (lv_at hl 2 rfl) ?_
        refine va_get (ci := 5) (v := .int (nI s0)) (C := RX8) (T := TX8) (N := 12) hx hb hts hin_X8 hown hK hP 0 rfl rfl 10 (by decide) (hts (.fieldLink RX8 112 "ButtonGuestsModel" "spot" "I") (by decide +kernel)) (fun _ h9 => h9) rfl dX8_figures_27 ?_
        refine lv_aload_n hx hb dX8_figures_30 rfl (lv_at hl 2 rfl) ?_
        refine va_get (ci := 5) (v := .int (nI zs)) (C := RX8) (T := TX8) (N := 12) hx hb hts hin_X8 hown hK hP 0 rfl rfl 2 (by decide) (hts (.fieldLink RX8 105 "ButtonGuestsModel" "size" "I") (by decide +kernel)) (fun _ h9 => h9) rfl dX8_figures_31 ?_
        refine lv_icmp_ge (tgt := 52) hx hb dX8_figures_34 (by decide) (fun c_5 => ?_) (fun c_5 => ?_)
        · have c_5 : zs ≤ s0 := (nI_leI (a := zs) (b := s0) (by omega) (by omega)).mp c_5
          refine lv_iconst (v := (-1)) hx hb dX8_figures_52 (by decide) ?_
          refine lv_istore (lv' := [(7, .int ((-1))), (6, .int 10), (5, .int 0), (0, .ref (b 0)), (1, .int ah), (2, .int 2), (3, .int 0), (4, .int 16)]) hx hb dX8_figures_53 hl (by decide) rfl (fun ls hl => ?_)
          refine lv_iload hx hb dX8_figures_55 (lv_at hl 2 rfl) ?_
          refine lv_iload hx hb dX8_figures_57 (lv_at hl 0 rfl) ?_
          refine lv_iload hx hb dX8_figures_59 (lv_at hl 1 rfl) ?_
          refine lv_imul hx hb dX8_figures_61 ?_
          refine lv_iadd hx hb dX8_figures_62 ?_
          refine lv_istore (lv' := [(8, .int (0 + (((-1)) * 10))), (7, .int ((-1))), (6, .int 10), (5, .int 0), (0, .ref (b 0)), (1, .int ah), (2, .int 2), (3, .int 0), (4, .int 16)]) hx hb dX8_figures_63 hl (by decide) rfl (fun ls hl => ?_)
          refine lv_iload hx hb dX8_figures_65 (lv_at hl 1 rfl) ?_
          refine lv_i2l (v := Int32.toInt64 ((-1))) hx hb dX8_figures_67 rfl ?_
          refine lv_lconst (v := 0) hx hb dX8_figures_68 (by decide) ?_
          refine lv_ldc2 (v := 9) hx hb hown (hts (.constantLong RX8 50 (9)) (by decide +kernel)) dX8_figures_69 ?_
          refine rd_S (As := [.long (Int32.toInt64 ((-1))), .long 0, .long 9]) (rest := []) hF (c_X8_in l D cy (Int32.toInt64 ((-1))) 0 9) (va_cwS 3 hts gX8_figures_X8_in rfl rfl rfl (by decide +kernel) ⟨Nat.le_of_ble_eq_true rfl, Nat.le_of_ble_eq_true rfl⟩) hK (fun k q h => by simp at h) rfl hl.1 rfl (Nat.le_of_ble_eq_true rfl) dX8_figures_72 ⟨Nat.le_of_ble_eq_true rfl, Nat.le_of_ble_eq_true rfl⟩ ?_
          refine lv_if_eq (tgt := 96) hx hb dX8_figures_75 (by decide) (fun c_6 => ?_) (fun c_6 => ?_)
          · have c_6 := zb_eq.mp c_6
            refine lv_iconst (v := (-1)) hx hb dX8_figures_96 (by decide) ?_
            exact hret _ _ H locs _ s0 dX8_figures_97 hP hD hS (figQ_m1 (dig_end (by omega) (by have := ht.1; omega)))
          · have c_6 := zb_ne.mp c_6
            exact absurd c_6 (by decide)
        · have c_5 : ¬ zs ≤ s0 := fun q => c_5 ((nI_leI (a := zs) (b := s0) (by omega) (by omega)).mpr q)
          refine lv_aload_n hx hb dX8_figures_37 rfl (lv_at hl 2 rfl) ?_
          refine va_get (ci := 5) (v := .ref (b 1)) (C := RX8) (T := TX8) (N := 12) hx hb hts hin_X8 hown hK hP 0 rfl rfl 1 (by decide) (hts (.fieldLink RX8 7 "ButtonGuestsModel" "text" "[I") (by decide +kernel)) (fun _ h9 => h9) rfl dX8_figures_38 ?_
          refine lv_aload_n hx hb dX8_figures_41 rfl (lv_at hl 2 rfl) ?_
          refine va_get (ci := 5) (v := .int (nI s0)) (C := RX8) (T := TX8) (N := 12) hx hb hts hin_X8 hown hK hP 0 rfl rfl 10 (by decide) (hts (.fieldLink RX8 112 "ButtonGuestsModel" "spot" "I") (by decide +kernel)) (fun _ h9 => h9) rfl dX8_figures_42 ?_
          refine zz_iald hx hb hK hP 1 0 s0 rfl rfl rfl ⟨by omega, Nat.le_of_ble_eq_true rfl⟩ dX8_figures_45 ?_
          refine lv_bipush (v := 48) hx hb dX8_figures_46 (by decide) ?_
          refine lv_isub hx hb dX8_figures_48 ?_
          refine lv_goto (tgt := 53) hx hb dX8_figures_49 (by decide) ?_
          refine lv_istore (lv' := [(7, .int ((tx s0) - 48)), (6, .int 10), (5, .int 0), (0, .ref (b 0)), (1, .int ah), (2, .int 2), (3, .int 0), (4, .int 16)]) hx hb dX8_figures_53 hl (by decide) rfl (fun ls hl => ?_)
          refine lv_iload hx hb dX8_figures_55 (lv_at hl 2 rfl) ?_
          refine lv_iload hx hb dX8_figures_57 (lv_at hl 0 rfl) ?_
          refine lv_iload hx hb dX8_figures_59 (lv_at hl 1 rfl) ?_
          refine lv_imul hx hb dX8_figures_61 ?_
          refine lv_iadd hx hb dX8_figures_62 ?_
          refine lv_istore (lv' := [(8, .int (0 + (((tx s0) - 48) * 10))), (7, .int ((tx s0) - 48)), (6, .int 10), (5, .int 0), (0, .ref (b 0)), (1, .int ah), (2, .int 2), (3, .int 0), (4, .int 16)]) hx hb dX8_figures_63 hl (by decide) rfl (fun ls hl => ?_)
          refine lv_iload hx hb dX8_figures_65 (lv_at hl 1 rfl) ?_
          refine lv_i2l (v := Int32.toInt64 ((tx s0) - 48)) hx hb dX8_figures_67 rfl ?_
          refine lv_lconst (v := 0) hx hb dX8_figures_68 (by decide) ?_
          refine lv_ldc2 (v := 9) hx hb hown (hts (.constantLong RX8 50 (9)) (by decide +kernel)) dX8_figures_69 ?_
          refine rd_S (As := [.long (Int32.toInt64 ((tx s0) - 48)), .long 0, .long 9]) (rest := []) hF (c_X8_in l D cy (Int32.toInt64 ((tx s0) - 48)) 0 9) (va_cwS 3 hts gX8_figures_X8_in rfl rfl rfl (by decide +kernel) ⟨Nat.le_of_ble_eq_true rfl, Nat.le_of_ble_eq_true rfl⟩) hK (fun k q h => by simp at h) rfl hl.1 rfl (Nat.le_of_ble_eq_true rfl) dX8_figures_72 ⟨Nat.le_of_ble_eq_true rfl, Nat.le_of_ble_eq_true rfl⟩ ?_
          refine lv_if_eq (tgt := 96) hx hb dX8_figures_75 (by decide) (fun c_7 => ?_) (fun c_7 => ?_)
          · have c_7 := zb_eq.mp c_7
            refine lv_iconst (v := (-1)) hx hb dX8_figures_96 (by decide) ?_
            exact hret _ _ H locs _ s0 dX8_figures_97 hP hD hS (figQ_m1 (dig_no ht (by omega) c_7))
          · have c_7 := zb_ne.mp c_7
            obtain ⟨a1, ha1, ea1⟩ := inL_nat (c := 9) (k := 9) (by decide) rfl c_7
            have ed1 := dig_of ht (show s0 < zs by omega) ha1 ea1
            refine lv_iload hx hb dX8_figures_78 (lv_at hl 0 rfl) ?_
            refine zz_top (y := nI (a1 * 10)) (by rw [ea1]; show nI 0 + nI a1 * nI 10 = _; rw [pk_mul, nI_add, Nat.zero_add]) ?_
            refine lv_iload hx hb dX8_figures_80 (lv_at hl 8 rfl) ?_
            refine lv_icmp_gt (tgt := 96) hx hb dX8_figures_82 (by decide) (fun c_8 => ?_) (fun c_8 => ?_)
            · have c_8 : 16 < a1 * 10 := (nI_ltI (a := 16) (b := a1 * 10) (by omega) (by omega)).mp c_8
              refine lv_iconst (v := (-1)) hx hb dX8_figures_96 (by decide) ?_
              exact hret _ _ H locs _ s0 dX8_figures_97 hP hD hS (figQ_no ha1 ed1 c_8)
            · have c_8 : ¬ 16 < a1 * 10 := fun q => c_8 ((nI_ltI (a := 16) (b := a1 * 10) (by omega) (by omega)).mpr q)
              refine lv_iload hx hb dX8_figures_85 (lv_at hl 0 rfl) ?_
              refine zz_top (y := nI (a1 * 10)) (by rw [ea1]; show nI 0 + nI a1 * nI 10 = _; rw [pk_mul, nI_add, Nat.zero_add]) ?_
              refine lv_iload hx hb dX8_figures_87 (lv_at hl 2 rfl) ?_
              refine lv_iadd hx hb dX8_figures_89 ?_
              refine zz_top (y := nI ((a1 * 10) + 10)) (nI_add _ _) ?_
              refine lv_iconst (v := 1) hx hb dX8_figures_90 (by decide) ?_
              refine lv_isub hx hb dX8_figures_91 ?_
              refine zz_top (y := nI (a1 * 10 + 10 - 1)) (pk_sub (a := a1 * 10 + 10) (b := 1) (by omega)) ?_
              refine lv_iload_n hx hb dX8_figures_92 rfl (lv_at hl 7 rfl) ?_
              refine lv_icmp_ge (tgt := 98) hx hb dX8_figures_93 (by decide) (fun c_9 => ?_) (fun c_9 => ?_)
              · have c_9 : 0 ≤ a1 * 10 + 10 - 1 := (nI_leI (a := 0) (b := a1 * 10 + 10 - 1) (by omega) (by omega)).mp c_9
                refine lv_iload hx hb dX8_figures_98 (lv_at hl 0 rfl) ?_
                refine zz_top (y := nI (a1 * 10)) (by rw [ea1]; show nI 0 + nI a1 * nI 10 = _; rw [pk_mul, nI_add, Nat.zero_add]) ?_
                refine lv_istore (lv' := [(5, .int (nI (a1 * 10))), (8, .int (0 + (((tx s0) - 48) * 10))), (7, .int ((tx s0) - 48)), (6, .int 10), (0, .ref (b 0)), (1, .int ah), (2, .int 2), (3, .int 0), (4, .int 16)]) hx hb dX8_figures_100 hl (by decide) rfl (fun ls hl => ?_)
                refine lv_aload_n hx hb dX8_figures_102 rfl (lv_at hl 4 rfl) ?_
                refine lv_dup hx hb dX8_figures_103 rfl ?_
                refine va_get (ci := 5) (v := .int (nI s0)) (C := RX8) (T := TX8) (N := 12) hx hb hts hin_X8 hown hK hP 0 rfl rfl 10 (by decide) (hts (.fieldLink RX8 112 "ButtonGuestsModel" "spot" "I") (by decide +kernel)) (fun _ h9 => h9) rfl dX8_figures_104 ?_
                refine lv_iconst (v := 1) hx hb dX8_figures_107 (by decide) ?_
                refine lv_iadd hx hb dX8_figures_108 ?_
                refine zz_top (y := nI (s0 + 1)) (nI_add _ _) ?_
                refine va_put (ci := 5) (v := .int (nI (s0 + 1))) (ty := .int) (C := RX8) (T := TX8) (N := 12) hx hb hts hin_X8 tyX8 tyX8_ok nmX8 hown hK hP hD hS 0 rfl rfl 10 (by decide) (hts (.fieldLink RX8 112 "ButtonGuestsModel" "spot" "I") (by decide +kernel)) (fun _ h9 => h9) rfl (by decide +kernel) rfl rfl (Nat.le_of_ble_eq_true rfl) dX8_figures_109 (fun H locs hP hD hS => ?_)
                have hP : va_P D vwCl (wj [[(b 0, .inr (5, [.int rf, .ref (b 1), .int (nI zs), .ref (b 2), .ref (b 3), .ref (b 4), .ref (b 5), .int ac, .ref (b 6), .ref (b 7), .int (nI (s0 + 1)), .int ou]))], [(b 1, .inl (cy 0, 120, .inl tx))]]) H := hP
                have hD : va_D A (wj [[(b 0, .inr (5, [.int rf, .ref (b 1), .int (nI zs), .ref (b 2), .ref (b 3), .ref (b 4), .ref (b 5), .int ac, .ref (b 6), .ref (b 7), .int (nI (s0 + 1)), .int ou]))], [(b 1, .inl (cy 0, 120, .inl tx))]]) := hD
                refine lv_iload hx hb dX8_figures_112 (lv_at hl 3 rfl) ?_
                refine lv_bipush (v := 10) hx hb dX8_figures_114 (by decide) ?_
                refine lv_idiv hx hb dX8_figures_116 (by decide) ?_
                refine zz_top (y := 1) rfl ?_
                refine zz_top (y := 1) rfl ?_
                refine lv_istore (lv' := [(6, .int 1), (5, .int (nI (a1 * 10))), (8, .int (0 + (((tx s0) - 48) * 10))), (7, .int ((tx s0) - 48)), (0, .ref (b 0)), (1, .int ah), (2, .int 2), (3, .int 0), (4, .int 16)]) hx hb dX8_figures_117 hl (by decide) rfl (fun ls hl => ?_)
                refine lv_goto (tgt := 16) hx hb dX8_figures_119 (by decide) ?_
                refine lv_iload hx hb dX8_figures_16 (lv_at hl 0 rfl) ?_
                refine lv_if_le (tgt := 122) hx hb dX8_figures_18 (by decide) (fun c_10 => ?_) (fun c_10 => ?_)
                · exact absurd c_10 (by decide)
                · refine lv_iload_n hx hb dX8_figures_21 rfl (lv_at hl 5 rfl) ?_
                  refine lv_iconst (v := (-1)) hx hb dX8_figures_22 (by decide) ?_
                  refine lv_icmp_eq (tgt := 122) hx hb dX8_figures_23 (by decide) (fun c_11 => ?_) (fun c_11 => ?_)
                  · have c_11 : ah = ((-1)) := c_11
                    exact absurd c_11 c_3
                  · have c_11 : ¬ ah = ((-1)) := c_11
                    refine lv_aload_n hx hb dX8_figures_26 rfl (lv_at hl 4 rfl) ?_
                    refine va_get (ci := 5) (v := .int (nI (s0 + 1))) (C := RX8) (T := TX8) (N := 12) hx hb hts hin_X8 hown hK hP 0 rfl rfl 10 (by decide) (hts (.fieldLink RX8 112 "ButtonGuestsModel" "spot" "I") (by decide +kernel)) (fun _ h9 => h9) rfl dX8_figures_27 ?_
                    refine lv_aload_n hx hb dX8_figures_30 rfl (lv_at hl 4 rfl) ?_
                    refine va_get (ci := 5) (v := .int (nI zs)) (C := RX8) (T := TX8) (N := 12) hx hb hts hin_X8 hown hK hP 0 rfl rfl 2 (by decide) (hts (.fieldLink RX8 105 "ButtonGuestsModel" "size" "I") (by decide +kernel)) (fun _ h9 => h9) rfl dX8_figures_31 ?_
                    refine lv_icmp_ge (tgt := 52) hx hb dX8_figures_34 (by decide) (fun c_12 => ?_) (fun c_12 => ?_)
                    · have c_12 : zs ≤ s0 + 1 := (nI_leI (a := zs) (b := s0 + 1) (by omega) (by omega)).mp c_12
                      refine lv_iconst (v := (-1)) hx hb dX8_figures_52 (by decide) ?_
                      refine lv_istore (lv' := [(7, .int ((-1))), (6, .int 1), (5, .int (nI (a1 * 10))), (8, .int (0 + (((tx s0) - 48) * 10))), (0, .ref (b 0)), (1, .int ah), (2, .int 2), (3, .int 0), (4, .int 16)]) hx hb dX8_figures_53 hl (by decide) rfl (fun ls hl => ?_)
                      refine lv_iload hx hb dX8_figures_55 (lv_at hl 2 rfl) ?_
                      refine lv_iload hx hb dX8_figures_57 (lv_at hl 0 rfl) ?_
                      refine lv_iload hx hb dX8_figures_59 (lv_at hl 1 rfl) ?_
                      refine lv_imul hx hb dX8_figures_61 ?_
                      refine lv_iadd hx hb dX8_figures_62 ?_
                      refine lv_istore (lv' := [(8, .int ((nI (a1 * 10)) + (((-1)) * 1))), (7, .int ((-1))), (6, .int 1), (5, .int (nI (a1 * 10))), (0, .ref (b 0)), (1, .int ah), (2, .int 2), (3, .int 0), (4, .int 16)]) hx hb dX8_figures_63 hl (by decide) rfl (fun ls hl => ?_)
                      refine lv_iload hx hb dX8_figures_65 (lv_at hl 1 rfl) ?_
                      refine lv_i2l (v := Int32.toInt64 ((-1))) hx hb dX8_figures_67 rfl ?_
                      refine lv_lconst (v := 0) hx hb dX8_figures_68 (by decide) ?_
                      refine lv_ldc2 (v := 9) hx hb hown (hts (.constantLong RX8 50 (9)) (by decide +kernel)) dX8_figures_69 ?_
                      refine rd_S (As := [.long (Int32.toInt64 ((-1))), .long 0, .long 9]) (rest := []) hF (c_X8_in l D cy (Int32.toInt64 ((-1))) 0 9) (va_cwS 3 hts gX8_figures_X8_in rfl rfl rfl (by decide +kernel) ⟨Nat.le_of_ble_eq_true rfl, Nat.le_of_ble_eq_true rfl⟩) hK (fun k q h => by simp at h) rfl hl.1 rfl (Nat.le_of_ble_eq_true rfl) dX8_figures_72 ⟨Nat.le_of_ble_eq_true rfl, Nat.le_of_ble_eq_true rfl⟩ ?_
                      refine lv_if_eq (tgt := 96) hx hb dX8_figures_75 (by decide) (fun c_13 => ?_) (fun c_13 => ?_)
                      · have c_13 := zb_eq.mp c_13
                        refine lv_iconst (v := (-1)) hx hb dX8_figures_96 (by decide) ?_
                        exact hret _ _ H locs _ (s0 + 1) dX8_figures_97 hP hD hS (figQ_m2 c_11 ha1 ed1 c_8 (dig_end (by omega) (by have := ht.1; omega)))
                      · have c_13 := zb_ne.mp c_13
                        exact absurd c_13 (by decide)
                    · have c_12 : ¬ zs ≤ s0 + 1 := fun q => c_12 ((nI_leI (a := zs) (b := s0 + 1) (by omega) (by omega)).mpr q)
                      refine lv_aload_n hx hb dX8_figures_37 rfl (lv_at hl 4 rfl) ?_
                      refine va_get (ci := 5) (v := .ref (b 1)) (C := RX8) (T := TX8) (N := 12) hx hb hts hin_X8 hown hK hP 0 rfl rfl 1 (by decide) (hts (.fieldLink RX8 7 "ButtonGuestsModel" "text" "[I") (by decide +kernel)) (fun _ h9 => h9) rfl dX8_figures_38 ?_
                      refine lv_aload_n hx hb dX8_figures_41 rfl (lv_at hl 4 rfl) ?_
                      refine va_get (ci := 5) (v := .int (nI (s0 + 1))) (C := RX8) (T := TX8) (N := 12) hx hb hts hin_X8 hown hK hP 0 rfl rfl 10 (by decide) (hts (.fieldLink RX8 112 "ButtonGuestsModel" "spot" "I") (by decide +kernel)) (fun _ h9 => h9) rfl dX8_figures_42 ?_
                      refine zz_iald hx hb hK hP 1 0 (s0 + 1) rfl rfl rfl ⟨by omega, Nat.le_of_ble_eq_true rfl⟩ dX8_figures_45 ?_
                      refine lv_bipush (v := 48) hx hb dX8_figures_46 (by decide) ?_
                      refine lv_isub hx hb dX8_figures_48 ?_
                      refine lv_goto (tgt := 53) hx hb dX8_figures_49 (by decide) ?_
                      refine lv_istore (lv' := [(7, .int ((tx (s0 + 1)) - 48)), (6, .int 1), (5, .int (nI (a1 * 10))), (8, .int (0 + (((tx s0) - 48) * 10))), (0, .ref (b 0)), (1, .int ah), (2, .int 2), (3, .int 0), (4, .int 16)]) hx hb dX8_figures_53 hl (by decide) rfl (fun ls hl => ?_)
                      refine lv_iload hx hb dX8_figures_55 (lv_at hl 2 rfl) ?_
                      refine lv_iload hx hb dX8_figures_57 (lv_at hl 0 rfl) ?_
                      refine lv_iload hx hb dX8_figures_59 (lv_at hl 1 rfl) ?_
                      refine lv_imul hx hb dX8_figures_61 ?_
                      refine lv_iadd hx hb dX8_figures_62 ?_
                      refine lv_istore (lv' := [(8, .int ((nI (a1 * 10)) + (((tx (s0 + 1)) - 48) * 1))), (7, .int ((tx (s0 + 1)) - 48)), (6, .int 1), (5, .int (nI (a1 * 10))), (0, .ref (b 0)), (1, .int ah), (2, .int 2), (3, .int 0), (4, .int 16)]) hx hb dX8_figures_63 hl (by decide) rfl (fun ls hl => ?_)
                      refine lv_iload hx hb dX8_figures_65 (lv_at hl 1 rfl) ?_
                      refine lv_i2l (v := Int32.toInt64 ((tx (s0 + 1)) - 48)) hx hb dX8_figures_67 rfl ?_
                      refine lv_lconst (v := 0) hx hb dX8_figures_68 (by decide) ?_
                      refine lv_ldc2 (v := 9) hx hb hown (hts (.constantLong RX8 50 (9)) (by decide +kernel)) dX8_figures_69 ?_
                      refine rd_S (As := [.long (Int32.toInt64 ((tx (s0 + 1)) - 48)), .long 0, .long 9]) (rest := []) hF (c_X8_in l D cy (Int32.toInt64 ((tx (s0 + 1)) - 48)) 0 9) (va_cwS 3 hts gX8_figures_X8_in rfl rfl rfl (by decide +kernel) ⟨Nat.le_of_ble_eq_true rfl, Nat.le_of_ble_eq_true rfl⟩) hK (fun k q h => by simp at h) rfl hl.1 rfl (Nat.le_of_ble_eq_true rfl) dX8_figures_72 ⟨Nat.le_of_ble_eq_true rfl, Nat.le_of_ble_eq_true rfl⟩ ?_
                      refine lv_if_eq (tgt := 96) hx hb dX8_figures_75 (by decide) (fun c_14 => ?_) (fun c_14 => ?_)
                      · have c_14 := zb_eq.mp c_14
                        refine lv_iconst (v := (-1)) hx hb dX8_figures_96 (by decide) ?_
                        exact hret _ _ H locs _ (s0 + 1) dX8_figures_97 hP hD hS (figQ_m2 c_11 ha1 ed1 c_8 (dig_no ht (by omega) c_14))
                      · have c_14 := zb_ne.mp c_14
                        obtain ⟨a2, ha2, ea2⟩ := inL_nat (c := 9) (k := 9) (by decide) rfl c_14
                        have ed2 := dig_of ht (show s0 + 1 < zs by omega) ha2 ea2
                        refine lv_iload hx hb dX8_figures_78 (lv_at hl 0 rfl) ?_
                        refine zz_top (y := nI (a1 * 10 + a2)) (by rw [ea2]; show nI (a1 * 10) + nI a2 * nI 1 = _; rw [pk_mul, nI_add, Nat.mul_one]) ?_
                        refine lv_iload hx hb dX8_figures_80 (lv_at hl 8 rfl) ?_
                        refine lv_icmp_gt (tgt := 96) hx hb dX8_figures_82 (by decide) (fun c_15 => ?_) (fun c_15 => ?_)
                        · have c_15 : 16 < a1 * 10 + a2 := (nI_ltI (a := 16) (b := a1 * 10 + a2) (by omega) (by omega)).mp c_15
                          refine lv_iconst (v := (-1)) hx hb dX8_figures_96 (by decide) ?_
                          exact hret _ _ H locs _ (s0 + 1) dX8_figures_97 hP hD hS (figQ_n2 c_11 ha1 ed1 c_8 ha2 ed2 c_15)
                        · have c_15 : ¬ 16 < a1 * 10 + a2 := fun q => c_15 ((nI_ltI (a := 16) (b := a1 * 10 + a2) (by omega) (by omega)).mpr q)
                          refine lv_iload hx hb dX8_figures_85 (lv_at hl 0 rfl) ?_
                          refine zz_top (y := nI (a1 * 10 + a2)) (by rw [ea2]; show nI (a1 * 10) + nI a2 * nI 1 = _; rw [pk_mul, nI_add, Nat.mul_one]) ?_
                          refine lv_iload hx hb dX8_figures_87 (lv_at hl 2 rfl) ?_
                          refine lv_iadd hx hb dX8_figures_89 ?_
                          refine zz_top (y := nI ((a1 * 10 + a2) + 1)) (nI_add _ _) ?_
                          refine lv_iconst (v := 1) hx hb dX8_figures_90 (by decide) ?_
                          refine lv_isub hx hb dX8_figures_91 ?_
                          refine zz_top (y := nI (a1 * 10 + a2)) (pk_sub (a := a1 * 10 + a2 + 1) (b := 1) (by omega)) ?_
                          refine lv_iload_n hx hb dX8_figures_92 rfl (lv_at hl 7 rfl) ?_
                          refine lv_icmp_ge (tgt := 98) hx hb dX8_figures_93 (by decide) (fun c_16 => ?_) (fun c_16 => ?_)
                          · have c_16 : 0 ≤ a1 * 10 + a2 := (nI_leI (a := 0) (b := a1 * 10 + a2) (by omega) (by omega)).mp c_16
                            refine lv_iload hx hb dX8_figures_98 (lv_at hl 0 rfl) ?_
                            refine zz_top (y := nI (a1 * 10 + a2)) (by rw [ea2]; show nI (a1 * 10) + nI a2 * nI 1 = _; rw [pk_mul, nI_add, Nat.mul_one]) ?_
                            refine lv_istore (lv' := [(5, .int (nI (a1 * 10 + a2))), (8, .int ((nI (a1 * 10)) + (((tx (s0 + 1)) - 48) * 1))), (7, .int ((tx (s0 + 1)) - 48)), (6, .int 1), (0, .ref (b 0)), (1, .int ah), (2, .int 2), (3, .int 0), (4, .int 16)]) hx hb dX8_figures_100 hl (by decide) rfl (fun ls hl => ?_)
                            refine lv_aload_n hx hb dX8_figures_102 rfl (lv_at hl 4 rfl) ?_
                            refine lv_dup hx hb dX8_figures_103 rfl ?_
                            refine va_get (ci := 5) (v := .int (nI (s0 + 1))) (C := RX8) (T := TX8) (N := 12) hx hb hts hin_X8 hown hK hP 0 rfl rfl 10 (by decide) (hts (.fieldLink RX8 112 "ButtonGuestsModel" "spot" "I") (by decide +kernel)) (fun _ h9 => h9) rfl dX8_figures_104 ?_
                            refine lv_iconst (v := 1) hx hb dX8_figures_107 (by decide) ?_
                            refine lv_iadd hx hb dX8_figures_108 ?_
                            refine zz_top (y := nI ((s0 + 1) + 1)) (nI_add _ _) ?_
                            refine va_put (ci := 5) (v := .int (nI ((s0 + 1) + 1))) (ty := .int) (C := RX8) (T := TX8) (N := 12) hx hb hts hin_X8 tyX8 tyX8_ok nmX8 hown hK hP hD hS 0 rfl rfl 10 (by decide) (hts (.fieldLink RX8 112 "ButtonGuestsModel" "spot" "I") (by decide +kernel)) (fun _ h9 => h9) rfl (by decide +kernel) rfl rfl (Nat.le_of_ble_eq_true rfl) dX8_figures_109 (fun H locs hP hD hS => ?_)
                            have hP : va_P D vwCl (wj [[(b 0, .inr (5, [.int rf, .ref (b 1), .int (nI zs), .ref (b 2), .ref (b 3), .ref (b 4), .ref (b 5), .int ac, .ref (b 6), .ref (b 7), .int (nI ((s0 + 1) + 1)), .int ou]))], [(b 1, .inl (cy 0, 120, .inl tx))]]) H := hP
                            have hD : va_D A (wj [[(b 0, .inr (5, [.int rf, .ref (b 1), .int (nI zs), .ref (b 2), .ref (b 3), .ref (b 4), .ref (b 5), .int ac, .ref (b 6), .ref (b 7), .int (nI ((s0 + 1) + 1)), .int ou]))], [(b 1, .inl (cy 0, 120, .inl tx))]]) := hD
                            refine lv_iload hx hb dX8_figures_112 (lv_at hl 3 rfl) ?_
                            refine lv_bipush (v := 10) hx hb dX8_figures_114 (by decide) ?_
                            refine lv_idiv hx hb dX8_figures_116 (by decide) ?_
                            refine zz_top (y := 0) rfl ?_
                            refine zz_top (y := 0) rfl ?_
                            refine lv_istore (lv' := [(6, .int 0), (5, .int (nI (a1 * 10 + a2))), (8, .int ((nI (a1 * 10)) + (((tx (s0 + 1)) - 48) * 1))), (7, .int ((tx (s0 + 1)) - 48)), (0, .ref (b 0)), (1, .int ah), (2, .int 2), (3, .int 0), (4, .int 16)]) hx hb dX8_figures_117 hl (by decide) rfl (fun ls hl => ?_)
                            refine lv_goto (tgt := 16) hx hb dX8_figures_119 (by decide) ?_
                            refine lv_iload hx hb dX8_figures_16 (lv_at hl 0 rfl) ?_
                            refine lv_if_le (tgt := 122) hx hb dX8_figures_18 (by decide) (fun c_17 => ?_) (fun c_17 => ?_)
                            · refine lv_iload_n hx hb dX8_figures_122 rfl (lv_at hl 5 rfl) ?_
                              refine lv_iconst (v := (-1)) hx hb dX8_figures_123 (by decide) ?_
                              refine lv_icmp_ne (tgt := 131) hx hb dX8_figures_124 (by decide) (fun c_18 => ?_) (fun c_18 => ?_)
                              · have c_18 : ¬ ah = ((-1)) := c_18
                                refine lv_iload hx hb dX8_figures_131 (lv_at hl 1 rfl) ?_
                                exact hret _ _ H locs _ (s0 + 2) dX8_figures_133 hP hD hS (figQ_ok c_11 ha1 ed1 c_8 ha2 ed2 c_15)
                              · have c_18 : ah = ((-1)) := c_18
                                exact absurd c_18 c_11
                            · exact absurd c_17 (by decide)
                          · have c_16 : ¬ 0 ≤ a1 * 10 + a2 := fun q => c_16 ((nI_leI (a := 0) (b := a1 * 10 + a2) (by omega) (by omega)).mpr q)
                            exact absurd (Nat.zero_le _) c_16
              · have c_9 : ¬ 0 ≤ a1 * 10 + 10 - 1 := fun q => c_9 ((nI_leI (a := 0) (b := a1 * 10 + 10 - 1) (by omega) (by omega)).mpr q)
                exact absurd (Nat.zero_le _) c_9
abbrev rm_X8_done : Room := { frames := 0, cells := 0, slots := 0, locals := 0 }
set_option maxHeartbeats 4000000 in
set_option maxRecDepth 100000 in
theorem c_X8_done (l : Launch) (D : va_G) (cy : Nat → ClassId) (b : Nat → Nat) (rf sn ac sp ou v : Int32) (sz : Nat) : Met l yX8_done wsX8_done rm_X8_done (wrP D cy [.ref (b 0), .int v] ([(b 0, .inr (5, [.int rf, .ref (b 1), .int sn, .ref (b 2), .ref (b 3), .ref (b 4), .ref (b 5), .int ac, .ref (b 6), .ref (b 7), .int sp, .int ou]))]) sz) (va_Qi (fun (r : Int32) (u : Int32) => r = 1 ∧ u = if v = 0 then ou + 1 else ou) (wrB D (va_A ([(b 0, .inr (5, [.int rf, .ref (b 1), .int sn, .ref (b 2), .ref (b 3), .ref (b 4), .ref (b 5), .int ac, .ref (b 6), .ref (b 7), .int sp, .int ou]))]) sz) (fun u => [(b 0, .inr (5, [.int rf, .ref (b 1), .int sn, .ref (b 2), .ref (b 3), .ref (b 4), .ref (b 5), .int ac, .ref (b 6), .ref (b 7), .int sp, .int u]))])) (va_A ([(b 0, .inr (5, [.int rf, .ref (b 1), .int sn, .ref (b 2), .ref (b 3), .ref (b 4), .ref (b 5), .int ac, .ref (b 6), .ref (b 7), .int sp, .int ou]))]) sz)) 0 0 (va_A ([(b 0, .inr (5, [.int rf, .ref (b 1), .int sn, .ref (b 2), .ref (b 3), .ref (b 4), .ref (b 5), .int ac, .ref (b 6), .ref (b 7), .int sp, .int ou]))]) sz) := by
  refine Mwi (cc := cX8_done) (maxL := 2) (ty := .boolean) (by decide) rfl (Nat.le_of_ble_eq_true rfl) (fun _ _ q => by rw [q.1]; rfl) ?_
  intro p e s m args below meth c Q ls A hsz hF hK hP hD hA hl hret
  obtain ⟨hx, hb, hml, hown, hts⟩ := id hF
  have hown : s.vm.findClass RX8 = some m.cls := hown
  have hin_X8 : ∀ w ∈ u_ws RX8 TX8 12, w ∈ wsX8_done := by decide +kernel
  have hl : lv_has ls 2 [(0, .ref (b 0)), (1, .int v)] := hl
  suffices key : ∀ (H : Heap) (locs : List Loc), va_P D vwCl ([(b 0, .inr (5, [.int rf, .ref (b 1), .int sn, .ref (b 2), .ref (b 3), .ref (b 4), .ref (b 5), .int ac, .ref (b 6), .ref (b 7), .int sp, .int ou]))]) H → va_D A ([(b 0, .inr (5, [.int rf, .ref (b 1), .int sn, .ref (b 2), .ref (b 3), .ref (b 4), .ref (b 5), .int ac, .ref (b 6), .ref (b 7), .int sp, .int ou]))]) → va_S A s.heap H locs → W p l e rm_X8_done s m args below meth c H locs 0 0 Q (F0 m 0 ls []) from key s.heap [] hP hD va_S.rf
  intro H locs hP hD hS
  refine lv_aload_n hx hb dX8_done_0 rfl (lv_at hl 0 rfl) ?_
  refine lv_dup hx hb dX8_done_1 rfl ?_
  refine va_get (ci := 5) (v := .int ou) (C := RX8) (T := TX8) (N := 12) hx hb hts hin_X8 hown hK hP 0 rfl rfl 11 (by decide) (hts (.fieldLink RX8 115 "ButtonGuestsModel" "out" "I") (by decide +kernel)) (fun _ h9 => h9) rfl dX8_done_2 ?_
  refine lv_iload_n hx hb dX8_done_5 rfl (lv_at hl 1 rfl) ?_
  refine lv_if_eq (tgt := 13) hx hb dX8_done_6 (by decide) (fun c_1 => ?_) (fun c_1 => ?_)
  · have c_1 : v = 0 := c_1
    refine lv_iconst (v := 1) hx hb dX8_done_13 (by decide) ?_
    refine lv_iadd hx hb dX8_done_14 ?_
    refine va_put (ci := 5) (v := .int (ou + 1)) (ty := .int) (C := RX8) (T := TX8) (N := 12) hx hb hts hin_X8 tyX8 tyX8_ok nmX8 hown hK hP hD hS 0 rfl rfl 11 (by decide) (hts (.fieldLink RX8 115 "ButtonGuestsModel" "out" "I") (by decide +kernel)) (fun _ h9 => h9) rfl (by decide +kernel) rfl rfl (Nat.le_of_ble_eq_true rfl) dX8_done_15 (fun H locs hP hD hS => ?_)
    have hP : va_P D vwCl ([(b 0, .inr (5, [.int rf, .ref (b 1), .int sn, .ref (b 2), .ref (b 3), .ref (b 4), .ref (b 5), .int ac, .ref (b 6), .ref (b 7), .int sp, .int (ou + 1)]))]) H := hP
    have hD : va_D A ([(b 0, .inr (5, [.int rf, .ref (b 1), .int sn, .ref (b 2), .ref (b 3), .ref (b 4), .ref (b 5), .int ac, .ref (b 6), .ref (b 7), .int sp, .int (ou + 1)]))]) := hD
    refine lv_iconst (v := 1) hx hb dX8_done_18 (by decide) ?_
    exact hret _ _ H locs _ (ou + 1) dX8_done_19 hP hD hS ⟨rfl, by rw [if_pos c_1]⟩
  · have c_1 : ¬ v = 0 := c_1
    refine lv_iconst (v := 0) hx hb dX8_done_9 (by decide) ?_
    refine lv_goto (tgt := 14) hx hb dX8_done_10 (by decide) ?_
    refine lv_iadd hx hb dX8_done_14 ?_
    refine va_put (ci := 5) (v := .int (ou + 0)) (ty := .int) (C := RX8) (T := TX8) (N := 12) hx hb hts hin_X8 tyX8 tyX8_ok nmX8 hown hK hP hD hS 0 rfl rfl 11 (by decide) (hts (.fieldLink RX8 115 "ButtonGuestsModel" "out" "I") (by decide +kernel)) (fun _ h9 => h9) rfl (by decide +kernel) rfl rfl (Nat.le_of_ble_eq_true rfl) dX8_done_15 (fun H locs hP hD hS => ?_)
    have hP : va_P D vwCl ([(b 0, .inr (5, [.int rf, .ref (b 1), .int sn, .ref (b 2), .ref (b 3), .ref (b 4), .ref (b 5), .int ac, .ref (b 6), .ref (b 7), .int sp, .int (ou + 0)]))]) H := hP
    have hD : va_D A ([(b 0, .inr (5, [.int rf, .ref (b 1), .int sn, .ref (b 2), .ref (b 3), .ref (b 4), .ref (b 5), .int ac, .ref (b 6), .ref (b 7), .int sp, .int (ou + 0)]))]) := hD
    refine lv_iconst (v := 1) hx hb dX8_done_18 (by decide) ?_
    exact hret _ _ H locs _ (ou + 0) dX8_done_19 hP hD hS ⟨rfl, by rw [if_neg c_1]; exact Int32.add_zero _⟩
abbrev rm_X8_readGuest : Room := { frames := 2, cells := 0, slots := 0, locals := 53 }
set_option maxHeartbeats 4000000 in
set_option maxRecDepth 100000 in
theorem c_X8_readGuest (l : Launch) (D : va_G) (cy : Nat → ClassId) (b : Nat → Nat) (rf ac ou : Int32) (tx : Nat → Int32) (zs s0 : Nat) (ht : okT zs tx) (n : Nat) (hn : n ≤ 4) (x w : HS) (hR : RelN n x w) (hs : s0 < zs) (hg : vSign zs tx (nI s0) = 103) (sz : Nat) : Met l yX8_readGuest wsX8_readGuest rm_X8_readGuest (wrP D cy [.ref (b 0), .ref (b 3)] (wj [[(b 0, .inr (5, [.int rf, .ref (b 1), .int (nI zs), .ref (b 2), .ref (b 3), .ref (b 4), .ref (b 5), .int ac, .ref (b 6), .ref (b 7), .int (nI (s0 + 1)), .int ou]))], [(b 1, .inl (cy 0, 120, .inl tx))], mW cy (b 3) w]) sz) (va_Qi (fun (r : Int32) (u : Nat × Int32 × HS) => RcP zs tx s0 x ou r u) (wrB D (va_A (wj [[(b 0, .inr (5, [.int rf, .ref (b 1), .int (nI zs), .ref (b 2), .ref (b 3), .ref (b 4), .ref (b 5), .int ac, .ref (b 6), .ref (b 7), .int (nI (s0 + 1)), .int ou]))], [(b 1, .inl (cy 0, 120, .inl tx))], mW cy (b 3) w]) sz) (fun u => wj [[(b 0, .inr (5, [.int rf, .ref (b 1), .int (nI zs), .ref (b 2), .ref (b 3), .ref (b 4), .ref (b 5), .int ac, .ref (b 6), .ref (b 7), .int (nI u.1), .int u.2.1]))], [(b 1, .inl (cy 0, 120, .inl tx))], mW cy (b 3) u.2.2])) (va_A (wj [[(b 0, .inr (5, [.int rf, .ref (b 1), .int (nI zs), .ref (b 2), .ref (b 3), .ref (b 4), .ref (b 5), .int ac, .ref (b 6), .ref (b 7), .int (nI (s0 + 1)), .int ou]))], [(b 1, .inl (cy 0, 120, .inl tx))], mW cy (b 3) w]) sz)) 0 0 (va_A (wj [[(b 0, .inr (5, [.int rf, .ref (b 1), .int (nI zs), .ref (b 2), .ref (b 3), .ref (b 4), .ref (b 5), .int ac, .ref (b 6), .ref (b 7), .int (nI (s0 + 1)), .int ou]))], [(b 1, .inl (cy 0, 120, .inl tx))], mW cy (b 3) w]) sz) := by
  have hz := ht.1
  refine Mwi (cc := cX8_readGuest) (maxL := 6) (ty := .boolean) (by decide) rfl (Nat.le_of_ble_eq_true rfl) (fun _ _ q => rc_nar q) ?_
  intro p e s m args below meth c Q ls A hsz hF hK hP hD hA hl hret
  obtain ⟨hx, hb, hml, hown, hts⟩ := id hF
  have hown : s.vm.findClass RX8 = some m.cls := hown
  have hl : lv_has ls 6 [(0, .ref (b 0)), (1, .ref (b 3))] := hl
  suffices key : ∀ (H : Heap) (locs : List Loc), va_P D vwCl (wj [[(b 0, .inr (5, [.int rf, .ref (b 1), .int (nI zs), .ref (b 2), .ref (b 3), .ref (b 4), .ref (b 5), .int ac, .ref (b 6), .ref (b 7), .int (nI (s0 + 1)), .int ou]))], [(b 1, .inl (cy 0, 120, .inl tx))], mW cy (b 3) w]) H → va_D A (wj [[(b 0, .inr (5, [.int rf, .ref (b 1), .int (nI zs), .ref (b 2), .ref (b 3), .ref (b 4), .ref (b 5), .int ac, .ref (b 6), .ref (b 7), .int (nI (s0 + 1)), .int ou]))], [(b 1, .inl (cy 0, 120, .inl tx))], mW cy (b 3) w]) → va_S A s.heap H locs → W p l e rm_X8_readGuest s m args below meth c H locs 0 0 Q (F0 m 0 ls []) from key s.heap [] hP hD va_S.rf
  intro H locs hP hD hS
  refine lv_aload_n hx hb dX8_readGuest_0 rfl (lv_at hl 0 rfl) ?_
  refine lv_iconst (v := 0) hx hb dX8_readGuest_1 (by decide) ?_
  refine lv_iconst (v := 1) hx hb dX8_readGuest_2 (by decide) ?_
  refine lv_iconst (v := 0) hx hb dX8_readGuest_3 (by decide) ?_
  refine lv_bipush (v := 6) hx hb dX8_readGuest_4 (by decide) ?_
  refine wr_i (fun u => wj [[(b 0, .inr (5, [.int rf, .ref (b 1), .int (nI zs), .ref (b 2), .ref (b 3), .ref (b 4), .ref (b 5), .int ac, .ref (b 6), .ref (b 7), .int (nI u), .int ou]))], [(b 1, .inl (cy 0, 120, .inl tx))], mW cy (b 3) w]) (va_runV (As := [.int 0, .int 1, .int 0, .int 6]) (rest := []) hF (c_X8_figures_1 l D cy b rf ac ou tx zs (s0 + 1) ht (by omega) 0 0 6 (by decide) (by decide) H.size) (cwV 4 hts gX8_readGuest_X8_figures rfl rfl rfl (by decide +kernel) ⟨Nat.le_of_ble_eq_true rfl, Nat.le_of_ble_eq_true rfl⟩) (wr_preV hK hP hD (zz_pick [[(b 0, .inr (5, [.int rf, .ref (b 1), .int (nI zs), .ref (b 2), .ref (b 3), .ref (b 4), .ref (b 5), .int ac, .ref (b 6), .ref (b 7), .int (nI (s0 + 1)), .int ou]))], [(b 1, .inl (cy 0, 120, .inl tx))], mW cy (b 3) w] [0, 1] [2] (show List.Perm ([0, 1] ++ [2]) (List.range 3) by decide) rfl rfl) 0 5 rfl rfl rfl) rfl rfl hl.1 rfl (lv_room (Nat.le_of_ble_eq_true rfl)) dX8_readGuest_6 ⟨Nat.le_of_ble_eq_true rfl, Nat.le_of_ble_eq_true rfl⟩) hP hD hS hA (zz_pick [[(b 0, .inr (5, [.int rf, .ref (b 1), .int (nI zs), .ref (b 2), .ref (b 3), .ref (b 4), .ref (b 5), .int ac, .ref (b 6), .ref (b 7), .int (nI (s0 + 1)), .int ou]))], [(b 1, .inl (cy 0, 120, .inl tx))], mW cy (b 3) w] [0, 1] [2] (show List.Perm ([0, 1] ++ [2]) (List.range 3) by decide) rfl rfl) (fun u => (zz_pick [[(b 0, .inr (5, [.int rf, .ref (b 1), .int (nI zs), .ref (b 2), .ref (b 3), .ref (b 4), .ref (b 5), .int ac, .ref (b 6), .ref (b 7), .int (nI u), .int ou]))], [(b 1, .inl (cy 0, 120, .inl tx))], mW cy (b 3) w] [0, 1] [2] (show List.Perm ([0, 1] ++ [2]) (List.range 3) by decide) rfl rfl)) (fun r_1 u_2 H locs e_3 hP hD hS => ?_)
  rcases e_3 with ⟨rfl, rfl, o1⟩ | ⟨-, o1, rfl, rfl⟩
  · replace o1 := o1.resolve_left (by decide)
    have hP : va_P D vwCl (wj [[(b 0, .inr (5, [.int rf, .ref (b 1), .int (nI zs), .ref (b 2), .ref (b 3), .ref (b 4), .ref (b 5), .int ac, .ref (b 6), .ref (b 7), .int (nI (s0 + 1)), .int ou]))], [(b 1, .inl (cy 0, 120, .inl tx))], mW cy (b 3) w]) H := hP
    have hD : va_D A (wj [[(b 0, .inr (5, [.int rf, .ref (b 1), .int (nI zs), .ref (b 2), .ref (b 3), .ref (b 4), .ref (b 5), .int ac, .ref (b 6), .ref (b 7), .int (nI (s0 + 1)), .int ou]))], [(b 1, .inl (cy 0, 120, .inl tx))], mW cy (b 3) w]) := hD
    refine lv_istore_n (lv' := [(2, .int ((-1))), (0, .ref (b 0)), (1, .ref (b 3))]) hx hb dX8_readGuest_9 rfl hl (by decide) rfl (fun ls hl => ?_)
    refine lv_aload_n hx hb dX8_readGuest_10 rfl (lv_at hl 1 rfl) ?_
    refine lv_iload_n hx hb dX8_readGuest_11 rfl (lv_at hl 0 rfl) ?_
    refine lv_iconst (v := 1) hx hb dX8_readGuest_12 (by decide) ?_
    refine lv_iconst (v := 0) hx hb dX8_readGuest_13 (by decide) ?_
    refine lv_bipush (v := 6) hx hb dX8_readGuest_14 (by decide) ?_
    refine wr_i (fun u => wj [[(b 0, .inr (5, [.int rf, .ref (b 1), .int (nI zs), .ref (b 2), .ref (b 3), .ref (b 4), .ref (b 5), .int ac, .ref (b 6), .ref (b 7), .int (nI u), .int ou]))], [(b 1, .inl (cy 0, 120, .inl tx))], mW cy (b 3) w]) (va_runV (As := [.int ((-1)), .int 1, .int 0, .int 6]) (rest := []) hF (c_X8_figures_1 l D cy b rf ac ou tx zs (s0 + 1) ht (by omega) ((-1)) 0 6 (by decide) (by decide) H.size) (cwV 4 hts gX8_readGuest_X8_figures rfl rfl rfl (by decide +kernel) ⟨Nat.le_of_ble_eq_true rfl, Nat.le_of_ble_eq_true rfl⟩) (wr_preV hK hP hD (zz_pick [[(b 0, .inr (5, [.int rf, .ref (b 1), .int (nI zs), .ref (b 2), .ref (b 3), .ref (b 4), .ref (b 5), .int ac, .ref (b 6), .ref (b 7), .int (nI (s0 + 1)), .int ou]))], [(b 1, .inl (cy 0, 120, .inl tx))], mW cy (b 3) w] [0, 1] [2] (show List.Perm ([0, 1] ++ [2]) (List.range 3) by decide) rfl rfl) 0 5 rfl rfl rfl) rfl rfl hl.1 rfl (lv_room (Nat.le_of_ble_eq_true rfl)) dX8_readGuest_16 ⟨Nat.le_of_ble_eq_true rfl, Nat.le_of_ble_eq_true rfl⟩) hP hD hS hA (zz_pick [[(b 0, .inr (5, [.int rf, .ref (b 1), .int (nI zs), .ref (b 2), .ref (b 3), .ref (b 4), .ref (b 5), .int ac, .ref (b 6), .ref (b 7), .int (nI (s0 + 1)), .int ou]))], [(b 1, .inl (cy 0, 120, .inl tx))], mW cy (b 3) w] [0, 1] [2] (show List.Perm ([0, 1] ++ [2]) (List.range 3) by decide) rfl rfl) (fun u => (zz_pick [[(b 0, .inr (5, [.int rf, .ref (b 1), .int (nI zs), .ref (b 2), .ref (b 3), .ref (b 4), .ref (b 5), .int ac, .ref (b 6), .ref (b 7), .int (nI u), .int ou]))], [(b 1, .inl (cy 0, 120, .inl tx))], mW cy (b 3) w] [0, 1] [2] (show List.Perm ([0, 1] ++ [2]) (List.range 3) by decide) rfl rfl)) (fun r_4 u_5 H locs e_6 hP hD hS => ?_)
    rcases e_6 with ⟨rfl, rfl, -⟩ | ⟨q9, -⟩
    · have hP : va_P D vwCl (wj [[(b 0, .inr (5, [.int rf, .ref (b 1), .int (nI zs), .ref (b 2), .ref (b 3), .ref (b 4), .ref (b 5), .int ac, .ref (b 6), .ref (b 7), .int (nI (s0 + 1)), .int ou]))], [(b 1, .inl (cy 0, 120, .inl tx))], mW cy (b 3) w]) H := hP
      have hD : va_D A (wj [[(b 0, .inr (5, [.int rf, .ref (b 1), .int (nI zs), .ref (b 2), .ref (b 3), .ref (b 4), .ref (b 5), .int ac, .ref (b 6), .ref (b 7), .int (nI (s0 + 1)), .int ou]))], [(b 1, .inl (cy 0, 120, .inl tx))], mW cy (b 3) w]) := hD
      refine lv_istore_n (lv' := [(3, .int ((-1))), (2, .int ((-1))), (0, .ref (b 0)), (1, .ref (b 3))]) hx hb dX8_readGuest_19 rfl hl (by decide) rfl (fun ls hl => ?_)
      refine lv_aload_n hx hb dX8_readGuest_20 rfl (lv_at hl 2 rfl) ?_
      refine lv_iload_n hx hb dX8_readGuest_21 rfl (lv_at hl 0 rfl) ?_
      refine lv_iconst (v := 1) hx hb dX8_readGuest_22 (by decide) ?_
      refine lv_iconst (v := 0) hx hb dX8_readGuest_23 (by decide) ?_
      refine lv_bipush (v := 6) hx hb dX8_readGuest_24 (by decide) ?_
      refine wr_i (fun u => wj [[(b 0, .inr (5, [.int rf, .ref (b 1), .int (nI zs), .ref (b 2), .ref (b 3), .ref (b 4), .ref (b 5), .int ac, .ref (b 6), .ref (b 7), .int (nI u), .int ou]))], [(b 1, .inl (cy 0, 120, .inl tx))], mW cy (b 3) w]) (va_runV (As := [.int ((-1)), .int 1, .int 0, .int 6]) (rest := []) hF (c_X8_figures_1 l D cy b rf ac ou tx zs (s0 + 1) ht (by omega) ((-1)) 0 6 (by decide) (by decide) H.size) (cwV 4 hts gX8_readGuest_X8_figures rfl rfl rfl (by decide +kernel) ⟨Nat.le_of_ble_eq_true rfl, Nat.le_of_ble_eq_true rfl⟩) (wr_preV hK hP hD (zz_pick [[(b 0, .inr (5, [.int rf, .ref (b 1), .int (nI zs), .ref (b 2), .ref (b 3), .ref (b 4), .ref (b 5), .int ac, .ref (b 6), .ref (b 7), .int (nI (s0 + 1)), .int ou]))], [(b 1, .inl (cy 0, 120, .inl tx))], mW cy (b 3) w] [0, 1] [2] (show List.Perm ([0, 1] ++ [2]) (List.range 3) by decide) rfl rfl) 0 5 rfl rfl rfl) rfl rfl hl.1 rfl (lv_room (Nat.le_of_ble_eq_true rfl)) dX8_readGuest_26 ⟨Nat.le_of_ble_eq_true rfl, Nat.le_of_ble_eq_true rfl⟩) hP hD hS hA (zz_pick [[(b 0, .inr (5, [.int rf, .ref (b 1), .int (nI zs), .ref (b 2), .ref (b 3), .ref (b 4), .ref (b 5), .int ac, .ref (b 6), .ref (b 7), .int (nI (s0 + 1)), .int ou]))], [(b 1, .inl (cy 0, 120, .inl tx))], mW cy (b 3) w] [0, 1] [2] (show List.Perm ([0, 1] ++ [2]) (List.range 3) by decide) rfl rfl) (fun u => (zz_pick [[(b 0, .inr (5, [.int rf, .ref (b 1), .int (nI zs), .ref (b 2), .ref (b 3), .ref (b 4), .ref (b 5), .int ac, .ref (b 6), .ref (b 7), .int (nI u), .int ou]))], [(b 1, .inl (cy 0, 120, .inl tx))], mW cy (b 3) w] [0, 1] [2] (show List.Perm ([0, 1] ++ [2]) (List.range 3) by decide) rfl rfl)) (fun r_7 u_8 H locs e_9 hP hD hS => ?_)
      rcases e_9 with ⟨rfl, rfl, -⟩ | ⟨q9, -⟩
      · have hP : va_P D vwCl (wj [[(b 0, .inr (5, [.int rf, .ref (b 1), .int (nI zs), .ref (b 2), .ref (b 3), .ref (b 4), .ref (b 5), .int ac, .ref (b 6), .ref (b 7), .int (nI (s0 + 1)), .int ou]))], [(b 1, .inl (cy 0, 120, .inl tx))], mW cy (b 3) w]) H := hP
        have hD : va_D A (wj [[(b 0, .inr (5, [.int rf, .ref (b 1), .int (nI zs), .ref (b 2), .ref (b 3), .ref (b 4), .ref (b 5), .int ac, .ref (b 6), .ref (b 7), .int (nI (s0 + 1)), .int ou]))], [(b 1, .inl (cy 0, 120, .inl tx))], mW cy (b 3) w]) := hD
        refine lv_istore (lv' := [(4, .int ((-1))), (3, .int ((-1))), (2, .int ((-1))), (0, .ref (b 0)), (1, .ref (b 3))]) hx hb dX8_readGuest_29 hl (by decide) rfl (fun ls hl => ?_)
        refine lv_aload_n hx hb dX8_readGuest_31 rfl (lv_at hl 3 rfl) ?_
        refine lv_iload hx hb dX8_readGuest_32 (lv_at hl 0 rfl) ?_
        refine lv_iconst (v := 1) hx hb dX8_readGuest_34 (by decide) ?_
        refine lv_iconst (v := 1) hx hb dX8_readGuest_35 (by decide) ?_
        refine lv_iconst (v := 4) hx hb dX8_readGuest_36 (by decide) ?_
        refine wr_i (fun u => wj [[(b 0, .inr (5, [.int rf, .ref (b 1), .int (nI zs), .ref (b 2), .ref (b 3), .ref (b 4), .ref (b 5), .int ac, .ref (b 6), .ref (b 7), .int (nI u), .int ou]))], [(b 1, .inl (cy 0, 120, .inl tx))], mW cy (b 3) w]) (va_runV (As := [.int ((-1)), .int 1, .int 1, .int 4]) (rest := []) hF (c_X8_figures_1 l D cy b rf ac ou tx zs (s0 + 1) ht (by omega) ((-1)) 1 4 (by decide) (by decide) H.size) (cwV 4 hts gX8_readGuest_X8_figures rfl rfl rfl (by decide +kernel) ⟨Nat.le_of_ble_eq_true rfl, Nat.le_of_ble_eq_true rfl⟩) (wr_preV hK hP hD (zz_pick [[(b 0, .inr (5, [.int rf, .ref (b 1), .int (nI zs), .ref (b 2), .ref (b 3), .ref (b 4), .ref (b 5), .int ac, .ref (b 6), .ref (b 7), .int (nI (s0 + 1)), .int ou]))], [(b 1, .inl (cy 0, 120, .inl tx))], mW cy (b 3) w] [0, 1] [2] (show List.Perm ([0, 1] ++ [2]) (List.range 3) by decide) rfl rfl) 0 5 rfl rfl rfl) rfl rfl hl.1 rfl (lv_room (Nat.le_of_ble_eq_true rfl)) dX8_readGuest_37 ⟨Nat.le_of_ble_eq_true rfl, Nat.le_of_ble_eq_true rfl⟩) hP hD hS hA (zz_pick [[(b 0, .inr (5, [.int rf, .ref (b 1), .int (nI zs), .ref (b 2), .ref (b 3), .ref (b 4), .ref (b 5), .int ac, .ref (b 6), .ref (b 7), .int (nI (s0 + 1)), .int ou]))], [(b 1, .inl (cy 0, 120, .inl tx))], mW cy (b 3) w] [0, 1] [2] (show List.Perm ([0, 1] ++ [2]) (List.range 3) by decide) rfl rfl) (fun u => (zz_pick [[(b 0, .inr (5, [.int rf, .ref (b 1), .int (nI zs), .ref (b 2), .ref (b 3), .ref (b 4), .ref (b 5), .int ac, .ref (b 6), .ref (b 7), .int (nI u), .int ou]))], [(b 1, .inl (cy 0, 120, .inl tx))], mW cy (b 3) w] [0, 1] [2] (show List.Perm ([0, 1] ++ [2]) (List.range 3) by decide) rfl rfl)) (fun r_10 u_11 H locs e_12 hP hD hS => ?_)
        rcases e_12 with ⟨rfl, rfl, -⟩ | ⟨q9, -⟩
        · have hP : va_P D vwCl (wj [[(b 0, .inr (5, [.int rf, .ref (b 1), .int (nI zs), .ref (b 2), .ref (b 3), .ref (b 4), .ref (b 5), .int ac, .ref (b 6), .ref (b 7), .int (nI (s0 + 1)), .int ou]))], [(b 1, .inl (cy 0, 120, .inl tx))], mW cy (b 3) w]) H := hP
          have hD : va_D A (wj [[(b 0, .inr (5, [.int rf, .ref (b 1), .int (nI zs), .ref (b 2), .ref (b 3), .ref (b 4), .ref (b 5), .int ac, .ref (b 6), .ref (b 7), .int (nI (s0 + 1)), .int ou]))], [(b 1, .inl (cy 0, 120, .inl tx))], mW cy (b 3) w]) := hD
          refine lv_istore (lv' := [(5, .int ((-1))), (4, .int ((-1))), (3, .int ((-1))), (2, .int ((-1))), (0, .ref (b 0)), (1, .ref (b 3))]) hx hb dX8_readGuest_40 hl (by decide) rfl (fun ls hl => ?_)
          refine lv_iload hx hb dX8_readGuest_42 (lv_at hl 0 rfl) ?_
          refine lv_iconst (v := (-1)) hx hb dX8_readGuest_44 (by decide) ?_
          refine lv_icmp_eq (tgt := 84) hx hb dX8_readGuest_45 (by decide) (fun c_13 => ?_) (fun c_13 => ?_)
          · refine lv_iconst (v := 0) hx hb dX8_readGuest_84 (by decide) ?_
            exact hret _ _ H locs _ (s0 + 1, ou, w) dX8_readGuest_85 hP hD hS (Or.inr ⟨rfl, rgn_1 hs hg o1, show s0 + 1 < 2 ^ 31 by omega⟩)
          · exact absurd c_13 (by decide)
        · exact absurd rfl q9
      · exact absurd rfl q9
    · exact absurd rfl q9
  · have hlt1 := okD_lt (by decide) (by omega) o1
    obtain ⟨j1, hl1, hj1, e1⟩ := okD_nat (by decide) o1 (by decide)
    refine zz_top (y := nI j1) e1 ?_
    have hP : va_P D vwCl (wj [[(b 0, .inr (5, [.int rf, .ref (b 1), .int (nI zs), .ref (b 2), .ref (b 3), .ref (b 4), .ref (b 5), .int ac, .ref (b 6), .ref (b 7), .int (nI (s0 + 1 + 1)), .int ou]))], [(b 1, .inl (cy 0, 120, .inl tx))], mW cy (b 3) w]) H := hP
    have hD : va_D A (wj [[(b 0, .inr (5, [.int rf, .ref (b 1), .int (nI zs), .ref (b 2), .ref (b 3), .ref (b 4), .ref (b 5), .int ac, .ref (b 6), .ref (b 7), .int (nI (s0 + 1 + 1)), .int ou]))], [(b 1, .inl (cy 0, 120, .inl tx))], mW cy (b 3) w]) := hD
    refine lv_istore_n (lv' := [(2, .int (nI j1)), (0, .ref (b 0)), (1, .ref (b 3))]) hx hb dX8_readGuest_9 rfl hl (by decide) rfl (fun ls hl => ?_)
    refine lv_aload_n hx hb dX8_readGuest_10 rfl (lv_at hl 1 rfl) ?_
    refine lv_iload_n hx hb dX8_readGuest_11 rfl (lv_at hl 0 rfl) ?_
    refine lv_iconst (v := 1) hx hb dX8_readGuest_12 (by decide) ?_
    refine lv_iconst (v := 0) hx hb dX8_readGuest_13 (by decide) ?_
    refine lv_bipush (v := 6) hx hb dX8_readGuest_14 (by decide) ?_
    refine wr_i (fun u => wj [[(b 0, .inr (5, [.int rf, .ref (b 1), .int (nI zs), .ref (b 2), .ref (b 3), .ref (b 4), .ref (b 5), .int ac, .ref (b 6), .ref (b 7), .int (nI u), .int ou]))], [(b 1, .inl (cy 0, 120, .inl tx))], mW cy (b 3) w]) (va_runV (As := [.int (nI j1), .int 1, .int 0, .int 6]) (rest := []) hF (c_X8_figures_1 l D cy b rf ac ou tx zs (s0 + 1 + 1) ht (by omega) (nI j1) 0 6 (by decide) (by decide) H.size) (cwV 4 hts gX8_readGuest_X8_figures rfl rfl rfl (by decide +kernel) ⟨Nat.le_of_ble_eq_true rfl, Nat.le_of_ble_eq_true rfl⟩) (wr_preV hK hP hD (zz_pick [[(b 0, .inr (5, [.int rf, .ref (b 1), .int (nI zs), .ref (b 2), .ref (b 3), .ref (b 4), .ref (b 5), .int ac, .ref (b 6), .ref (b 7), .int (nI (s0 + 1 + 1)), .int ou]))], [(b 1, .inl (cy 0, 120, .inl tx))], mW cy (b 3) w] [0, 1] [2] (show List.Perm ([0, 1] ++ [2]) (List.range 3) by decide) rfl rfl) 0 5 rfl rfl rfl) rfl rfl hl.1 rfl (lv_room (Nat.le_of_ble_eq_true rfl)) dX8_readGuest_16 ⟨Nat.le_of_ble_eq_true rfl, Nat.le_of_ble_eq_true rfl⟩) hP hD hS hA (zz_pick [[(b 0, .inr (5, [.int rf, .ref (b 1), .int (nI zs), .ref (b 2), .ref (b 3), .ref (b 4), .ref (b 5), .int ac, .ref (b 6), .ref (b 7), .int (nI (s0 + 1 + 1)), .int ou]))], [(b 1, .inl (cy 0, 120, .inl tx))], mW cy (b 3) w] [0, 1] [2] (show List.Perm ([0, 1] ++ [2]) (List.range 3) by decide) rfl rfl) (fun u => (zz_pick [[(b 0, .inr (5, [.int rf, .ref (b 1), .int (nI zs), .ref (b 2), .ref (b 3), .ref (b 4), .ref (b 5), .int ac, .ref (b 6), .ref (b 7), .int (nI u), .int ou]))], [(b 1, .inl (cy 0, 120, .inl tx))], mW cy (b 3) w] [0, 1] [2] (show List.Perm ([0, 1] ++ [2]) (List.range 3) by decide) rfl rfl)) (fun r_14 u_15 H locs e_16 hP hD hS => ?_)
    rcases e_16 with ⟨rfl, rfl, o2⟩ | ⟨-, o2, rfl, rfl⟩
    · replace o2 := o2.resolve_left (ne_m1 (by omega))
      have hP : va_P D vwCl (wj [[(b 0, .inr (5, [.int rf, .ref (b 1), .int (nI zs), .ref (b 2), .ref (b 3), .ref (b 4), .ref (b 5), .int ac, .ref (b 6), .ref (b 7), .int (nI (s0 + 1 + 1)), .int ou]))], [(b 1, .inl (cy 0, 120, .inl tx))], mW cy (b 3) w]) H := hP
      have hD : va_D A (wj [[(b 0, .inr (5, [.int rf, .ref (b 1), .int (nI zs), .ref (b 2), .ref (b 3), .ref (b 4), .ref (b 5), .int ac, .ref (b 6), .ref (b 7), .int (nI (s0 + 1 + 1)), .int ou]))], [(b 1, .inl (cy 0, 120, .inl tx))], mW cy (b 3) w]) := hD
      refine lv_istore_n (lv' := [(3, .int ((-1))), (2, .int (nI j1)), (0, .ref (b 0)), (1, .ref (b 3))]) hx hb dX8_readGuest_19 rfl hl (by decide) rfl (fun ls hl => ?_)
      refine lv_aload_n hx hb dX8_readGuest_20 rfl (lv_at hl 2 rfl) ?_
      refine lv_iload_n hx hb dX8_readGuest_21 rfl (lv_at hl 0 rfl) ?_
      refine lv_iconst (v := 1) hx hb dX8_readGuest_22 (by decide) ?_
      refine lv_iconst (v := 0) hx hb dX8_readGuest_23 (by decide) ?_
      refine lv_bipush (v := 6) hx hb dX8_readGuest_24 (by decide) ?_
      refine wr_i (fun u => wj [[(b 0, .inr (5, [.int rf, .ref (b 1), .int (nI zs), .ref (b 2), .ref (b 3), .ref (b 4), .ref (b 5), .int ac, .ref (b 6), .ref (b 7), .int (nI u), .int ou]))], [(b 1, .inl (cy 0, 120, .inl tx))], mW cy (b 3) w]) (va_runV (As := [.int ((-1)), .int 1, .int 0, .int 6]) (rest := []) hF (c_X8_figures_1 l D cy b rf ac ou tx zs (s0 + 1 + 1) ht (by omega) ((-1)) 0 6 (by decide) (by decide) H.size) (cwV 4 hts gX8_readGuest_X8_figures rfl rfl rfl (by decide +kernel) ⟨Nat.le_of_ble_eq_true rfl, Nat.le_of_ble_eq_true rfl⟩) (wr_preV hK hP hD (zz_pick [[(b 0, .inr (5, [.int rf, .ref (b 1), .int (nI zs), .ref (b 2), .ref (b 3), .ref (b 4), .ref (b 5), .int ac, .ref (b 6), .ref (b 7), .int (nI (s0 + 1 + 1)), .int ou]))], [(b 1, .inl (cy 0, 120, .inl tx))], mW cy (b 3) w] [0, 1] [2] (show List.Perm ([0, 1] ++ [2]) (List.range 3) by decide) rfl rfl) 0 5 rfl rfl rfl) rfl rfl hl.1 rfl (lv_room (Nat.le_of_ble_eq_true rfl)) dX8_readGuest_26 ⟨Nat.le_of_ble_eq_true rfl, Nat.le_of_ble_eq_true rfl⟩) hP hD hS hA (zz_pick [[(b 0, .inr (5, [.int rf, .ref (b 1), .int (nI zs), .ref (b 2), .ref (b 3), .ref (b 4), .ref (b 5), .int ac, .ref (b 6), .ref (b 7), .int (nI (s0 + 1 + 1)), .int ou]))], [(b 1, .inl (cy 0, 120, .inl tx))], mW cy (b 3) w] [0, 1] [2] (show List.Perm ([0, 1] ++ [2]) (List.range 3) by decide) rfl rfl) (fun u => (zz_pick [[(b 0, .inr (5, [.int rf, .ref (b 1), .int (nI zs), .ref (b 2), .ref (b 3), .ref (b 4), .ref (b 5), .int ac, .ref (b 6), .ref (b 7), .int (nI u), .int ou]))], [(b 1, .inl (cy 0, 120, .inl tx))], mW cy (b 3) w] [0, 1] [2] (show List.Perm ([0, 1] ++ [2]) (List.range 3) by decide) rfl rfl)) (fun r_17 u_18 H locs e_19 hP hD hS => ?_)
      rcases e_19 with ⟨rfl, rfl, -⟩ | ⟨q9, -⟩
      · have hP : va_P D vwCl (wj [[(b 0, .inr (5, [.int rf, .ref (b 1), .int (nI zs), .ref (b 2), .ref (b 3), .ref (b 4), .ref (b 5), .int ac, .ref (b 6), .ref (b 7), .int (nI (s0 + 1 + 1)), .int ou]))], [(b 1, .inl (cy 0, 120, .inl tx))], mW cy (b 3) w]) H := hP
        have hD : va_D A (wj [[(b 0, .inr (5, [.int rf, .ref (b 1), .int (nI zs), .ref (b 2), .ref (b 3), .ref (b 4), .ref (b 5), .int ac, .ref (b 6), .ref (b 7), .int (nI (s0 + 1 + 1)), .int ou]))], [(b 1, .inl (cy 0, 120, .inl tx))], mW cy (b 3) w]) := hD
        refine lv_istore (lv' := [(4, .int ((-1))), (3, .int ((-1))), (2, .int (nI j1)), (0, .ref (b 0)), (1, .ref (b 3))]) hx hb dX8_readGuest_29 hl (by decide) rfl (fun ls hl => ?_)
        refine lv_aload_n hx hb dX8_readGuest_31 rfl (lv_at hl 3 rfl) ?_
        refine lv_iload hx hb dX8_readGuest_32 (lv_at hl 0 rfl) ?_
        refine lv_iconst (v := 1) hx hb dX8_readGuest_34 (by decide) ?_
        refine lv_iconst (v := 1) hx hb dX8_readGuest_35 (by decide) ?_
        refine lv_iconst (v := 4) hx hb dX8_readGuest_36 (by decide) ?_
        refine wr_i (fun u => wj [[(b 0, .inr (5, [.int rf, .ref (b 1), .int (nI zs), .ref (b 2), .ref (b 3), .ref (b 4), .ref (b 5), .int ac, .ref (b 6), .ref (b 7), .int (nI u), .int ou]))], [(b 1, .inl (cy 0, 120, .inl tx))], mW cy (b 3) w]) (va_runV (As := [.int ((-1)), .int 1, .int 1, .int 4]) (rest := []) hF (c_X8_figures_1 l D cy b rf ac ou tx zs (s0 + 1 + 1) ht (by omega) ((-1)) 1 4 (by decide) (by decide) H.size) (cwV 4 hts gX8_readGuest_X8_figures rfl rfl rfl (by decide +kernel) ⟨Nat.le_of_ble_eq_true rfl, Nat.le_of_ble_eq_true rfl⟩) (wr_preV hK hP hD (zz_pick [[(b 0, .inr (5, [.int rf, .ref (b 1), .int (nI zs), .ref (b 2), .ref (b 3), .ref (b 4), .ref (b 5), .int ac, .ref (b 6), .ref (b 7), .int (nI (s0 + 1 + 1)), .int ou]))], [(b 1, .inl (cy 0, 120, .inl tx))], mW cy (b 3) w] [0, 1] [2] (show List.Perm ([0, 1] ++ [2]) (List.range 3) by decide) rfl rfl) 0 5 rfl rfl rfl) rfl rfl hl.1 rfl (lv_room (Nat.le_of_ble_eq_true rfl)) dX8_readGuest_37 ⟨Nat.le_of_ble_eq_true rfl, Nat.le_of_ble_eq_true rfl⟩) hP hD hS hA (zz_pick [[(b 0, .inr (5, [.int rf, .ref (b 1), .int (nI zs), .ref (b 2), .ref (b 3), .ref (b 4), .ref (b 5), .int ac, .ref (b 6), .ref (b 7), .int (nI (s0 + 1 + 1)), .int ou]))], [(b 1, .inl (cy 0, 120, .inl tx))], mW cy (b 3) w] [0, 1] [2] (show List.Perm ([0, 1] ++ [2]) (List.range 3) by decide) rfl rfl) (fun u => (zz_pick [[(b 0, .inr (5, [.int rf, .ref (b 1), .int (nI zs), .ref (b 2), .ref (b 3), .ref (b 4), .ref (b 5), .int ac, .ref (b 6), .ref (b 7), .int (nI u), .int ou]))], [(b 1, .inl (cy 0, 120, .inl tx))], mW cy (b 3) w] [0, 1] [2] (show List.Perm ([0, 1] ++ [2]) (List.range 3) by decide) rfl rfl)) (fun r_20 u_21 H locs e_22 hP hD hS => ?_)
        rcases e_22 with ⟨rfl, rfl, -⟩ | ⟨q9, -⟩
        · have hP : va_P D vwCl (wj [[(b 0, .inr (5, [.int rf, .ref (b 1), .int (nI zs), .ref (b 2), .ref (b 3), .ref (b 4), .ref (b 5), .int ac, .ref (b 6), .ref (b 7), .int (nI (s0 + 1 + 1)), .int ou]))], [(b 1, .inl (cy 0, 120, .inl tx))], mW cy (b 3) w]) H := hP
          have hD : va_D A (wj [[(b 0, .inr (5, [.int rf, .ref (b 1), .int (nI zs), .ref (b 2), .ref (b 3), .ref (b 4), .ref (b 5), .int ac, .ref (b 6), .ref (b 7), .int (nI (s0 + 1 + 1)), .int ou]))], [(b 1, .inl (cy 0, 120, .inl tx))], mW cy (b 3) w]) := hD
          refine lv_istore (lv' := [(5, .int ((-1))), (4, .int ((-1))), (3, .int ((-1))), (2, .int (nI j1)), (0, .ref (b 0)), (1, .ref (b 3))]) hx hb dX8_readGuest_40 hl (by decide) rfl (fun ls hl => ?_)
          refine lv_iload hx hb dX8_readGuest_42 (lv_at hl 0 rfl) ?_
          refine lv_iconst (v := (-1)) hx hb dX8_readGuest_44 (by decide) ?_
          refine lv_icmp_eq (tgt := 84) hx hb dX8_readGuest_45 (by decide) (fun c_23 => ?_) (fun c_23 => ?_)
          · refine lv_iconst (v := 0) hx hb dX8_readGuest_84 (by decide) ?_
            exact hret _ _ H locs _ (s0 + 1 + 1, ou, w) dX8_readGuest_85 hP hD hS (Or.inr ⟨rfl, rgn_2 hz hs hg o1 o2, show s0 + 1 + 1 < 2 ^ 31 by omega⟩)
          · exact absurd c_23 (by decide)
        · exact absurd rfl q9
      · exact absurd rfl q9
    · have hlt2 := okD_lt (by decide) (by omega) o2
      obtain ⟨j2, hl2, hj2, e2⟩ := okD_nat (by decide) o2 (by decide)
      refine zz_top (y := nI j2) e2 ?_
      have hP : va_P D vwCl (wj [[(b 0, .inr (5, [.int rf, .ref (b 1), .int (nI zs), .ref (b 2), .ref (b 3), .ref (b 4), .ref (b 5), .int ac, .ref (b 6), .ref (b 7), .int (nI (s0 + 1 + 1 + 1)), .int ou]))], [(b 1, .inl (cy 0, 120, .inl tx))], mW cy (b 3) w]) H := hP
      have hD : va_D A (wj [[(b 0, .inr (5, [.int rf, .ref (b 1), .int (nI zs), .ref (b 2), .ref (b 3), .ref (b 4), .ref (b 5), .int ac, .ref (b 6), .ref (b 7), .int (nI (s0 + 1 + 1 + 1)), .int ou]))], [(b 1, .inl (cy 0, 120, .inl tx))], mW cy (b 3) w]) := hD
      refine lv_istore_n (lv' := [(3, .int (nI j2)), (2, .int (nI j1)), (0, .ref (b 0)), (1, .ref (b 3))]) hx hb dX8_readGuest_19 rfl hl (by decide) rfl (fun ls hl => ?_)
      refine lv_aload_n hx hb dX8_readGuest_20 rfl (lv_at hl 2 rfl) ?_
      refine lv_iload_n hx hb dX8_readGuest_21 rfl (lv_at hl 0 rfl) ?_
      refine lv_iconst (v := 1) hx hb dX8_readGuest_22 (by decide) ?_
      refine lv_iconst (v := 0) hx hb dX8_readGuest_23 (by decide) ?_
      refine lv_bipush (v := 6) hx hb dX8_readGuest_24 (by decide) ?_
      refine wr_i (fun u => wj [[(b 0, .inr (5, [.int rf, .ref (b 1), .int (nI zs), .ref (b 2), .ref (b 3), .ref (b 4), .ref (b 5), .int ac, .ref (b 6), .ref (b 7), .int (nI u), .int ou]))], [(b 1, .inl (cy 0, 120, .inl tx))], mW cy (b 3) w]) (va_runV (As := [.int (nI j2), .int 1, .int 0, .int 6]) (rest := []) hF (c_X8_figures_1 l D cy b rf ac ou tx zs (s0 + 1 + 1 + 1) ht (by omega) (nI j2) 0 6 (by decide) (by decide) H.size) (cwV 4 hts gX8_readGuest_X8_figures rfl rfl rfl (by decide +kernel) ⟨Nat.le_of_ble_eq_true rfl, Nat.le_of_ble_eq_true rfl⟩) (wr_preV hK hP hD (zz_pick [[(b 0, .inr (5, [.int rf, .ref (b 1), .int (nI zs), .ref (b 2), .ref (b 3), .ref (b 4), .ref (b 5), .int ac, .ref (b 6), .ref (b 7), .int (nI (s0 + 1 + 1 + 1)), .int ou]))], [(b 1, .inl (cy 0, 120, .inl tx))], mW cy (b 3) w] [0, 1] [2] (show List.Perm ([0, 1] ++ [2]) (List.range 3) by decide) rfl rfl) 0 5 rfl rfl rfl) rfl rfl hl.1 rfl (lv_room (Nat.le_of_ble_eq_true rfl)) dX8_readGuest_26 ⟨Nat.le_of_ble_eq_true rfl, Nat.le_of_ble_eq_true rfl⟩) hP hD hS hA (zz_pick [[(b 0, .inr (5, [.int rf, .ref (b 1), .int (nI zs), .ref (b 2), .ref (b 3), .ref (b 4), .ref (b 5), .int ac, .ref (b 6), .ref (b 7), .int (nI (s0 + 1 + 1 + 1)), .int ou]))], [(b 1, .inl (cy 0, 120, .inl tx))], mW cy (b 3) w] [0, 1] [2] (show List.Perm ([0, 1] ++ [2]) (List.range 3) by decide) rfl rfl) (fun u => (zz_pick [[(b 0, .inr (5, [.int rf, .ref (b 1), .int (nI zs), .ref (b 2), .ref (b 3), .ref (b 4), .ref (b 5), .int ac, .ref (b 6), .ref (b 7), .int (nI u), .int ou]))], [(b 1, .inl (cy 0, 120, .inl tx))], mW cy (b 3) w] [0, 1] [2] (show List.Perm ([0, 1] ++ [2]) (List.range 3) by decide) rfl rfl)) (fun r_24 u_25 H locs e_26 hP hD hS => ?_)
      rcases e_26 with ⟨rfl, rfl, o3⟩ | ⟨-, o3, rfl, rfl⟩
      · replace o3 := o3.resolve_left (ne_m1 (by omega))
        have hP : va_P D vwCl (wj [[(b 0, .inr (5, [.int rf, .ref (b 1), .int (nI zs), .ref (b 2), .ref (b 3), .ref (b 4), .ref (b 5), .int ac, .ref (b 6), .ref (b 7), .int (nI (s0 + 1 + 1 + 1)), .int ou]))], [(b 1, .inl (cy 0, 120, .inl tx))], mW cy (b 3) w]) H := hP
        have hD : va_D A (wj [[(b 0, .inr (5, [.int rf, .ref (b 1), .int (nI zs), .ref (b 2), .ref (b 3), .ref (b 4), .ref (b 5), .int ac, .ref (b 6), .ref (b 7), .int (nI (s0 + 1 + 1 + 1)), .int ou]))], [(b 1, .inl (cy 0, 120, .inl tx))], mW cy (b 3) w]) := hD
        refine lv_istore (lv' := [(4, .int ((-1))), (3, .int (nI j2)), (2, .int (nI j1)), (0, .ref (b 0)), (1, .ref (b 3))]) hx hb dX8_readGuest_29 hl (by decide) rfl (fun ls hl => ?_)
        refine lv_aload_n hx hb dX8_readGuest_31 rfl (lv_at hl 3 rfl) ?_
        refine lv_iload hx hb dX8_readGuest_32 (lv_at hl 0 rfl) ?_
        refine lv_iconst (v := 1) hx hb dX8_readGuest_34 (by decide) ?_
        refine lv_iconst (v := 1) hx hb dX8_readGuest_35 (by decide) ?_
        refine lv_iconst (v := 4) hx hb dX8_readGuest_36 (by decide) ?_
        refine wr_i (fun u => wj [[(b 0, .inr (5, [.int rf, .ref (b 1), .int (nI zs), .ref (b 2), .ref (b 3), .ref (b 4), .ref (b 5), .int ac, .ref (b 6), .ref (b 7), .int (nI u), .int ou]))], [(b 1, .inl (cy 0, 120, .inl tx))], mW cy (b 3) w]) (va_runV (As := [.int ((-1)), .int 1, .int 1, .int 4]) (rest := []) hF (c_X8_figures_1 l D cy b rf ac ou tx zs (s0 + 1 + 1 + 1) ht (by omega) ((-1)) 1 4 (by decide) (by decide) H.size) (cwV 4 hts gX8_readGuest_X8_figures rfl rfl rfl (by decide +kernel) ⟨Nat.le_of_ble_eq_true rfl, Nat.le_of_ble_eq_true rfl⟩) (wr_preV hK hP hD (zz_pick [[(b 0, .inr (5, [.int rf, .ref (b 1), .int (nI zs), .ref (b 2), .ref (b 3), .ref (b 4), .ref (b 5), .int ac, .ref (b 6), .ref (b 7), .int (nI (s0 + 1 + 1 + 1)), .int ou]))], [(b 1, .inl (cy 0, 120, .inl tx))], mW cy (b 3) w] [0, 1] [2] (show List.Perm ([0, 1] ++ [2]) (List.range 3) by decide) rfl rfl) 0 5 rfl rfl rfl) rfl rfl hl.1 rfl (lv_room (Nat.le_of_ble_eq_true rfl)) dX8_readGuest_37 ⟨Nat.le_of_ble_eq_true rfl, Nat.le_of_ble_eq_true rfl⟩) hP hD hS hA (zz_pick [[(b 0, .inr (5, [.int rf, .ref (b 1), .int (nI zs), .ref (b 2), .ref (b 3), .ref (b 4), .ref (b 5), .int ac, .ref (b 6), .ref (b 7), .int (nI (s0 + 1 + 1 + 1)), .int ou]))], [(b 1, .inl (cy 0, 120, .inl tx))], mW cy (b 3) w] [0, 1] [2] (show List.Perm ([0, 1] ++ [2]) (List.range 3) by decide) rfl rfl) (fun u => (zz_pick [[(b 0, .inr (5, [.int rf, .ref (b 1), .int (nI zs), .ref (b 2), .ref (b 3), .ref (b 4), .ref (b 5), .int ac, .ref (b 6), .ref (b 7), .int (nI u), .int ou]))], [(b 1, .inl (cy 0, 120, .inl tx))], mW cy (b 3) w] [0, 1] [2] (show List.Perm ([0, 1] ++ [2]) (List.range 3) by decide) rfl rfl)) (fun r_27 u_28 H locs e_29 hP hD hS => ?_)
        rcases e_29 with ⟨rfl, rfl, -⟩ | ⟨q9, -⟩
        · have hP : va_P D vwCl (wj [[(b 0, .inr (5, [.int rf, .ref (b 1), .int (nI zs), .ref (b 2), .ref (b 3), .ref (b 4), .ref (b 5), .int ac, .ref (b 6), .ref (b 7), .int (nI (s0 + 1 + 1 + 1)), .int ou]))], [(b 1, .inl (cy 0, 120, .inl tx))], mW cy (b 3) w]) H := hP
          have hD : va_D A (wj [[(b 0, .inr (5, [.int rf, .ref (b 1), .int (nI zs), .ref (b 2), .ref (b 3), .ref (b 4), .ref (b 5), .int ac, .ref (b 6), .ref (b 7), .int (nI (s0 + 1 + 1 + 1)), .int ou]))], [(b 1, .inl (cy 0, 120, .inl tx))], mW cy (b 3) w]) := hD
          refine lv_istore (lv' := [(5, .int ((-1))), (4, .int ((-1))), (3, .int (nI j2)), (2, .int (nI j1)), (0, .ref (b 0)), (1, .ref (b 3))]) hx hb dX8_readGuest_40 hl (by decide) rfl (fun ls hl => ?_)
          refine lv_iload hx hb dX8_readGuest_42 (lv_at hl 0 rfl) ?_
          refine lv_iconst (v := (-1)) hx hb dX8_readGuest_44 (by decide) ?_
          refine lv_icmp_eq (tgt := 84) hx hb dX8_readGuest_45 (by decide) (fun c_30 => ?_) (fun c_30 => ?_)
          · refine lv_iconst (v := 0) hx hb dX8_readGuest_84 (by decide) ?_
            exact hret _ _ H locs _ (s0 + 1 + 1 + 1, ou, w) dX8_readGuest_85 hP hD hS (Or.inr ⟨rfl, rgn_3 hz hs hg o1 o2 o3, show s0 + 1 + 1 + 1 < 2 ^ 31 by omega⟩)
          · exact absurd c_30 (by decide)
        · exact absurd rfl q9
      · have hlt3 := okD_lt (by decide) (by omega) o3
        obtain ⟨j3, hl3, hj3, e3⟩ := okD_nat (by decide) o3 (by decide)
        refine zz_top (y := nI j3) e3 ?_
        have hP : va_P D vwCl (wj [[(b 0, .inr (5, [.int rf, .ref (b 1), .int (nI zs), .ref (b 2), .ref (b 3), .ref (b 4), .ref (b 5), .int ac, .ref (b 6), .ref (b 7), .int (nI (s0 + 1 + 1 + 1 + 1)), .int ou]))], [(b 1, .inl (cy 0, 120, .inl tx))], mW cy (b 3) w]) H := hP
        have hD : va_D A (wj [[(b 0, .inr (5, [.int rf, .ref (b 1), .int (nI zs), .ref (b 2), .ref (b 3), .ref (b 4), .ref (b 5), .int ac, .ref (b 6), .ref (b 7), .int (nI (s0 + 1 + 1 + 1 + 1)), .int ou]))], [(b 1, .inl (cy 0, 120, .inl tx))], mW cy (b 3) w]) := hD
        refine lv_istore (lv' := [(4, .int (nI j3)), (3, .int (nI j2)), (2, .int (nI j1)), (0, .ref (b 0)), (1, .ref (b 3))]) hx hb dX8_readGuest_29 hl (by decide) rfl (fun ls hl => ?_)
        refine lv_aload_n hx hb dX8_readGuest_31 rfl (lv_at hl 3 rfl) ?_
        refine lv_iload hx hb dX8_readGuest_32 (lv_at hl 0 rfl) ?_
        refine lv_iconst (v := 1) hx hb dX8_readGuest_34 (by decide) ?_
        refine lv_iconst (v := 1) hx hb dX8_readGuest_35 (by decide) ?_
        refine lv_iconst (v := 4) hx hb dX8_readGuest_36 (by decide) ?_
        refine wr_i (fun u => wj [[(b 0, .inr (5, [.int rf, .ref (b 1), .int (nI zs), .ref (b 2), .ref (b 3), .ref (b 4), .ref (b 5), .int ac, .ref (b 6), .ref (b 7), .int (nI u), .int ou]))], [(b 1, .inl (cy 0, 120, .inl tx))], mW cy (b 3) w]) (va_runV (As := [.int (nI j3), .int 1, .int 1, .int 4]) (rest := []) hF (c_X8_figures_1 l D cy b rf ac ou tx zs (s0 + 1 + 1 + 1 + 1) ht (by omega) (nI j3) 1 4 (by decide) (by decide) H.size) (cwV 4 hts gX8_readGuest_X8_figures rfl rfl rfl (by decide +kernel) ⟨Nat.le_of_ble_eq_true rfl, Nat.le_of_ble_eq_true rfl⟩) (wr_preV hK hP hD (zz_pick [[(b 0, .inr (5, [.int rf, .ref (b 1), .int (nI zs), .ref (b 2), .ref (b 3), .ref (b 4), .ref (b 5), .int ac, .ref (b 6), .ref (b 7), .int (nI (s0 + 1 + 1 + 1 + 1)), .int ou]))], [(b 1, .inl (cy 0, 120, .inl tx))], mW cy (b 3) w] [0, 1] [2] (show List.Perm ([0, 1] ++ [2]) (List.range 3) by decide) rfl rfl) 0 5 rfl rfl rfl) rfl rfl hl.1 rfl (lv_room (Nat.le_of_ble_eq_true rfl)) dX8_readGuest_37 ⟨Nat.le_of_ble_eq_true rfl, Nat.le_of_ble_eq_true rfl⟩) hP hD hS hA (zz_pick [[(b 0, .inr (5, [.int rf, .ref (b 1), .int (nI zs), .ref (b 2), .ref (b 3), .ref (b 4), .ref (b 5), .int ac, .ref (b 6), .ref (b 7), .int (nI (s0 + 1 + 1 + 1 + 1)), .int ou]))], [(b 1, .inl (cy 0, 120, .inl tx))], mW cy (b 3) w] [0, 1] [2] (show List.Perm ([0, 1] ++ [2]) (List.range 3) by decide) rfl rfl) (fun u => (zz_pick [[(b 0, .inr (5, [.int rf, .ref (b 1), .int (nI zs), .ref (b 2), .ref (b 3), .ref (b 4), .ref (b 5), .int ac, .ref (b 6), .ref (b 7), .int (nI u), .int ou]))], [(b 1, .inl (cy 0, 120, .inl tx))], mW cy (b 3) w] [0, 1] [2] (show List.Perm ([0, 1] ++ [2]) (List.range 3) by decide) rfl rfl)) (fun r_31 u_32 H locs e_33 hP hD hS => ?_)
        rcases e_33 with ⟨rfl, rfl, o4⟩ | ⟨-, o4, rfl, rfl⟩
        · replace o4 := o4.resolve_left (ne_m1 (by omega))
          have hP : va_P D vwCl (wj [[(b 0, .inr (5, [.int rf, .ref (b 1), .int (nI zs), .ref (b 2), .ref (b 3), .ref (b 4), .ref (b 5), .int ac, .ref (b 6), .ref (b 7), .int (nI (s0 + 1 + 1 + 1 + 1)), .int ou]))], [(b 1, .inl (cy 0, 120, .inl tx))], mW cy (b 3) w]) H := hP
          have hD : va_D A (wj [[(b 0, .inr (5, [.int rf, .ref (b 1), .int (nI zs), .ref (b 2), .ref (b 3), .ref (b 4), .ref (b 5), .int ac, .ref (b 6), .ref (b 7), .int (nI (s0 + 1 + 1 + 1 + 1)), .int ou]))], [(b 1, .inl (cy 0, 120, .inl tx))], mW cy (b 3) w]) := hD
          refine lv_istore (lv' := [(5, .int ((-1))), (4, .int (nI j3)), (3, .int (nI j2)), (2, .int (nI j1)), (0, .ref (b 0)), (1, .ref (b 3))]) hx hb dX8_readGuest_40 hl (by decide) rfl (fun ls hl => ?_)
          refine lv_iload hx hb dX8_readGuest_42 (lv_at hl 0 rfl) ?_
          refine lv_iconst (v := (-1)) hx hb dX8_readGuest_44 (by decide) ?_
          refine lv_icmp_eq (tgt := 84) hx hb dX8_readGuest_45 (by decide) (fun c_34 => ?_) (fun c_34 => ?_)
          · refine lv_iconst (v := 0) hx hb dX8_readGuest_84 (by decide) ?_
            exact hret _ _ H locs _ (s0 + 1 + 1 + 1 + 1, ou, w) dX8_readGuest_85 hP hD hS (Or.inr ⟨rfl, rgn_4 hz hs hg o1 o2 o3 o4, show s0 + 1 + 1 + 1 + 1 < 2 ^ 31 by omega⟩)
          · exact absurd c_34 (by decide)
        · have hlt4 := okD_lt (by decide) (by omega) o4
          obtain ⟨j4, hl4, hj4, e4⟩ := okD_nat (by decide) o4 (by decide)
          refine zz_top (y := nI j4) e4 ?_
          have hP : va_P D vwCl (wj [[(b 0, .inr (5, [.int rf, .ref (b 1), .int (nI zs), .ref (b 2), .ref (b 3), .ref (b 4), .ref (b 5), .int ac, .ref (b 6), .ref (b 7), .int (nI (s0 + 1 + 1 + 1 + 1 + 1)), .int ou]))], [(b 1, .inl (cy 0, 120, .inl tx))], mW cy (b 3) w]) H := hP
          have hD : va_D A (wj [[(b 0, .inr (5, [.int rf, .ref (b 1), .int (nI zs), .ref (b 2), .ref (b 3), .ref (b 4), .ref (b 5), .int ac, .ref (b 6), .ref (b 7), .int (nI (s0 + 1 + 1 + 1 + 1 + 1)), .int ou]))], [(b 1, .inl (cy 0, 120, .inl tx))], mW cy (b 3) w]) := hD
          refine lv_istore (lv' := [(5, .int (nI j4)), (4, .int (nI j3)), (3, .int (nI j2)), (2, .int (nI j1)), (0, .ref (b 0)), (1, .ref (b 3))]) hx hb dX8_readGuest_40 hl (by decide) rfl (fun ls hl => ?_)
          refine lv_iload hx hb dX8_readGuest_42 (lv_at hl 0 rfl) ?_
          refine lv_iconst (v := (-1)) hx hb dX8_readGuest_44 (by decide) ?_
          refine lv_icmp_eq (tgt := 84) hx hb dX8_readGuest_45 (by decide) (fun c_35 => ?_) (fun c_35 => ?_)
          · have c_35 : (nI j4) = ((-1)) := c_35
            exact absurd c_35 (ne_m1 (by omega))
          · have c_35 : ¬ (nI j4) = ((-1)) := c_35
            refine lv_aload_n hx hb dX8_readGuest_48 rfl (lv_at hl 4 rfl) ?_
            refine lv_aload_n hx hb dX8_readGuest_49 rfl (lv_at hl 5 rfl) ?_
            refine lv_iconst (v := 0) hx hb dX8_readGuest_50 (by decide) ?_
            refine zz_iald hx hb hK hP 2 0 0 rfl rfl rfl ⟨by decide, Nat.le_of_ble_eq_true rfl⟩ dX8_readGuest_51 ?_
            refine zz_top (y := w.1.1) rfl ?_
            refine zz_top (y := nI n) hR.gy ?_
            refine lv_iconst (v := 4) hx hb dX8_readGuest_52 (by decide) ?_
            refine lv_icmp_ge (tgt := 73) hx hb dX8_readGuest_53 (by decide) (fun c_36 => ?_) (fun c_36 => ?_)
            · have c_36 : 4 ≤ n := (nI_leI (a := 4) (b := n) (by omega) (by omega)).mp c_36
              refine lv_iconst (v := 0) hx hb dX8_readGuest_73 (by decide) ?_
              refine wr_i (fun u => wj [[(b 0, .inr (5, [.int rf, .ref (b 1), .int (nI zs), .ref (b 2), .ref (b 3), .ref (b 4), .ref (b 5), .int ac, .ref (b 6), .ref (b 7), .int (nI (s0 + 1 + 1 + 1 + 1 + 1)), .int u]))], [(b 1, .inl (cy 0, 120, .inl tx))], mW cy (b 3) w]) (va_runV (As := [.int 0]) (rest := []) hF (c_X8_done l D cy b rf (nI zs) ac (nI (s0 + 1 + 1 + 1 + 1 + 1)) ou 0 H.size) (cwV 1 hts gX8_readGuest_X8_done rfl rfl rfl (by decide +kernel) ⟨Nat.le_of_ble_eq_true rfl, Nat.le_of_ble_eq_true rfl⟩) (wr_preV hK hP hD (zz_pick [[(b 0, .inr (5, [.int rf, .ref (b 1), .int (nI zs), .ref (b 2), .ref (b 3), .ref (b 4), .ref (b 5), .int ac, .ref (b 6), .ref (b 7), .int (nI (s0 + 1 + 1 + 1 + 1 + 1)), .int ou]))], [(b 1, .inl (cy 0, 120, .inl tx))], mW cy (b 3) w] [0] [1, 2] (show List.Perm ([0] ++ [1, 2]) (List.range 3) by decide) rfl rfl) 0 5 rfl rfl rfl) rfl rfl hl.1 rfl (lv_room (Nat.le_of_ble_eq_true rfl)) dX8_readGuest_74 ⟨Nat.le_of_ble_eq_true rfl, Nat.le_of_ble_eq_true rfl⟩) hP hD hS hA (zz_pick [[(b 0, .inr (5, [.int rf, .ref (b 1), .int (nI zs), .ref (b 2), .ref (b 3), .ref (b 4), .ref (b 5), .int ac, .ref (b 6), .ref (b 7), .int (nI (s0 + 1 + 1 + 1 + 1 + 1)), .int ou]))], [(b 1, .inl (cy 0, 120, .inl tx))], mW cy (b 3) w] [0] [1, 2] (show List.Perm ([0] ++ [1, 2]) (List.range 3) by decide) rfl rfl) (fun u => (zz_pick [[(b 0, .inr (5, [.int rf, .ref (b 1), .int (nI zs), .ref (b 2), .ref (b 3), .ref (b 4), .ref (b 5), .int ac, .ref (b 6), .ref (b 7), .int (nI (s0 + 1 + 1 + 1 + 1 + 1)), .int u]))], [(b 1, .inl (cy 0, 120, .inl tx))], mW cy (b 3) w] [0] [1, 2] (show List.Perm ([0] ++ [1, 2]) (List.range 3) by decide) rfl rfl)) (fun r_37 u_38 H locs e_39 hP hD hS => ?_)
              obtain ⟨rfl, e_39⟩ := e_39
              rw [if_pos (by decide)] at e_39
              obtain rfl : ou + 1 = u_38 := e_39.symm
              have hP : va_P D vwCl (wj [[(b 0, .inr (5, [.int rf, .ref (b 1), .int (nI zs), .ref (b 2), .ref (b 3), .ref (b 4), .ref (b 5), .int ac, .ref (b 6), .ref (b 7), .int (nI (s0 + 1 + 1 + 1 + 1 + 1)), .int (ou + 1)]))], [(b 1, .inl (cy 0, 120, .inl tx))], mW cy (b 3) w]) H := hP
              have hD : va_D A (wj [[(b 0, .inr (5, [.int rf, .ref (b 1), .int (nI zs), .ref (b 2), .ref (b 3), .ref (b 4), .ref (b 5), .int ac, .ref (b 6), .ref (b 7), .int (nI (s0 + 1 + 1 + 1 + 1 + 1)), .int (ou + 1)]))], [(b 1, .inl (cy 0, 120, .inl tx))], mW cy (b 3) w]) := hD
              refine lv_if_eq (tgt := 84) hx hb dX8_readGuest_77 (by decide) (fun c_40 => ?_) (fun c_40 => ?_)
              · exact absurd c_40 (by decide)
              · refine lv_iconst (v := 1) hx hb dX8_readGuest_80 (by decide) ?_
                refine lv_goto (tgt := 85) hx hb dX8_readGuest_81 (by decide) ?_
                exact hret _ _ H locs _ (s0 + 1 + 1 + 1 + 1 + 1, ou + 1, w) dX8_readGuest_85 hP hD hS ((rc_g hz hs hg hn hR o1 o2 o3 o4 hj1 hj2 hj3 hl4 hj4 e1 e2 e3 e4).2 (by omega))
            · have c_36 : ¬ 4 ≤ n := fun q => c_36 ((nI_leI (a := 4) (b := n) (by omega) (by omega)).mpr q)
              refine lv_aload_n hx hb dX8_readGuest_56 rfl (lv_at hl 5 rfl) ?_
              refine lv_iload_n hx hb dX8_readGuest_57 rfl (lv_at hl 3 rfl) ?_
              refine lv_iload_n hx hb dX8_readGuest_58 rfl (lv_at hl 2 rfl) ?_
              refine lv_iload hx hb dX8_readGuest_59 (lv_at hl 1 rfl) ?_
              refine lv_iload hx hb dX8_readGuest_61 (lv_at hl 0 rfl) ?_
              refine wr_i (fun u => wj [[(b 0, .inr (5, [.int rf, .ref (b 1), .int (nI zs), .ref (b 2), .ref (b 3), .ref (b 4), .ref (b 5), .int ac, .ref (b 6), .ref (b 7), .int (nI (s0 + 1 + 1 + 1 + 1 + 1)), .int ou]))], [(b 1, .inl (cy 0, 120, .inl tx))], mW cy (b 3) u]) (va_runS (As := [.ref (b 3), .int (nI j1), .int (nI j2), .int (nI j3), .int (nI j4)]) (rest := [.ref (b 0)]) hF (c_X8_comeOn l D cy (b 3) n hn w (hR.gy) H.size (by omega) (nI j1) (nI j2) (nI j3) (nI j4)) (va_cwS 5 hts gX8_readGuest_X8_comeOn rfl rfl rfl (by decide +kernel) ⟨Nat.le_of_ble_eq_true rfl, Nat.le_of_ble_eq_true rfl⟩) (wr_preS hK hP hD (zz_pick1 [[(b 0, .inr (5, [.int rf, .ref (b 1), .int (nI zs), .ref (b 2), .ref (b 3), .ref (b 4), .ref (b 5), .int ac, .ref (b 6), .ref (b 7), .int (nI (s0 + 1 + 1 + 1 + 1 + 1)), .int ou]))], [(b 1, .inl (cy 0, 120, .inl tx))], mW cy (b 3) w] 2 [0, 1] (show List.Perm ([2] ++ [0, 1]) (List.range 3) by decide) rfl rfl)) rfl rfl hl.1 rfl (lv_room (Nat.le_of_ble_eq_true rfl)) dX8_readGuest_63 ⟨Nat.le_of_ble_eq_true rfl, Nat.le_of_ble_eq_true rfl⟩) hP hD hS hA (zz_pick1 [[(b 0, .inr (5, [.int rf, .ref (b 1), .int (nI zs), .ref (b 2), .ref (b 3), .ref (b 4), .ref (b 5), .int ac, .ref (b 6), .ref (b 7), .int (nI (s0 + 1 + 1 + 1 + 1 + 1)), .int ou]))], [(b 1, .inl (cy 0, 120, .inl tx))], mW cy (b 3) w] 2 [0, 1] (show List.Perm ([2] ++ [0, 1]) (List.range 3) by decide) rfl rfl) (fun u => (zz_pick1 [[(b 0, .inr (5, [.int rf, .ref (b 1), .int (nI zs), .ref (b 2), .ref (b 3), .ref (b 4), .ref (b 5), .int ac, .ref (b 6), .ref (b 7), .int (nI (s0 + 1 + 1 + 1 + 1 + 1)), .int ou]))], [(b 1, .inl (cy 0, 120, .inl tx))], mW cy (b 3) u] 2 [0, 1] (show List.Perm ([2] ++ [0, 1]) (List.range 3) by decide) rfl rfl)) (fun r_41 u_42 H locs e_43 hP hD hS => ?_)
              obtain ⟨rfl, rfl⟩ := e_43
              have hP : va_P D vwCl (wj [[(b 0, .inr (5, [.int rf, .ref (b 1), .int (nI zs), .ref (b 2), .ref (b 3), .ref (b 4), .ref (b 5), .int ac, .ref (b 6), .ref (b 7), .int (nI (s0 + 1 + 1 + 1 + 1 + 1)), .int ou]))], [(b 1, .inl (cy 0, 120, .inl tx))], mW cy (b 3) (hCome n (nI j1) (nI j2) (nI j3) (nI j4) w)]) H := hP
              have hD : va_D A (wj [[(b 0, .inr (5, [.int rf, .ref (b 1), .int (nI zs), .ref (b 2), .ref (b 3), .ref (b 4), .ref (b 5), .int ac, .ref (b 6), .ref (b 7), .int (nI (s0 + 1 + 1 + 1 + 1 + 1)), .int ou]))], [(b 1, .inl (cy 0, 120, .inl tx))], mW cy (b 3) (hCome n (nI j1) (nI j2) (nI j3) (nI j4) w)]) := hD
              refine lv_if_lt (tgt := 73) hx hb dX8_readGuest_66 (by decide) (fun c_44 => ?_) (fun c_44 => ?_)
              · have c_44 : n < 0 := (nI_ltI (a := n) (b := 0) (by omega) (by omega)).mp c_44
                exact absurd c_44 (Nat.not_lt_zero _)
              · have c_44 : ¬ n < 0 := fun q => c_44 ((nI_ltI (a := n) (b := 0) (by omega) (by omega)).mpr q)
                refine lv_iconst (v := 1) hx hb dX8_readGuest_69 (by decide) ?_
                refine lv_goto (tgt := 74) hx hb dX8_readGuest_70 (by decide) ?_
                refine wr_i (fun u => wj [[(b 0, .inr (5, [.int rf, .ref (b 1), .int (nI zs), .ref (b 2), .ref (b 3), .ref (b 4), .ref (b 5), .int ac, .ref (b 6), .ref (b 7), .int (nI (s0 + 1 + 1 + 1 + 1 + 1)), .int u]))], [(b 1, .inl (cy 0, 120, .inl tx))], mW cy (b 3) (hCome n (nI j1) (nI j2) (nI j3) (nI j4) w)]) (va_runV (As := [.int 1]) (rest := []) hF (c_X8_done l D cy b rf (nI zs) ac (nI (s0 + 1 + 1 + 1 + 1 + 1)) ou 1 H.size) (cwV 1 hts gX8_readGuest_X8_done rfl rfl rfl (by decide +kernel) ⟨Nat.le_of_ble_eq_true rfl, Nat.le_of_ble_eq_true rfl⟩) (wr_preV hK hP hD (zz_pick [[(b 0, .inr (5, [.int rf, .ref (b 1), .int (nI zs), .ref (b 2), .ref (b 3), .ref (b 4), .ref (b 5), .int ac, .ref (b 6), .ref (b 7), .int (nI (s0 + 1 + 1 + 1 + 1 + 1)), .int ou]))], [(b 1, .inl (cy 0, 120, .inl tx))], mW cy (b 3) (hCome n (nI j1) (nI j2) (nI j3) (nI j4) w)] [0] [1, 2] (show List.Perm ([0] ++ [1, 2]) (List.range 3) by decide) rfl rfl) 0 5 rfl rfl rfl) rfl rfl hl.1 rfl (lv_room (Nat.le_of_ble_eq_true rfl)) dX8_readGuest_74 ⟨Nat.le_of_ble_eq_true rfl, Nat.le_of_ble_eq_true rfl⟩) hP hD hS hA (zz_pick [[(b 0, .inr (5, [.int rf, .ref (b 1), .int (nI zs), .ref (b 2), .ref (b 3), .ref (b 4), .ref (b 5), .int ac, .ref (b 6), .ref (b 7), .int (nI (s0 + 1 + 1 + 1 + 1 + 1)), .int ou]))], [(b 1, .inl (cy 0, 120, .inl tx))], mW cy (b 3) (hCome n (nI j1) (nI j2) (nI j3) (nI j4) w)] [0] [1, 2] (show List.Perm ([0] ++ [1, 2]) (List.range 3) by decide) rfl rfl) (fun u => (zz_pick [[(b 0, .inr (5, [.int rf, .ref (b 1), .int (nI zs), .ref (b 2), .ref (b 3), .ref (b 4), .ref (b 5), .int ac, .ref (b 6), .ref (b 7), .int (nI (s0 + 1 + 1 + 1 + 1 + 1)), .int u]))], [(b 1, .inl (cy 0, 120, .inl tx))], mW cy (b 3) (hCome n (nI j1) (nI j2) (nI j3) (nI j4) w)] [0] [1, 2] (show List.Perm ([0] ++ [1, 2]) (List.range 3) by decide) rfl rfl)) (fun r_45 u_46 H locs e_47 hP hD hS => ?_)
                obtain ⟨rfl, e_47⟩ := e_47
                rw [if_neg (by decide)] at e_47
                obtain rfl : ou = u_46 := e_47.symm
                have hP : va_P D vwCl (wj [[(b 0, .inr (5, [.int rf, .ref (b 1), .int (nI zs), .ref (b 2), .ref (b 3), .ref (b 4), .ref (b 5), .int ac, .ref (b 6), .ref (b 7), .int (nI (s0 + 1 + 1 + 1 + 1 + 1)), .int ou]))], [(b 1, .inl (cy 0, 120, .inl tx))], mW cy (b 3) (hCome n (nI j1) (nI j2) (nI j3) (nI j4) w)]) H := hP
                have hD : va_D A (wj [[(b 0, .inr (5, [.int rf, .ref (b 1), .int (nI zs), .ref (b 2), .ref (b 3), .ref (b 4), .ref (b 5), .int ac, .ref (b 6), .ref (b 7), .int (nI (s0 + 1 + 1 + 1 + 1 + 1)), .int ou]))], [(b 1, .inl (cy 0, 120, .inl tx))], mW cy (b 3) (hCome n (nI j1) (nI j2) (nI j3) (nI j4) w)]) := hD
                refine lv_if_eq (tgt := 84) hx hb dX8_readGuest_77 (by decide) (fun c_48 => ?_) (fun c_48 => ?_)
                · exact absurd c_48 (by decide)
                · refine lv_iconst (v := 1) hx hb dX8_readGuest_80 (by decide) ?_
                  refine lv_goto (tgt := 85) hx hb dX8_readGuest_81 (by decide) ?_
                  exact hret _ _ H locs _ (s0 + 1 + 1 + 1 + 1 + 1, ou, (hCome n (nI j1) (nI j2) (nI j3) (nI j4) w)) dX8_readGuest_85 hP hD hS ((rc_g hz hs hg hn hR o1 o2 o3 o4 hj1 hj2 hj3 hl4 hj4 e1 e2 e3 e4).1 (by omega))
abbrev rm_X8_readCommand : Room := { frames := 6, cells := 0, slots := 0, locals := 143 }
set_option maxHeartbeats 4000000 in
set_option maxRecDepth 100000 in
theorem c_X8_readCommand (l : Launch) (D : va_G) (cy : Nat → ClassId) (b : Nat → Nat) (rf ac ou : Int32) (tx : Nat → Int32) (zs s0 : Nat) (ht : okT zs tx) (n : Nat) (hn : n ≤ 4) (x w : HS) (hR : RelN n x w) (hs : s0 < zs) (y4 : HS) (sz : Nat) : Met l yX8_readCommand wsX8_readCommand rm_X8_readCommand (wrP D cy [.ref (b 0), .ref (b 3)] (wj [[(b 0, .inr (5, [.int rf, .ref (b 1), .int (nI zs), .ref (b 2), .ref (b 3), .ref (b 4), .ref (b 5), .int ac, .ref (b 6), .ref (b 7), .int (nI s0), .int ou]))], [(b 1, .inl (cy 0, 120, .inl tx))], mW cy (b 3) w, mW cy (b 4) y4]) sz) (va_Qi (fun (r : Int32) (u : (Nat × Int32 × HS) × HS) => RcP zs tx s0 x ou r u.1) (wrB D (va_A (wj [[(b 0, .inr (5, [.int rf, .ref (b 1), .int (nI zs), .ref (b 2), .ref (b 3), .ref (b 4), .ref (b 5), .int ac, .ref (b 6), .ref (b 7), .int (nI s0), .int ou]))], [(b 1, .inl (cy 0, 120, .inl tx))], mW cy (b 3) w, mW cy (b 4) y4]) sz) (fun u => wj [[(b 0, .inr (5, [.int rf, .ref (b 1), .int (nI zs), .ref (b 2), .ref (b 3), .ref (b 4), .ref (b 5), .int ac, .ref (b 6), .ref (b 7), .int (nI u.1.1), .int u.1.2.1]))], [(b 1, .inl (cy 0, 120, .inl tx))], mW cy (b 3) u.1.2.2, mW cy (b 4) u.2])) (va_A (wj [[(b 0, .inr (5, [.int rf, .ref (b 1), .int (nI zs), .ref (b 2), .ref (b 3), .ref (b 4), .ref (b 5), .int ac, .ref (b 6), .ref (b 7), .int (nI s0), .int ou]))], [(b 1, .inl (cy 0, 120, .inl tx))], mW cy (b 3) w, mW cy (b 4) y4]) sz)) 0 0 (va_A (wj [[(b 0, .inr (5, [.int rf, .ref (b 1), .int (nI zs), .ref (b 2), .ref (b 3), .ref (b 4), .ref (b 5), .int ac, .ref (b 6), .ref (b 7), .int (nI s0), .int ou]))], [(b 1, .inl (cy 0, 120, .inl tx))], mW cy (b 3) w, mW cy (b 4) y4]) sz) := by
  have hz := ht.1
  refine Mwi (cc := cX8_readCommand) (maxL := 5) (ty := .boolean) (by decide) rfl (Nat.le_of_ble_eq_true rfl) (fun _ _ q => rc_nar q) ?_
  intro p e s m args below meth c Q ls A hsz hF hK hP hD hA hl hret
  obtain ⟨hx, hb, hml, hown, hts⟩ := id hF
  have hown : s.vm.findClass RX8 = some m.cls := hown
  have hin_X8 : ∀ w ∈ u_ws RX8 TX8 12, w ∈ wsX8_readCommand := by decide +kernel
  have hl : lv_has ls 5 [(0, .ref (b 0)), (1, .ref (b 3))] := hl
  suffices key : ∀ (H : Heap) (locs : List Loc), va_P D vwCl (wj [[(b 0, .inr (5, [.int rf, .ref (b 1), .int (nI zs), .ref (b 2), .ref (b 3), .ref (b 4), .ref (b 5), .int ac, .ref (b 6), .ref (b 7), .int (nI s0), .int ou]))], [(b 1, .inl (cy 0, 120, .inl tx))], mW cy (b 3) w, mW cy (b 4) y4]) H → va_D A (wj [[(b 0, .inr (5, [.int rf, .ref (b 1), .int (nI zs), .ref (b 2), .ref (b 3), .ref (b 4), .ref (b 5), .int ac, .ref (b 6), .ref (b 7), .int (nI s0), .int ou]))], [(b 1, .inl (cy 0, 120, .inl tx))], mW cy (b 3) w, mW cy (b 4) y4]) → va_S A s.heap H locs → W p l e rm_X8_readCommand s m args below meth c H locs 0 0 Q (F0 m 0 ls []) from key s.heap [] hP hD va_S.rf
  intro H locs hP hD hS
  refine lv_aload_n hx hb dX8_readCommand_0 rfl (lv_at hl 0 rfl) ?_
  refine va_get (ci := 5) (v := .ref (b 1)) (C := RX8) (T := TX8) (N := 12) hx hb hts hin_X8 hown hK hP 0 rfl rfl 1 (by decide) (hts (.fieldLink RX8 7 "ButtonGuestsModel" "text" "[I") (by decide +kernel)) (fun _ h9 => h9) rfl dX8_readCommand_1 ?_
  refine lv_aload_n hx hb dX8_readCommand_4 rfl (lv_at hl 0 rfl) ?_
  refine va_get (ci := 5) (v := .int (nI s0)) (C := RX8) (T := TX8) (N := 12) hx hb hts hin_X8 hown hK hP 0 rfl rfl 10 (by decide) (hts (.fieldLink RX8 112 "ButtonGuestsModel" "spot" "I") (by decide +kernel)) (fun _ h9 => h9) rfl dX8_readCommand_5 ?_
  refine zz_iald hx hb hK hP 1 0 s0 rfl rfl rfl ⟨by omega, Nat.le_of_ble_eq_true rfl⟩ dX8_readCommand_8 ?_
  refine lv_istore_n (lv' := [(2, .int (tx s0)), (0, .ref (b 0)), (1, .ref (b 3))]) hx hb dX8_readCommand_9 rfl hl (by decide) rfl (fun ls hl => ?_)
  refine lv_aload_n hx hb dX8_readCommand_10 rfl (lv_at hl 1 rfl) ?_
  refine lv_dup hx hb dX8_readCommand_11 rfl ?_
  refine va_get (ci := 5) (v := .int (nI s0)) (C := RX8) (T := TX8) (N := 12) hx hb hts hin_X8 hown hK hP 0 rfl rfl 10 (by decide) (hts (.fieldLink RX8 112 "ButtonGuestsModel" "spot" "I") (by decide +kernel)) (fun _ h9 => h9) rfl dX8_readCommand_12 ?_
  refine lv_iconst (v := 1) hx hb dX8_readCommand_15 (by decide) ?_
  refine lv_iadd hx hb dX8_readCommand_16 ?_
  refine zz_top (y := nI (s0 + 1)) (nI_add _ _) ?_
  refine va_put (ci := 5) (v := .int (nI (s0 + 1))) (ty := .int) (C := RX8) (T := TX8) (N := 12) hx hb hts hin_X8 tyX8 tyX8_ok nmX8 hown hK hP hD hS 0 rfl rfl 10 (by decide) (hts (.fieldLink RX8 112 "ButtonGuestsModel" "spot" "I") (by decide +kernel)) (fun _ h9 => h9) rfl (by decide +kernel) rfl rfl (Nat.le_of_ble_eq_true rfl) dX8_readCommand_17 (fun H locs hP hD hS => ?_)
  have hP : va_P D vwCl (wj [[(b 0, .inr (5, [.int rf, .ref (b 1), .int (nI zs), .ref (b 2), .ref (b 3), .ref (b 4), .ref (b 5), .int ac, .ref (b 6), .ref (b 7), .int (nI (s0 + 1)), .int ou]))], [(b 1, .inl (cy 0, 120, .inl tx))], mW cy (b 3) w, mW cy (b 4) y4]) H := hP
  have hD : va_D A (wj [[(b 0, .inr (5, [.int rf, .ref (b 1), .int (nI zs), .ref (b 2), .ref (b 3), .ref (b 4), .ref (b 5), .int ac, .ref (b 6), .ref (b 7), .int (nI (s0 + 1)), .int ou]))], [(b 1, .inl (cy 0, 120, .inl tx))], mW cy (b 3) w, mW cy (b 4) y4]) := hD
  have hsg := sign_at (f := tx) ht.1 hs
  refine lv_iload_n hx hb dX8_readCommand_20 rfl (lv_at hl 0 rfl) ?_
  by_cases c_1 : tx s0 = 98
  · refine lv_tableIn (off := 273) (tgt := 294) hx hb dX8_readCommand_21 (by rw [c_1]; decide) (by rw [c_1]; decide) (by rw [c_1]; rfl) (by decide) ?_
    refine lv_aload_n hx hb dX8_readCommand_294 rfl (lv_at hl 1 rfl) ?_
    refine lv_aload_n hx hb dX8_readCommand_295 rfl (lv_at hl 2 rfl) ?_
    refine wr_i (fun u => wj [[(b 0, .inr (5, [.int rf, .ref (b 1), .int (nI zs), .ref (b 2), .ref (b 3), .ref (b 4), .ref (b 5), .int ac, .ref (b 6), .ref (b 7), .int (nI (s0 + 1)), .int ou]))], [(b 1, .inl (cy 0, 120, .inl tx))], mW cy (b 3) w, mW cy (b 4) u]) (va_runV (As := [.ref (b 3)]) (rest := []) hF (c_X8_fewestRow l D cy b (b 3) rf (nI zs) ac (nI (s0 + 1)) ou n hn x w y4 hR H.size) (cwV 1 hts gX8_readCommand_X8_fewestRow rfl rfl rfl (by decide +kernel) ⟨Nat.le_of_ble_eq_true rfl, Nat.le_of_ble_eq_true rfl⟩) (wr_preV hK hP hD (zz_pick [[(b 0, .inr (5, [.int rf, .ref (b 1), .int (nI zs), .ref (b 2), .ref (b 3), .ref (b 4), .ref (b 5), .int ac, .ref (b 6), .ref (b 7), .int (nI (s0 + 1)), .int ou]))], [(b 1, .inl (cy 0, 120, .inl tx))], mW cy (b 3) w, mW cy (b 4) y4] [0, 3, 2] [1] (show List.Perm ([0, 3, 2] ++ [1]) (List.range 4) by decide) rfl rfl) 0 5 rfl rfl rfl) rfl rfl hl.1 rfl (lv_room (Nat.le_of_ble_eq_true rfl)) dX8_readCommand_296 ⟨Nat.le_of_ble_eq_true rfl, Nat.le_of_ble_eq_true rfl⟩) hP hD hS hA (zz_pick [[(b 0, .inr (5, [.int rf, .ref (b 1), .int (nI zs), .ref (b 2), .ref (b 3), .ref (b 4), .ref (b 5), .int ac, .ref (b 6), .ref (b 7), .int (nI (s0 + 1)), .int ou]))], [(b 1, .inl (cy 0, 120, .inl tx))], mW cy (b 3) w, mW cy (b 4) y4] [0, 3, 2] [1] (show List.Perm ([0, 3, 2] ++ [1]) (List.range 4) by decide) rfl rfl) (fun u => (zz_pick [[(b 0, .inr (5, [.int rf, .ref (b 1), .int (nI zs), .ref (b 2), .ref (b 3), .ref (b 4), .ref (b 5), .int ac, .ref (b 6), .ref (b 7), .int (nI (s0 + 1)), .int ou]))], [(b 1, .inl (cy 0, 120, .inl tx))], mW cy (b 3) w, mW cy (b 4) u] [0, 3, 2] [1] (show List.Perm ([0, 3, 2] ++ [1]) (List.range 4) by decide) rfl rfl)) (fun r_2 u_3 H locs e_4 hP hD hS => ?_)
    subst e_4
    have hP : va_P D vwCl (wj [[(b 0, .inr (5, [.int rf, .ref (b 1), .int (nI zs), .ref (b 2), .ref (b 3), .ref (b 4), .ref (b 5), .int ac, .ref (b 6), .ref (b 7), .int (nI (s0 + 1)), .int ou]))], [(b 1, .inl (cy 0, 120, .inl tx))], mW cy (b 3) w, mW cy (b 4) u_3]) H := hP
    have hD : va_D A (wj [[(b 0, .inr (5, [.int rf, .ref (b 1), .int (nI zs), .ref (b 2), .ref (b 3), .ref (b 4), .ref (b 5), .int ac, .ref (b 6), .ref (b 7), .int (nI (s0 + 1)), .int ou]))], [(b 1, .inl (cy 0, 120, .inl tx))], mW cy (b 3) w, mW cy (b 4) u_3]) := hD
    refine rd_S (As := [.int (mTold n x)]) (rest := []) hF (c_X8_bestOf l D cy (mTold n x)) (va_cwS 1 hts gX8_readCommand_X8_bestOf rfl rfl rfl (by decide +kernel) ⟨Nat.le_of_ble_eq_true rfl, Nat.le_of_ble_eq_true rfl⟩) hK (fun k q h => by simp at h) rfl hl.1 rfl (Nat.le_of_ble_eq_true rfl) dX8_readCommand_299 ⟨Nat.le_of_ble_eq_true rfl, Nat.le_of_ble_eq_true rfl⟩ ?_
    refine zz_top (y := hBst n x) (told_few hn).2 ?_
    refine lv_istore_n (lv' := [(3, .int (hBst n x)), (2, .int (tx s0)), (0, .ref (b 0)), (1, .ref (b 3))]) hx hb dX8_readCommand_302 rfl hl (by decide) rfl (fun ls hl => ?_)
    refine lv_iload_n hx hb dX8_readCommand_303 rfl (lv_at hl 0 rfl) ?_
    refine lv_iconst (v := (-1)) hx hb dX8_readCommand_304 (by decide) ?_
    refine lv_icmp_eq (tgt := 314) hx hb dX8_readCommand_305 (by decide) (fun c_5 => ?_) (fun c_5 => ?_)
    · have c_5 : (hBst n x) = ((-1)) := c_5
      refine lv_iconst (v := 1) hx hb dX8_readCommand_314 (by decide) ?_
      exact hret _ _ H locs _ ((s0 + 1, ou, w), u_3) dX8_readCommand_315 hP hD hS ((rc_b hs (hsg.trans c_1) hn hR).2 c_5)
    · have c_5 : ¬ (hBst n x) = ((-1)) := c_5
      obtain ⟨g9, hg9, eb, hre⟩ := best_will c_5
      refine lv_aload_n hx hb dX8_readCommand_308 rfl (lv_at hl 3 rfl) ?_
      refine lv_iload_n hx hb dX8_readCommand_309 rfl (lv_at hl 0 rfl) ?_
      refine zz_top (y := nI g9) eb ?_
      refine wr_i (fun u => wj [[(b 0, .inr (5, [.int rf, .ref (b 1), .int (nI zs), .ref (b 2), .ref (b 3), .ref (b 4), .ref (b 5), .int ac, .ref (b 6), .ref (b 7), .int (nI (s0 + 1)), .int ou]))], [(b 1, .inl (cy 0, 120, .inl tx))], mW cy (b 3) u, mW cy (b 4) u_3]) (va_runS (As := [.ref (b 3), .int (nI g9)]) (rest := []) hF (c_X8_pressOn l D cy (b 3) n hn w (hR.gy) H.size g9 (by omega) (hR.bu (by omega)) hR.fl) (va_cwS 2 hts gX8_readCommand_X8_pressOn rfl rfl rfl (by decide +kernel) ⟨Nat.le_of_ble_eq_true rfl, Nat.le_of_ble_eq_true rfl⟩) (wr_preS hK hP hD (zz_pick1 [[(b 0, .inr (5, [.int rf, .ref (b 1), .int (nI zs), .ref (b 2), .ref (b 3), .ref (b 4), .ref (b 5), .int ac, .ref (b 6), .ref (b 7), .int (nI (s0 + 1)), .int ou]))], [(b 1, .inl (cy 0, 120, .inl tx))], mW cy (b 3) w, mW cy (b 4) u_3] 2 [0, 1, 3] (show List.Perm ([2] ++ [0, 1, 3]) (List.range 4) by decide) rfl rfl)) rfl rfl hl.1 rfl (lv_room (Nat.le_of_ble_eq_true rfl)) dX8_readCommand_310 ⟨Nat.le_of_ble_eq_true rfl, Nat.le_of_ble_eq_true rfl⟩) hP hD hS hA (zz_pick1 [[(b 0, .inr (5, [.int rf, .ref (b 1), .int (nI zs), .ref (b 2), .ref (b 3), .ref (b 4), .ref (b 5), .int ac, .ref (b 6), .ref (b 7), .int (nI (s0 + 1)), .int ou]))], [(b 1, .inl (cy 0, 120, .inl tx))], mW cy (b 3) w, mW cy (b 4) u_3] 2 [0, 1, 3] (show List.Perm ([2] ++ [0, 1, 3]) (List.range 4) by decide) rfl rfl) (fun u => (zz_pick1 [[(b 0, .inr (5, [.int rf, .ref (b 1), .int (nI zs), .ref (b 2), .ref (b 3), .ref (b 4), .ref (b 5), .int ac, .ref (b 6), .ref (b 7), .int (nI (s0 + 1)), .int ou]))], [(b 1, .inl (cy 0, 120, .inl tx))], mW cy (b 3) u, mW cy (b 4) u_3] 2 [0, 1, 3] (show List.Perm ([2] ++ [0, 1, 3]) (List.range 4) by decide) rfl rfl)) (fun r_6 u_7 H locs e_8 hP hD hS => ?_)
      obtain ⟨rfl, rfl⟩ := e_8
      have hP : va_P D vwCl (wj [[(b 0, .inr (5, [.int rf, .ref (b 1), .int (nI zs), .ref (b 2), .ref (b 3), .ref (b 4), .ref (b 5), .int ac, .ref (b 6), .ref (b 7), .int (nI (s0 + 1)), .int ou]))], [(b 1, .inl (cy 0, 120, .inl tx))], mW cy (b 3) (mPress n g9 w), mW cy (b 4) u_3]) H := hP
      have hD : va_D A (wj [[(b 0, .inr (5, [.int rf, .ref (b 1), .int (nI zs), .ref (b 2), .ref (b 3), .ref (b 4), .ref (b 5), .int ac, .ref (b 6), .ref (b 7), .int (nI (s0 + 1)), .int ou]))], [(b 1, .inl (cy 0, 120, .inl tx))], mW cy (b 3) (mPress n g9 w), mW cy (b 4) u_3]) := hD
      refine lv_pop hx hb dX8_readCommand_313 rfl ?_
      refine lv_iconst (v := 1) hx hb dX8_readCommand_314 (by decide) ?_
      exact hret _ _ H locs _ ((s0 + 1, ou, (mPress n g9 w)), u_3) dX8_readCommand_315 hP hD hS ((rc_b hs (hsg.trans c_1) hn hR).1 g9 hg9 eb hre)
  by_cases c_9 : tx s0 = 99
  · refine lv_tableIn (off := 295) (tgt := 316) hx hb dX8_readCommand_21 (by rw [c_9]; decide) (by rw [c_9]; decide) (by rw [c_9]; rfl) (by decide) ?_
    refine lv_aload_n hx hb dX8_readCommand_316 rfl (lv_at hl 1 rfl) ?_
    refine lv_dup hx hb dX8_readCommand_317 rfl ?_
    refine va_get (ci := 5) (v := .int (nI (s0 + 1))) (C := RX8) (T := TX8) (N := 12) hx hb hts hin_X8 hown hK hP 0 rfl rfl 10 (by decide) (hts (.fieldLink RX8 112 "ButtonGuestsModel" "spot" "I") (by decide +kernel)) (fun _ h9 => h9) rfl dX8_readCommand_318 ?_
    refine lv_iconst (v := 1) hx hb dX8_readCommand_321 (by decide) ?_
    refine lv_isub hx hb dX8_readCommand_322 ?_
    refine zz_top (y := nI s0) (nI_pred s0) ?_
    refine va_put (ci := 5) (v := .int (nI s0)) (ty := .int) (C := RX8) (T := TX8) (N := 12) hx hb hts hin_X8 tyX8 tyX8_ok nmX8 hown hK hP hD hS 0 rfl rfl 10 (by decide) (hts (.fieldLink RX8 112 "ButtonGuestsModel" "spot" "I") (by decide +kernel)) (fun _ h9 => h9) rfl (by decide +kernel) rfl rfl (Nat.le_of_ble_eq_true rfl) dX8_readCommand_323 (fun H locs hP hD hS => ?_)
    have hP : va_P D vwCl (wj [[(b 0, .inr (5, [.int rf, .ref (b 1), .int (nI zs), .ref (b 2), .ref (b 3), .ref (b 4), .ref (b 5), .int ac, .ref (b 6), .ref (b 7), .int (nI s0), .int ou]))], [(b 1, .inl (cy 0, 120, .inl tx))], mW cy (b 3) w, mW cy (b 4) y4]) H := hP
    have hD : va_D A (wj [[(b 0, .inr (5, [.int rf, .ref (b 1), .int (nI zs), .ref (b 2), .ref (b 3), .ref (b 4), .ref (b 5), .int ac, .ref (b 6), .ref (b 7), .int (nI s0), .int ou]))], [(b 1, .inl (cy 0, 120, .inl tx))], mW cy (b 3) w, mW cy (b 4) y4]) := hD
    refine lv_iconst (v := 0) hx hb dX8_readCommand_326 (by decide) ?_
    exact hret _ _ H locs _ ((s0, ou, w), y4) dX8_readCommand_327 hP hD hS (rc_bad hz hs (by rw [hsg, c_9]; decide))
  by_cases c_10 : tx s0 = 100
  · refine lv_tableIn (off := 295) (tgt := 316) hx hb dX8_readCommand_21 (by rw [c_10]; decide) (by rw [c_10]; decide) (by rw [c_10]; rfl) (by decide) ?_
    refine lv_aload_n hx hb dX8_readCommand_316 rfl (lv_at hl 1 rfl) ?_
    refine lv_dup hx hb dX8_readCommand_317 rfl ?_
    refine va_get (ci := 5) (v := .int (nI (s0 + 1))) (C := RX8) (T := TX8) (N := 12) hx hb hts hin_X8 hown hK hP 0 rfl rfl 10 (by decide) (hts (.fieldLink RX8 112 "ButtonGuestsModel" "spot" "I") (by decide +kernel)) (fun _ h9 => h9) rfl dX8_readCommand_318 ?_
    refine lv_iconst (v := 1) hx hb dX8_readCommand_321 (by decide) ?_
    refine lv_isub hx hb dX8_readCommand_322 ?_
    refine zz_top (y := nI s0) (nI_pred s0) ?_
    refine va_put (ci := 5) (v := .int (nI s0)) (ty := .int) (C := RX8) (T := TX8) (N := 12) hx hb hts hin_X8 tyX8 tyX8_ok nmX8 hown hK hP hD hS 0 rfl rfl 10 (by decide) (hts (.fieldLink RX8 112 "ButtonGuestsModel" "spot" "I") (by decide +kernel)) (fun _ h9 => h9) rfl (by decide +kernel) rfl rfl (Nat.le_of_ble_eq_true rfl) dX8_readCommand_323 (fun H locs hP hD hS => ?_)
    have hP : va_P D vwCl (wj [[(b 0, .inr (5, [.int rf, .ref (b 1), .int (nI zs), .ref (b 2), .ref (b 3), .ref (b 4), .ref (b 5), .int ac, .ref (b 6), .ref (b 7), .int (nI s0), .int ou]))], [(b 1, .inl (cy 0, 120, .inl tx))], mW cy (b 3) w, mW cy (b 4) y4]) H := hP
    have hD : va_D A (wj [[(b 0, .inr (5, [.int rf, .ref (b 1), .int (nI zs), .ref (b 2), .ref (b 3), .ref (b 4), .ref (b 5), .int ac, .ref (b 6), .ref (b 7), .int (nI s0), .int ou]))], [(b 1, .inl (cy 0, 120, .inl tx))], mW cy (b 3) w, mW cy (b 4) y4]) := hD
    refine lv_iconst (v := 0) hx hb dX8_readCommand_326 (by decide) ?_
    exact hret _ _ H locs _ ((s0, ou, w), y4) dX8_readCommand_327 hP hD hS (rc_bad hz hs (by rw [hsg, c_10]; decide))
  by_cases c_11 : tx s0 = 101
  · refine lv_tableIn (off := 210) (tgt := 231) hx hb dX8_readCommand_21 (by rw [c_11]; decide) (by rw [c_11]; decide) (by rw [c_11]; rfl) (by decide) ?_
    refine lv_aload_n hx hb dX8_readCommand_231 rfl (lv_at hl 1 rfl) ?_
    refine lv_iconst (v := 0) hx hb dX8_readCommand_232 (by decide) ?_
    refine lv_iconst (v := 1) hx hb dX8_readCommand_233 (by decide) ?_
    refine lv_iconst (v := 0) hx hb dX8_readCommand_234 (by decide) ?_
    refine lv_iconst (v := 2) hx hb dX8_readCommand_235 (by decide) ?_
    refine wr_i (fun u => wj [[(b 0, .inr (5, [.int rf, .ref (b 1), .int (nI zs), .ref (b 2), .ref (b 3), .ref (b 4), .ref (b 5), .int ac, .ref (b 6), .ref (b 7), .int (nI u), .int ou]))], [(b 1, .inl (cy 0, 120, .inl tx))], mW cy (b 3) w, mW cy (b 4) y4]) (va_runV (As := [.int 0, .int 1, .int 0, .int 2]) (rest := []) hF (c_X8_figures_1 l D cy b rf ac ou tx zs (s0 + 1) ht (by omega) 0 0 2 (by decide) (by decide) H.size) (cwV 4 hts gX8_readCommand_X8_figures rfl rfl rfl (by decide +kernel) ⟨Nat.le_of_ble_eq_true rfl, Nat.le_of_ble_eq_true rfl⟩) (wr_preV hK hP hD (zz_pick [[(b 0, .inr (5, [.int rf, .ref (b 1), .int (nI zs), .ref (b 2), .ref (b 3), .ref (b 4), .ref (b 5), .int ac, .ref (b 6), .ref (b 7), .int (nI (s0 + 1)), .int ou]))], [(b 1, .inl (cy 0, 120, .inl tx))], mW cy (b 3) w, mW cy (b 4) y4] [0, 1] [2, 3] (show List.Perm ([0, 1] ++ [2, 3]) (List.range 4) by decide) rfl rfl) 0 5 rfl rfl rfl) rfl rfl hl.1 rfl (lv_room (Nat.le_of_ble_eq_true rfl)) dX8_readCommand_236 ⟨Nat.le_of_ble_eq_true rfl, Nat.le_of_ble_eq_true rfl⟩) hP hD hS hA (zz_pick [[(b 0, .inr (5, [.int rf, .ref (b 1), .int (nI zs), .ref (b 2), .ref (b 3), .ref (b 4), .ref (b 5), .int ac, .ref (b 6), .ref (b 7), .int (nI (s0 + 1)), .int ou]))], [(b 1, .inl (cy 0, 120, .inl tx))], mW cy (b 3) w, mW cy (b 4) y4] [0, 1] [2, 3] (show List.Perm ([0, 1] ++ [2, 3]) (List.range 4) by decide) rfl rfl) (fun u => (zz_pick [[(b 0, .inr (5, [.int rf, .ref (b 1), .int (nI zs), .ref (b 2), .ref (b 3), .ref (b 4), .ref (b 5), .int ac, .ref (b 6), .ref (b 7), .int (nI u), .int ou]))], [(b 1, .inl (cy 0, 120, .inl tx))], mW cy (b 3) w, mW cy (b 4) y4] [0, 1] [2, 3] (show List.Perm ([0, 1] ++ [2, 3]) (List.range 4) by decide) rfl rfl)) (fun r_12 u_13 H locs e_14 hP hD hS => ?_)
    rcases e_14 with ⟨rfl, rfl, o1⟩ | ⟨-, o1, rfl, rfl⟩
    · replace o1 := o1.resolve_left (by decide)
      have hP : va_P D vwCl (wj [[(b 0, .inr (5, [.int rf, .ref (b 1), .int (nI zs), .ref (b 2), .ref (b 3), .ref (b 4), .ref (b 5), .int ac, .ref (b 6), .ref (b 7), .int (nI (s0 + 1)), .int ou]))], [(b 1, .inl (cy 0, 120, .inl tx))], mW cy (b 3) w, mW cy (b 4) y4]) H := hP
      have hD : va_D A (wj [[(b 0, .inr (5, [.int rf, .ref (b 1), .int (nI zs), .ref (b 2), .ref (b 3), .ref (b 4), .ref (b 5), .int ac, .ref (b 6), .ref (b 7), .int (nI (s0 + 1)), .int ou]))], [(b 1, .inl (cy 0, 120, .inl tx))], mW cy (b 3) w, mW cy (b 4) y4]) := hD
      refine lv_istore_n (lv' := [(3, .int ((-1))), (2, .int (tx s0)), (0, .ref (b 0)), (1, .ref (b 3))]) hx hb dX8_readCommand_239 rfl hl (by decide) rfl (fun ls hl => ?_)
      refine lv_aload_n hx hb dX8_readCommand_240 rfl (lv_at hl 2 rfl) ?_
      refine lv_iload_n hx hb dX8_readCommand_241 rfl (lv_at hl 0 rfl) ?_
      refine lv_iconst (v := 2) hx hb dX8_readCommand_242 (by decide) ?_
      refine lv_iconst (v := 0) hx hb dX8_readCommand_243 (by decide) ?_
      refine lv_bipush (v := 16) hx hb dX8_readCommand_244 (by decide) ?_
      refine wr_i (fun u => wj [[(b 0, .inr (5, [.int rf, .ref (b 1), .int (nI zs), .ref (b 2), .ref (b 3), .ref (b 4), .ref (b 5), .int ac, .ref (b 6), .ref (b 7), .int (nI u), .int ou]))], [(b 1, .inl (cy 0, 120, .inl tx))], mW cy (b 3) w, mW cy (b 4) y4]) (va_runV (As := [.int ((-1)), .int 2, .int 0, .int 16]) (rest := []) hF (c_X8_figures_2 l D cy b rf ac ou tx zs (s0 + 1) ht (by omega) ((-1))  H.size) (cwV 4 hts gX8_readCommand_X8_figures rfl rfl rfl (by decide +kernel) ⟨Nat.le_of_ble_eq_true rfl, Nat.le_of_ble_eq_true rfl⟩) (wr_preV hK hP hD (zz_pick [[(b 0, .inr (5, [.int rf, .ref (b 1), .int (nI zs), .ref (b 2), .ref (b 3), .ref (b 4), .ref (b 5), .int ac, .ref (b 6), .ref (b 7), .int (nI (s0 + 1)), .int ou]))], [(b 1, .inl (cy 0, 120, .inl tx))], mW cy (b 3) w, mW cy (b 4) y4] [0, 1] [2, 3] (show List.Perm ([0, 1] ++ [2, 3]) (List.range 4) by decide) rfl rfl) 0 5 rfl rfl rfl) rfl rfl hl.1 rfl (lv_room (Nat.le_of_ble_eq_true rfl)) dX8_readCommand_246 ⟨Nat.le_of_ble_eq_true rfl, Nat.le_of_ble_eq_true rfl⟩) hP hD hS hA (zz_pick [[(b 0, .inr (5, [.int rf, .ref (b 1), .int (nI zs), .ref (b 2), .ref (b 3), .ref (b 4), .ref (b 5), .int ac, .ref (b 6), .ref (b 7), .int (nI (s0 + 1)), .int ou]))], [(b 1, .inl (cy 0, 120, .inl tx))], mW cy (b 3) w, mW cy (b 4) y4] [0, 1] [2, 3] (show List.Perm ([0, 1] ++ [2, 3]) (List.range 4) by decide) rfl rfl) (fun u => (zz_pick [[(b 0, .inr (5, [.int rf, .ref (b 1), .int (nI zs), .ref (b 2), .ref (b 3), .ref (b 4), .ref (b 5), .int ac, .ref (b 6), .ref (b 7), .int (nI u), .int ou]))], [(b 1, .inl (cy 0, 120, .inl tx))], mW cy (b 3) w, mW cy (b 4) y4] [0, 1] [2, 3] (show List.Perm ([0, 1] ++ [2, 3]) (List.range 4) by decide) rfl rfl)) (fun r_15 u_16 H locs e_17 hP hD hS => ?_)
      rcases e_17 with ⟨rfl, rfl, -⟩ | ⟨-, -, q9, -⟩ | ⟨q9, -⟩
      · have hP : va_P D vwCl (wj [[(b 0, .inr (5, [.int rf, .ref (b 1), .int (nI zs), .ref (b 2), .ref (b 3), .ref (b 4), .ref (b 5), .int ac, .ref (b 6), .ref (b 7), .int (nI (s0 + 1)), .int ou]))], [(b 1, .inl (cy 0, 120, .inl tx))], mW cy (b 3) w, mW cy (b 4) y4]) H := hP
        have hD : va_D A (wj [[(b 0, .inr (5, [.int rf, .ref (b 1), .int (nI zs), .ref (b 2), .ref (b 3), .ref (b 4), .ref (b 5), .int ac, .ref (b 6), .ref (b 7), .int (nI (s0 + 1)), .int ou]))], [(b 1, .inl (cy 0, 120, .inl tx))], mW cy (b 3) w, mW cy (b 4) y4]) := hD
        refine lv_istore (lv' := [(4, .int ((-1))), (3, .int ((-1))), (2, .int (tx s0)), (0, .ref (b 0)), (1, .ref (b 3))]) hx hb dX8_readCommand_249 hl (by decide) rfl (fun ls hl => ?_)
        refine lv_iload hx hb dX8_readCommand_251 (lv_at hl 0 rfl) ?_
        refine lv_iconst (v := (-1)) hx hb dX8_readCommand_253 (by decide) ?_
        refine lv_icmp_eq (tgt := 292) hx hb dX8_readCommand_254 (by decide) (fun c_18 => ?_) (fun c_18 => ?_)
        · refine lv_iconst (v := 0) hx hb dX8_readCommand_292 (by decide) ?_
          exact hret _ _ H locs _ ((s0 + 1, ou, w), y4) dX8_readCommand_293 hP hD hS (Or.inr ⟨rfl, ren_1 hs (hsg.trans c_11) o1, show s0 + 1 < 2 ^ 31 by omega⟩)
        · exact absurd c_18 (by decide)
      · exact absurd rfl q9
      · exact absurd rfl q9
    · have hlt1 := okD_lt (by decide) (by omega) o1
      obtain ⟨j1, hl1, hj1, e1⟩ := okD_nat (by decide) o1 (by decide)
      refine zz_top (y := nI j1) e1 ?_
      have hP : va_P D vwCl (wj [[(b 0, .inr (5, [.int rf, .ref (b 1), .int (nI zs), .ref (b 2), .ref (b 3), .ref (b 4), .ref (b 5), .int ac, .ref (b 6), .ref (b 7), .int (nI (s0 + 1 + 1)), .int ou]))], [(b 1, .inl (cy 0, 120, .inl tx))], mW cy (b 3) w, mW cy (b 4) y4]) H := hP
      have hD : va_D A (wj [[(b 0, .inr (5, [.int rf, .ref (b 1), .int (nI zs), .ref (b 2), .ref (b 3), .ref (b 4), .ref (b 5), .int ac, .ref (b 6), .ref (b 7), .int (nI (s0 + 1 + 1)), .int ou]))], [(b 1, .inl (cy 0, 120, .inl tx))], mW cy (b 3) w, mW cy (b 4) y4]) := hD
      refine lv_istore_n (lv' := [(3, .int (nI j1)), (2, .int (tx s0)), (0, .ref (b 0)), (1, .ref (b 3))]) hx hb dX8_readCommand_239 rfl hl (by decide) rfl (fun ls hl => ?_)
      refine lv_aload_n hx hb dX8_readCommand_240 rfl (lv_at hl 2 rfl) ?_
      refine lv_iload_n hx hb dX8_readCommand_241 rfl (lv_at hl 0 rfl) ?_
      refine lv_iconst (v := 2) hx hb dX8_readCommand_242 (by decide) ?_
      refine lv_iconst (v := 0) hx hb dX8_readCommand_243 (by decide) ?_
      refine lv_bipush (v := 16) hx hb dX8_readCommand_244 (by decide) ?_
      refine wr_i (fun u => wj [[(b 0, .inr (5, [.int rf, .ref (b 1), .int (nI zs), .ref (b 2), .ref (b 3), .ref (b 4), .ref (b 5), .int ac, .ref (b 6), .ref (b 7), .int (nI u), .int ou]))], [(b 1, .inl (cy 0, 120, .inl tx))], mW cy (b 3) w, mW cy (b 4) y4]) (va_runV (As := [.int (nI j1), .int 2, .int 0, .int 16]) (rest := []) hF (c_X8_figures_2 l D cy b rf ac ou tx zs (s0 + 1 + 1) ht (by omega) (nI j1)  H.size) (cwV 4 hts gX8_readCommand_X8_figures rfl rfl rfl (by decide +kernel) ⟨Nat.le_of_ble_eq_true rfl, Nat.le_of_ble_eq_true rfl⟩) (wr_preV hK hP hD (zz_pick [[(b 0, .inr (5, [.int rf, .ref (b 1), .int (nI zs), .ref (b 2), .ref (b 3), .ref (b 4), .ref (b 5), .int ac, .ref (b 6), .ref (b 7), .int (nI (s0 + 1 + 1)), .int ou]))], [(b 1, .inl (cy 0, 120, .inl tx))], mW cy (b 3) w, mW cy (b 4) y4] [0, 1] [2, 3] (show List.Perm ([0, 1] ++ [2, 3]) (List.range 4) by decide) rfl rfl) 0 5 rfl rfl rfl) rfl rfl hl.1 rfl (lv_room (Nat.le_of_ble_eq_true rfl)) dX8_readCommand_246 ⟨Nat.le_of_ble_eq_true rfl, Nat.le_of_ble_eq_true rfl⟩) hP hD hS hA (zz_pick [[(b 0, .inr (5, [.int rf, .ref (b 1), .int (nI zs), .ref (b 2), .ref (b 3), .ref (b 4), .ref (b 5), .int ac, .ref (b 6), .ref (b 7), .int (nI (s0 + 1 + 1)), .int ou]))], [(b 1, .inl (cy 0, 120, .inl tx))], mW cy (b 3) w, mW cy (b 4) y4] [0, 1] [2, 3] (show List.Perm ([0, 1] ++ [2, 3]) (List.range 4) by decide) rfl rfl) (fun u => (zz_pick [[(b 0, .inr (5, [.int rf, .ref (b 1), .int (nI zs), .ref (b 2), .ref (b 3), .ref (b 4), .ref (b 5), .int ac, .ref (b 6), .ref (b 7), .int (nI u), .int ou]))], [(b 1, .inl (cy 0, 120, .inl tx))], mW cy (b 3) w, mW cy (b 4) y4] [0, 1] [2, 3] (show List.Perm ([0, 1] ++ [2, 3]) (List.range 4) by decide) rfl rfl)) (fun r_19 u_20 H locs e_21 hP hD hS => ?_)
      rcases e_21 with ⟨rfl, rfl, o2⟩ | ⟨rfl, rfl, -, o2, o3⟩ | ⟨-, o2, o3, ⟨j2, j3, hj2, hj3, e2, e3, rfl⟩, rfl⟩
      · replace o2 := o2.resolve_left (ne_m1 (by omega))
        have hP : va_P D vwCl (wj [[(b 0, .inr (5, [.int rf, .ref (b 1), .int (nI zs), .ref (b 2), .ref (b 3), .ref (b 4), .ref (b 5), .int ac, .ref (b 6), .ref (b 7), .int (nI (s0 + 1 + 1)), .int ou]))], [(b 1, .inl (cy 0, 120, .inl tx))], mW cy (b 3) w, mW cy (b 4) y4]) H := hP
        have hD : va_D A (wj [[(b 0, .inr (5, [.int rf, .ref (b 1), .int (nI zs), .ref (b 2), .ref (b 3), .ref (b 4), .ref (b 5), .int ac, .ref (b 6), .ref (b 7), .int (nI (s0 + 1 + 1)), .int ou]))], [(b 1, .inl (cy 0, 120, .inl tx))], mW cy (b 3) w, mW cy (b 4) y4]) := hD
        refine lv_istore (lv' := [(4, .int ((-1))), (3, .int (nI j1)), (2, .int (tx s0)), (0, .ref (b 0)), (1, .ref (b 3))]) hx hb dX8_readCommand_249 hl (by decide) rfl (fun ls hl => ?_)
        refine lv_iload hx hb dX8_readCommand_251 (lv_at hl 0 rfl) ?_
        refine lv_iconst (v := (-1)) hx hb dX8_readCommand_253 (by decide) ?_
        refine lv_icmp_eq (tgt := 292) hx hb dX8_readCommand_254 (by decide) (fun c_22 => ?_) (fun c_22 => ?_)
        · refine lv_iconst (v := 0) hx hb dX8_readCommand_292 (by decide) ?_
          exact hret _ _ H locs _ ((s0 + 1 + 1, ou, w), y4) dX8_readCommand_293 hP hD hS (Or.inr ⟨rfl, ren_2 hz hs (hsg.trans c_11) o1 o2, show s0 + 1 + 1 < 2 ^ 31 by omega⟩)
        · exact absurd c_22 (by decide)
      · have hlt2 := okD_lt (by decide) (by omega) o2
        have hP : va_P D vwCl (wj [[(b 0, .inr (5, [.int rf, .ref (b 1), .int (nI zs), .ref (b 2), .ref (b 3), .ref (b 4), .ref (b 5), .int ac, .ref (b 6), .ref (b 7), .int (nI (s0 + 1 + 1 + 1)), .int ou]))], [(b 1, .inl (cy 0, 120, .inl tx))], mW cy (b 3) w, mW cy (b 4) y4]) H := hP
        have hD : va_D A (wj [[(b 0, .inr (5, [.int rf, .ref (b 1), .int (nI zs), .ref (b 2), .ref (b 3), .ref (b 4), .ref (b 5), .int ac, .ref (b 6), .ref (b 7), .int (nI (s0 + 1 + 1 + 1)), .int ou]))], [(b 1, .inl (cy 0, 120, .inl tx))], mW cy (b 3) w, mW cy (b 4) y4]) := hD
        refine lv_istore (lv' := [(4, .int ((-1))), (3, .int (nI j1)), (2, .int (tx s0)), (0, .ref (b 0)), (1, .ref (b 3))]) hx hb dX8_readCommand_249 hl (by decide) rfl (fun ls hl => ?_)
        refine lv_iload hx hb dX8_readCommand_251 (lv_at hl 0 rfl) ?_
        refine lv_iconst (v := (-1)) hx hb dX8_readCommand_253 (by decide) ?_
        refine lv_icmp_eq (tgt := 292) hx hb dX8_readCommand_254 (by decide) (fun c_23 => ?_) (fun c_23 => ?_)
        · refine lv_iconst (v := 0) hx hb dX8_readCommand_292 (by decide) ?_
          exact hret _ _ H locs _ ((s0 + 1 + 1 + 1, ou, w), y4) dX8_readCommand_293 hP hD hS (Or.inr ⟨rfl, ren_3 hz hs (hsg.trans c_11) o1 o2 o3, show s0 + 1 + 1 + 1 < 2 ^ 31 by omega⟩)
        · exact absurd c_23 (by decide)
      · have hP : va_P D vwCl (wj [[(b 0, .inr (5, [.int rf, .ref (b 1), .int (nI zs), .ref (b 2), .ref (b 3), .ref (b 4), .ref (b 5), .int ac, .ref (b 6), .ref (b 7), .int (nI (s0 + 1 + 1 + 2)), .int ou]))], [(b 1, .inl (cy 0, 120, .inl tx))], mW cy (b 3) w, mW cy (b 4) y4]) H := hP
        have hD : va_D A (wj [[(b 0, .inr (5, [.int rf, .ref (b 1), .int (nI zs), .ref (b 2), .ref (b 3), .ref (b 4), .ref (b 5), .int ac, .ref (b 6), .ref (b 7), .int (nI (s0 + 1 + 1 + 2)), .int ou]))], [(b 1, .inl (cy 0, 120, .inl tx))], mW cy (b 3) w, mW cy (b 4) y4]) := hD
        refine lv_istore (lv' := [(4, .int (nI (10 * j2 + j3))), (3, .int (nI j1)), (2, .int (tx s0)), (0, .ref (b 0)), (1, .ref (b 3))]) hx hb dX8_readCommand_249 hl (by decide) rfl (fun ls hl => ?_)
        refine lv_iload hx hb dX8_readCommand_251 (lv_at hl 0 rfl) ?_
        refine lv_iconst (v := (-1)) hx hb dX8_readCommand_253 (by decide) ?_
        refine lv_icmp_eq (tgt := 292) hx hb dX8_readCommand_254 (by decide) (fun c_24 => ?_) (fun c_24 => ?_)
        · have c_24 : (nI (10 * j2 + j3)) = ((-1)) := c_24
          exact absurd c_24 (ne_m1 (by omega))
        · have c_24 : ¬ (nI (10 * j2 + j3)) = ((-1)) := c_24
          refine lv_aload_n hx hb dX8_readCommand_257 rfl (lv_at hl 3 rfl) ?_
          refine lv_iload_n hx hb dX8_readCommand_258 rfl (lv_at hl 1 rfl) ?_
          refine lv_iload hx hb dX8_readCommand_259 (lv_at hl 0 rfl) ?_
          refine rd_S (As := [.int (nI j1), .int (nI (10 * j2 + j3))]) (rest := [.ref (b 0)]) hF (c_X8_isSetting l D cy (nI j1) (nI (10 * j2 + j3))) (va_cwS 2 hts gX8_readCommand_X8_isSetting rfl rfl rfl (by decide +kernel) ⟨Nat.le_of_ble_eq_true rfl, Nat.le_of_ble_eq_true rfl⟩) hK (fun k q h => by simp at h) rfl hl.1 rfl (Nat.le_of_ble_eq_true rfl) dX8_readCommand_261 ⟨Nat.le_of_ble_eq_true rfl, Nat.le_of_ble_eq_true rfl⟩ ?_
          refine lv_if_eq (tgt := 281) hx hb dX8_readCommand_264 (by decide) (fun c_25 => ?_) (fun c_25 => ?_)
          · have c_25 := zb_eq.mp c_25
            refine lv_iconst (v := 0) hx hb dX8_readCommand_281 (by decide) ?_
            refine wr_i (fun u => wj [[(b 0, .inr (5, [.int rf, .ref (b 1), .int (nI zs), .ref (b 2), .ref (b 3), .ref (b 4), .ref (b 5), .int ac, .ref (b 6), .ref (b 7), .int (nI (s0 + 1 + 1 + 2)), .int u]))], [(b 1, .inl (cy 0, 120, .inl tx))], mW cy (b 3) w, mW cy (b 4) y4]) (va_runV (As := [.int 0]) (rest := []) hF (c_X8_done l D cy b rf (nI zs) ac (nI (s0 + 1 + 1 + 2)) ou 0 H.size) (cwV 1 hts gX8_readCommand_X8_done rfl rfl rfl (by decide +kernel) ⟨Nat.le_of_ble_eq_true rfl, Nat.le_of_ble_eq_true rfl⟩) (wr_preV hK hP hD (zz_pick [[(b 0, .inr (5, [.int rf, .ref (b 1), .int (nI zs), .ref (b 2), .ref (b 3), .ref (b 4), .ref (b 5), .int ac, .ref (b 6), .ref (b 7), .int (nI (s0 + 1 + 1 + 2)), .int ou]))], [(b 1, .inl (cy 0, 120, .inl tx))], mW cy (b 3) w, mW cy (b 4) y4] [0] [1, 2, 3] (show List.Perm ([0] ++ [1, 2, 3]) (List.range 4) by decide) rfl rfl) 0 5 rfl rfl rfl) rfl rfl hl.1 rfl (lv_room (Nat.le_of_ble_eq_true rfl)) dX8_readCommand_282 ⟨Nat.le_of_ble_eq_true rfl, Nat.le_of_ble_eq_true rfl⟩) hP hD hS hA (zz_pick [[(b 0, .inr (5, [.int rf, .ref (b 1), .int (nI zs), .ref (b 2), .ref (b 3), .ref (b 4), .ref (b 5), .int ac, .ref (b 6), .ref (b 7), .int (nI (s0 + 1 + 1 + 2)), .int ou]))], [(b 1, .inl (cy 0, 120, .inl tx))], mW cy (b 3) w, mW cy (b 4) y4] [0] [1, 2, 3] (show List.Perm ([0] ++ [1, 2, 3]) (List.range 4) by decide) rfl rfl) (fun u => (zz_pick [[(b 0, .inr (5, [.int rf, .ref (b 1), .int (nI zs), .ref (b 2), .ref (b 3), .ref (b 4), .ref (b 5), .int ac, .ref (b 6), .ref (b 7), .int (nI (s0 + 1 + 1 + 2)), .int u]))], [(b 1, .inl (cy 0, 120, .inl tx))], mW cy (b 3) w, mW cy (b 4) y4] [0] [1, 2, 3] (show List.Perm ([0] ++ [1, 2, 3]) (List.range 4) by decide) rfl rfl)) (fun r_26 u_27 H locs e_28 hP hD hS => ?_)
            obtain ⟨rfl, e_28⟩ := e_28
            rw [if_pos (by decide)] at e_28
            obtain rfl : ou + 1 = u_27 := e_28.symm
            have hP : va_P D vwCl (wj [[(b 0, .inr (5, [.int rf, .ref (b 1), .int (nI zs), .ref (b 2), .ref (b 3), .ref (b 4), .ref (b 5), .int ac, .ref (b 6), .ref (b 7), .int (nI (s0 + 1 + 1 + 2)), .int (ou + 1)]))], [(b 1, .inl (cy 0, 120, .inl tx))], mW cy (b 3) w, mW cy (b 4) y4]) H := hP
            have hD : va_D A (wj [[(b 0, .inr (5, [.int rf, .ref (b 1), .int (nI zs), .ref (b 2), .ref (b 3), .ref (b 4), .ref (b 5), .int ac, .ref (b 6), .ref (b 7), .int (nI (s0 + 1 + 1 + 2)), .int (ou + 1)]))], [(b 1, .inl (cy 0, 120, .inl tx))], mW cy (b 3) w, mW cy (b 4) y4]) := hD
            refine lv_if_eq (tgt := 292) hx hb dX8_readCommand_285 (by decide) (fun c_29 => ?_) (fun c_29 => ?_)
            · exact absurd c_29 (by decide)
            · refine lv_iconst (v := 1) hx hb dX8_readCommand_288 (by decide) ?_
              refine lv_goto (tgt := 293) hx hb dX8_readCommand_289 (by decide) ?_
              exact hret _ _ H locs _ ((s0 + 1 + 1 + 2, ou + 1, w), y4) dX8_readCommand_293 hP hD hS ((rc_e hz hs (hsg.trans c_11) hn hR o1 o2 o3 hj1 hj2 hj3 e1 e2 e3).2 c_25)
          · have c_25 := zb_ne.mp c_25
            have hw3 := isG_lt (n := 3) (by decide) (by omega) c_25.1
            refine lv_aload_n hx hb dX8_readCommand_267 rfl (lv_at hl 4 rfl) ?_
            refine lv_iload_n hx hb dX8_readCommand_268 rfl (lv_at hl 1 rfl) ?_
            refine lv_iload hx hb dX8_readCommand_269 (lv_at hl 0 rfl) ?_
            refine wr_i (fun u => wj [[(b 0, .inr (5, [.int rf, .ref (b 1), .int (nI zs), .ref (b 2), .ref (b 3), .ref (b 4), .ref (b 5), .int ac, .ref (b 6), .ref (b 7), .int (nI (s0 + 1 + 1 + 2)), .int ou]))], [(b 1, .inl (cy 0, 120, .inl tx))], mW cy (b 3) u, mW cy (b 4) y4]) (va_runS (As := [.ref (b 3), .int (nI j1), .int (nI (10 * j2 + j3))]) (rest := [.ref (b 0)]) hF (c_X8_change l D cy (b 3) n hn w (hR.gy) H.size j1 (by omega) (nI (10 * j2 + j3))) (va_cwS 3 hts gX8_readCommand_X8_change rfl rfl rfl (by decide +kernel) ⟨Nat.le_of_ble_eq_true rfl, Nat.le_of_ble_eq_true rfl⟩) (wr_preS hK hP hD (zz_pick1 [[(b 0, .inr (5, [.int rf, .ref (b 1), .int (nI zs), .ref (b 2), .ref (b 3), .ref (b 4), .ref (b 5), .int ac, .ref (b 6), .ref (b 7), .int (nI (s0 + 1 + 1 + 2)), .int ou]))], [(b 1, .inl (cy 0, 120, .inl tx))], mW cy (b 3) w, mW cy (b 4) y4] 2 [0, 1, 3] (show List.Perm ([2] ++ [0, 1, 3]) (List.range 4) by decide) rfl rfl)) rfl rfl hl.1 rfl (lv_room (Nat.le_of_ble_eq_true rfl)) dX8_readCommand_271 ⟨Nat.le_of_ble_eq_true rfl, Nat.le_of_ble_eq_true rfl⟩) hP hD hS hA (zz_pick1 [[(b 0, .inr (5, [.int rf, .ref (b 1), .int (nI zs), .ref (b 2), .ref (b 3), .ref (b 4), .ref (b 5), .int ac, .ref (b 6), .ref (b 7), .int (nI (s0 + 1 + 1 + 2)), .int ou]))], [(b 1, .inl (cy 0, 120, .inl tx))], mW cy (b 3) w, mW cy (b 4) y4] 2 [0, 1, 3] (show List.Perm ([2] ++ [0, 1, 3]) (List.range 4) by decide) rfl rfl) (fun u => (zz_pick1 [[(b 0, .inr (5, [.int rf, .ref (b 1), .int (nI zs), .ref (b 2), .ref (b 3), .ref (b 4), .ref (b 5), .int ac, .ref (b 6), .ref (b 7), .int (nI (s0 + 1 + 1 + 2)), .int ou]))], [(b 1, .inl (cy 0, 120, .inl tx))], mW cy (b 3) u, mW cy (b 4) y4] 2 [0, 1, 3] (show List.Perm ([2] ++ [0, 1, 3]) (List.range 4) by decide) rfl rfl)) (fun r_30 u_31 H locs e_32 hP hD hS => ?_)
            obtain ⟨rfl, rfl⟩ := e_32
            have hP : va_P D vwCl (wj [[(b 0, .inr (5, [.int rf, .ref (b 1), .int (nI zs), .ref (b 2), .ref (b 3), .ref (b 4), .ref (b 5), .int ac, .ref (b 6), .ref (b 7), .int (nI (s0 + 1 + 1 + 2)), .int ou]))], [(b 1, .inl (cy 0, 120, .inl tx))], mW cy (b 3) (mSetS j1 (nI (10 * j2 + j3)) w), mW cy (b 4) y4]) H := hP
            have hD : va_D A (wj [[(b 0, .inr (5, [.int rf, .ref (b 1), .int (nI zs), .ref (b 2), .ref (b 3), .ref (b 4), .ref (b 5), .int ac, .ref (b 6), .ref (b 7), .int (nI (s0 + 1 + 1 + 2)), .int ou]))], [(b 1, .inl (cy 0, 120, .inl tx))], mW cy (b 3) (mSetS j1 (nI (10 * j2 + j3)) w), mW cy (b 4) y4]) := hD
            refine lv_if_lt (tgt := 281) hx hb dX8_readCommand_274 (by decide) (fun c_33 => ?_) (fun c_33 => ?_)
            · have c_33 : (w.2.1 j1) < 0 := c_33
              exact absurd c_33 (sg_nn hR hw3)
            · have c_33 : ¬ (w.2.1 j1) < 0 := c_33
              refine lv_iconst (v := 1) hx hb dX8_readCommand_277 (by decide) ?_
              refine lv_goto (tgt := 282) hx hb dX8_readCommand_278 (by decide) ?_
              refine wr_i (fun u => wj [[(b 0, .inr (5, [.int rf, .ref (b 1), .int (nI zs), .ref (b 2), .ref (b 3), .ref (b 4), .ref (b 5), .int ac, .ref (b 6), .ref (b 7), .int (nI (s0 + 1 + 1 + 2)), .int u]))], [(b 1, .inl (cy 0, 120, .inl tx))], mW cy (b 3) (mSetS j1 (nI (10 * j2 + j3)) w), mW cy (b 4) y4]) (va_runV (As := [.int 1]) (rest := []) hF (c_X8_done l D cy b rf (nI zs) ac (nI (s0 + 1 + 1 + 2)) ou 1 H.size) (cwV 1 hts gX8_readCommand_X8_done rfl rfl rfl (by decide +kernel) ⟨Nat.le_of_ble_eq_true rfl, Nat.le_of_ble_eq_true rfl⟩) (wr_preV hK hP hD (zz_pick [[(b 0, .inr (5, [.int rf, .ref (b 1), .int (nI zs), .ref (b 2), .ref (b 3), .ref (b 4), .ref (b 5), .int ac, .ref (b 6), .ref (b 7), .int (nI (s0 + 1 + 1 + 2)), .int ou]))], [(b 1, .inl (cy 0, 120, .inl tx))], mW cy (b 3) (mSetS j1 (nI (10 * j2 + j3)) w), mW cy (b 4) y4] [0] [1, 2, 3] (show List.Perm ([0] ++ [1, 2, 3]) (List.range 4) by decide) rfl rfl) 0 5 rfl rfl rfl) rfl rfl hl.1 rfl (lv_room (Nat.le_of_ble_eq_true rfl)) dX8_readCommand_282 ⟨Nat.le_of_ble_eq_true rfl, Nat.le_of_ble_eq_true rfl⟩) hP hD hS hA (zz_pick [[(b 0, .inr (5, [.int rf, .ref (b 1), .int (nI zs), .ref (b 2), .ref (b 3), .ref (b 4), .ref (b 5), .int ac, .ref (b 6), .ref (b 7), .int (nI (s0 + 1 + 1 + 2)), .int ou]))], [(b 1, .inl (cy 0, 120, .inl tx))], mW cy (b 3) (mSetS j1 (nI (10 * j2 + j3)) w), mW cy (b 4) y4] [0] [1, 2, 3] (show List.Perm ([0] ++ [1, 2, 3]) (List.range 4) by decide) rfl rfl) (fun u => (zz_pick [[(b 0, .inr (5, [.int rf, .ref (b 1), .int (nI zs), .ref (b 2), .ref (b 3), .ref (b 4), .ref (b 5), .int ac, .ref (b 6), .ref (b 7), .int (nI (s0 + 1 + 1 + 2)), .int u]))], [(b 1, .inl (cy 0, 120, .inl tx))], mW cy (b 3) (mSetS j1 (nI (10 * j2 + j3)) w), mW cy (b 4) y4] [0] [1, 2, 3] (show List.Perm ([0] ++ [1, 2, 3]) (List.range 4) by decide) rfl rfl)) (fun r_34 u_35 H locs e_36 hP hD hS => ?_)
              obtain ⟨rfl, e_36⟩ := e_36
              rw [if_neg (by decide)] at e_36
              obtain rfl : ou = u_35 := e_36.symm
              have hP : va_P D vwCl (wj [[(b 0, .inr (5, [.int rf, .ref (b 1), .int (nI zs), .ref (b 2), .ref (b 3), .ref (b 4), .ref (b 5), .int ac, .ref (b 6), .ref (b 7), .int (nI (s0 + 1 + 1 + 2)), .int ou]))], [(b 1, .inl (cy 0, 120, .inl tx))], mW cy (b 3) (mSetS j1 (nI (10 * j2 + j3)) w), mW cy (b 4) y4]) H := hP
              have hD : va_D A (wj [[(b 0, .inr (5, [.int rf, .ref (b 1), .int (nI zs), .ref (b 2), .ref (b 3), .ref (b 4), .ref (b 5), .int ac, .ref (b 6), .ref (b 7), .int (nI (s0 + 1 + 1 + 2)), .int ou]))], [(b 1, .inl (cy 0, 120, .inl tx))], mW cy (b 3) (mSetS j1 (nI (10 * j2 + j3)) w), mW cy (b 4) y4]) := hD
              refine lv_if_eq (tgt := 292) hx hb dX8_readCommand_285 (by decide) (fun c_37 => ?_) (fun c_37 => ?_)
              · exact absurd c_37 (by decide)
              · refine lv_iconst (v := 1) hx hb dX8_readCommand_288 (by decide) ?_
                refine lv_goto (tgt := 293) hx hb dX8_readCommand_289 (by decide) ?_
                exact hret _ _ H locs _ ((s0 + 1 + 1 + 2, ou, (mSetS j1 (nI (10 * j2 + j3)) w)), y4) dX8_readCommand_293 hP hD hS ((rc_e hz hs (hsg.trans c_11) hn hR o1 o2 o3 hj1 hj2 hj3 e1 e2 e3).1 c_25)
  by_cases c_38 : tx s0 = 102
  · refine lv_tableIn (off := 295) (tgt := 316) hx hb dX8_readCommand_21 (by rw [c_38]; decide) (by rw [c_38]; decide) (by rw [c_38]; rfl) (by decide) ?_
    refine lv_aload_n hx hb dX8_readCommand_316 rfl (lv_at hl 1 rfl) ?_
    refine lv_dup hx hb dX8_readCommand_317 rfl ?_
    refine va_get (ci := 5) (v := .int (nI (s0 + 1))) (C := RX8) (T := TX8) (N := 12) hx hb hts hin_X8 hown hK hP 0 rfl rfl 10 (by decide) (hts (.fieldLink RX8 112 "ButtonGuestsModel" "spot" "I") (by decide +kernel)) (fun _ h9 => h9) rfl dX8_readCommand_318 ?_
    refine lv_iconst (v := 1) hx hb dX8_readCommand_321 (by decide) ?_
    refine lv_isub hx hb dX8_readCommand_322 ?_
    refine zz_top (y := nI s0) (nI_pred s0) ?_
    refine va_put (ci := 5) (v := .int (nI s0)) (ty := .int) (C := RX8) (T := TX8) (N := 12) hx hb hts hin_X8 tyX8 tyX8_ok nmX8 hown hK hP hD hS 0 rfl rfl 10 (by decide) (hts (.fieldLink RX8 112 "ButtonGuestsModel" "spot" "I") (by decide +kernel)) (fun _ h9 => h9) rfl (by decide +kernel) rfl rfl (Nat.le_of_ble_eq_true rfl) dX8_readCommand_323 (fun H locs hP hD hS => ?_)
    have hP : va_P D vwCl (wj [[(b 0, .inr (5, [.int rf, .ref (b 1), .int (nI zs), .ref (b 2), .ref (b 3), .ref (b 4), .ref (b 5), .int ac, .ref (b 6), .ref (b 7), .int (nI s0), .int ou]))], [(b 1, .inl (cy 0, 120, .inl tx))], mW cy (b 3) w, mW cy (b 4) y4]) H := hP
    have hD : va_D A (wj [[(b 0, .inr (5, [.int rf, .ref (b 1), .int (nI zs), .ref (b 2), .ref (b 3), .ref (b 4), .ref (b 5), .int ac, .ref (b 6), .ref (b 7), .int (nI s0), .int ou]))], [(b 1, .inl (cy 0, 120, .inl tx))], mW cy (b 3) w, mW cy (b 4) y4]) := hD
    refine lv_iconst (v := 0) hx hb dX8_readCommand_326 (by decide) ?_
    exact hret _ _ H locs _ ((s0, ou, w), y4) dX8_readCommand_327 hP hD hS (rc_bad hz hs (by rw [hsg, c_38]; decide))
  by_cases c_39 : tx s0 = 103
  · refine lv_tableIn (off := 83) (tgt := 104) hx hb dX8_readCommand_21 (by rw [c_39]; decide) (by rw [c_39]; decide) (by rw [c_39]; rfl) (by decide) ?_
    refine lv_aload_n hx hb dX8_readCommand_104 rfl (lv_at hl 1 rfl) ?_
    refine lv_aload_n hx hb dX8_readCommand_105 rfl (lv_at hl 2 rfl) ?_
    refine wr_i (fun u => wj [[(b 0, .inr (5, [.int rf, .ref (b 1), .int (nI zs), .ref (b 2), .ref (b 3), .ref (b 4), .ref (b 5), .int ac, .ref (b 6), .ref (b 7), .int (nI u.1), .int u.2.1]))], [(b 1, .inl (cy 0, 120, .inl tx))], mW cy (b 3) u.2.2, mW cy (b 4) y4]) (va_runV (As := [.ref (b 3)]) (rest := []) hF (c_X8_readGuest l D cy b rf ac ou tx zs s0 ht n hn x w hR hs (hsg.trans c_39) H.size) (cwV 1 hts gX8_readCommand_X8_readGuest rfl rfl rfl (by decide +kernel) ⟨Nat.le_of_ble_eq_true rfl, Nat.le_of_ble_eq_true rfl⟩) (wr_preV hK hP hD (zz_pick [[(b 0, .inr (5, [.int rf, .ref (b 1), .int (nI zs), .ref (b 2), .ref (b 3), .ref (b 4), .ref (b 5), .int ac, .ref (b 6), .ref (b 7), .int (nI (s0 + 1)), .int ou]))], [(b 1, .inl (cy 0, 120, .inl tx))], mW cy (b 3) w, mW cy (b 4) y4] [0, 1, 2] [3] (show List.Perm ([0, 1, 2] ++ [3]) (List.range 4) by decide) rfl rfl) 0 5 rfl rfl rfl) rfl rfl hl.1 rfl (lv_room (Nat.le_of_ble_eq_true rfl)) dX8_readCommand_106 ⟨Nat.le_of_ble_eq_true rfl, Nat.le_of_ble_eq_true rfl⟩) hP hD hS hA (zz_pick [[(b 0, .inr (5, [.int rf, .ref (b 1), .int (nI zs), .ref (b 2), .ref (b 3), .ref (b 4), .ref (b 5), .int ac, .ref (b 6), .ref (b 7), .int (nI (s0 + 1)), .int ou]))], [(b 1, .inl (cy 0, 120, .inl tx))], mW cy (b 3) w, mW cy (b 4) y4] [0, 1, 2] [3] (show List.Perm ([0, 1, 2] ++ [3]) (List.range 4) by decide) rfl rfl) (fun u => (zz_pick [[(b 0, .inr (5, [.int rf, .ref (b 1), .int (nI zs), .ref (b 2), .ref (b 3), .ref (b 4), .ref (b 5), .int ac, .ref (b 6), .ref (b 7), .int (nI u.1), .int u.2.1]))], [(b 1, .inl (cy 0, 120, .inl tx))], mW cy (b 3) u.2.2, mW cy (b 4) y4] [0, 1, 2] [3] (show List.Perm ([0, 1, 2] ++ [3]) (List.range 4) by decide) rfl rfl)) (fun r_40 u_41 H locs e_42 hP hD hS => ?_)
    have hP : va_P D vwCl (wj [[(b 0, .inr (5, [.int rf, .ref (b 1), .int (nI zs), .ref (b 2), .ref (b 3), .ref (b 4), .ref (b 5), .int ac, .ref (b 6), .ref (b 7), .int (nI u_41.1), .int u_41.2.1]))], [(b 1, .inl (cy 0, 120, .inl tx))], mW cy (b 3) u_41.2.2, mW cy (b 4) y4]) H := hP
    have hD : va_D A (wj [[(b 0, .inr (5, [.int rf, .ref (b 1), .int (nI zs), .ref (b 2), .ref (b 3), .ref (b 4), .ref (b 5), .int ac, .ref (b 6), .ref (b 7), .int (nI u_41.1), .int u_41.2.1]))], [(b 1, .inl (cy 0, 120, .inl tx))], mW cy (b 3) u_41.2.2, mW cy (b 4) y4]) := hD
    exact hret _ _ H locs _ (u_41, y4) dX8_readCommand_109 hP hD hS (e_42)
  by_cases c_43 : tx s0 = 104
  · refine lv_tableIn (off := 295) (tgt := 316) hx hb dX8_readCommand_21 (by rw [c_43]; decide) (by rw [c_43]; decide) (by rw [c_43]; rfl) (by decide) ?_
    refine lv_aload_n hx hb dX8_readCommand_316 rfl (lv_at hl 1 rfl) ?_
    refine lv_dup hx hb dX8_readCommand_317 rfl ?_
    refine va_get (ci := 5) (v := .int (nI (s0 + 1))) (C := RX8) (T := TX8) (N := 12) hx hb hts hin_X8 hown hK hP 0 rfl rfl 10 (by decide) (hts (.fieldLink RX8 112 "ButtonGuestsModel" "spot" "I") (by decide +kernel)) (fun _ h9 => h9) rfl dX8_readCommand_318 ?_
    refine lv_iconst (v := 1) hx hb dX8_readCommand_321 (by decide) ?_
    refine lv_isub hx hb dX8_readCommand_322 ?_
    refine zz_top (y := nI s0) (nI_pred s0) ?_
    refine va_put (ci := 5) (v := .int (nI s0)) (ty := .int) (C := RX8) (T := TX8) (N := 12) hx hb hts hin_X8 tyX8 tyX8_ok nmX8 hown hK hP hD hS 0 rfl rfl 10 (by decide) (hts (.fieldLink RX8 112 "ButtonGuestsModel" "spot" "I") (by decide +kernel)) (fun _ h9 => h9) rfl (by decide +kernel) rfl rfl (Nat.le_of_ble_eq_true rfl) dX8_readCommand_323 (fun H locs hP hD hS => ?_)
    have hP : va_P D vwCl (wj [[(b 0, .inr (5, [.int rf, .ref (b 1), .int (nI zs), .ref (b 2), .ref (b 3), .ref (b 4), .ref (b 5), .int ac, .ref (b 6), .ref (b 7), .int (nI s0), .int ou]))], [(b 1, .inl (cy 0, 120, .inl tx))], mW cy (b 3) w, mW cy (b 4) y4]) H := hP
    have hD : va_D A (wj [[(b 0, .inr (5, [.int rf, .ref (b 1), .int (nI zs), .ref (b 2), .ref (b 3), .ref (b 4), .ref (b 5), .int ac, .ref (b 6), .ref (b 7), .int (nI s0), .int ou]))], [(b 1, .inl (cy 0, 120, .inl tx))], mW cy (b 3) w, mW cy (b 4) y4]) := hD
    refine lv_iconst (v := 0) hx hb dX8_readCommand_326 (by decide) ?_
    exact hret _ _ H locs _ ((s0, ou, w), y4) dX8_readCommand_327 hP hD hS (rc_bad hz hs (by rw [hsg, c_43]; decide))
  by_cases c_44 : tx s0 = 105
  · refine lv_tableIn (off := 295) (tgt := 316) hx hb dX8_readCommand_21 (by rw [c_44]; decide) (by rw [c_44]; decide) (by rw [c_44]; rfl) (by decide) ?_
    refine lv_aload_n hx hb dX8_readCommand_316 rfl (lv_at hl 1 rfl) ?_
    refine lv_dup hx hb dX8_readCommand_317 rfl ?_
    refine va_get (ci := 5) (v := .int (nI (s0 + 1))) (C := RX8) (T := TX8) (N := 12) hx hb hts hin_X8 hown hK hP 0 rfl rfl 10 (by decide) (hts (.fieldLink RX8 112 "ButtonGuestsModel" "spot" "I") (by decide +kernel)) (fun _ h9 => h9) rfl dX8_readCommand_318 ?_
    refine lv_iconst (v := 1) hx hb dX8_readCommand_321 (by decide) ?_
    refine lv_isub hx hb dX8_readCommand_322 ?_
    refine zz_top (y := nI s0) (nI_pred s0) ?_
    refine va_put (ci := 5) (v := .int (nI s0)) (ty := .int) (C := RX8) (T := TX8) (N := 12) hx hb hts hin_X8 tyX8 tyX8_ok nmX8 hown hK hP hD hS 0 rfl rfl 10 (by decide) (hts (.fieldLink RX8 112 "ButtonGuestsModel" "spot" "I") (by decide +kernel)) (fun _ h9 => h9) rfl (by decide +kernel) rfl rfl (Nat.le_of_ble_eq_true rfl) dX8_readCommand_323 (fun H locs hP hD hS => ?_)
    have hP : va_P D vwCl (wj [[(b 0, .inr (5, [.int rf, .ref (b 1), .int (nI zs), .ref (b 2), .ref (b 3), .ref (b 4), .ref (b 5), .int ac, .ref (b 6), .ref (b 7), .int (nI s0), .int ou]))], [(b 1, .inl (cy 0, 120, .inl tx))], mW cy (b 3) w, mW cy (b 4) y4]) H := hP
    have hD : va_D A (wj [[(b 0, .inr (5, [.int rf, .ref (b 1), .int (nI zs), .ref (b 2), .ref (b 3), .ref (b 4), .ref (b 5), .int ac, .ref (b 6), .ref (b 7), .int (nI s0), .int ou]))], [(b 1, .inl (cy 0, 120, .inl tx))], mW cy (b 3) w, mW cy (b 4) y4]) := hD
    refine lv_iconst (v := 0) hx hb dX8_readCommand_326 (by decide) ?_
    exact hret _ _ H locs _ ((s0, ou, w), y4) dX8_readCommand_327 hP hD hS (rc_bad hz hs (by rw [hsg, c_44]; decide))
  by_cases c_45 : tx s0 = 106
  · refine lv_tableIn (off := 295) (tgt := 316) hx hb dX8_readCommand_21 (by rw [c_45]; decide) (by rw [c_45]; decide) (by rw [c_45]; rfl) (by decide) ?_
    refine lv_aload_n hx hb dX8_readCommand_316 rfl (lv_at hl 1 rfl) ?_
    refine lv_dup hx hb dX8_readCommand_317 rfl ?_
    refine va_get (ci := 5) (v := .int (nI (s0 + 1))) (C := RX8) (T := TX8) (N := 12) hx hb hts hin_X8 hown hK hP 0 rfl rfl 10 (by decide) (hts (.fieldLink RX8 112 "ButtonGuestsModel" "spot" "I") (by decide +kernel)) (fun _ h9 => h9) rfl dX8_readCommand_318 ?_
    refine lv_iconst (v := 1) hx hb dX8_readCommand_321 (by decide) ?_
    refine lv_isub hx hb dX8_readCommand_322 ?_
    refine zz_top (y := nI s0) (nI_pred s0) ?_
    refine va_put (ci := 5) (v := .int (nI s0)) (ty := .int) (C := RX8) (T := TX8) (N := 12) hx hb hts hin_X8 tyX8 tyX8_ok nmX8 hown hK hP hD hS 0 rfl rfl 10 (by decide) (hts (.fieldLink RX8 112 "ButtonGuestsModel" "spot" "I") (by decide +kernel)) (fun _ h9 => h9) rfl (by decide +kernel) rfl rfl (Nat.le_of_ble_eq_true rfl) dX8_readCommand_323 (fun H locs hP hD hS => ?_)
    have hP : va_P D vwCl (wj [[(b 0, .inr (5, [.int rf, .ref (b 1), .int (nI zs), .ref (b 2), .ref (b 3), .ref (b 4), .ref (b 5), .int ac, .ref (b 6), .ref (b 7), .int (nI s0), .int ou]))], [(b 1, .inl (cy 0, 120, .inl tx))], mW cy (b 3) w, mW cy (b 4) y4]) H := hP
    have hD : va_D A (wj [[(b 0, .inr (5, [.int rf, .ref (b 1), .int (nI zs), .ref (b 2), .ref (b 3), .ref (b 4), .ref (b 5), .int ac, .ref (b 6), .ref (b 7), .int (nI s0), .int ou]))], [(b 1, .inl (cy 0, 120, .inl tx))], mW cy (b 3) w, mW cy (b 4) y4]) := hD
    refine lv_iconst (v := 0) hx hb dX8_readCommand_326 (by decide) ?_
    exact hret _ _ H locs _ ((s0, ou, w), y4) dX8_readCommand_327 hP hD hS (rc_bad hz hs (by rw [hsg, c_45]; decide))
  by_cases c_46 : tx s0 = 107
  · refine lv_tableIn (off := 295) (tgt := 316) hx hb dX8_readCommand_21 (by rw [c_46]; decide) (by rw [c_46]; decide) (by rw [c_46]; rfl) (by decide) ?_
    refine lv_aload_n hx hb dX8_readCommand_316 rfl (lv_at hl 1 rfl) ?_
    refine lv_dup hx hb dX8_readCommand_317 rfl ?_
    refine va_get (ci := 5) (v := .int (nI (s0 + 1))) (C := RX8) (T := TX8) (N := 12) hx hb hts hin_X8 hown hK hP 0 rfl rfl 10 (by decide) (hts (.fieldLink RX8 112 "ButtonGuestsModel" "spot" "I") (by decide +kernel)) (fun _ h9 => h9) rfl dX8_readCommand_318 ?_
    refine lv_iconst (v := 1) hx hb dX8_readCommand_321 (by decide) ?_
    refine lv_isub hx hb dX8_readCommand_322 ?_
    refine zz_top (y := nI s0) (nI_pred s0) ?_
    refine va_put (ci := 5) (v := .int (nI s0)) (ty := .int) (C := RX8) (T := TX8) (N := 12) hx hb hts hin_X8 tyX8 tyX8_ok nmX8 hown hK hP hD hS 0 rfl rfl 10 (by decide) (hts (.fieldLink RX8 112 "ButtonGuestsModel" "spot" "I") (by decide +kernel)) (fun _ h9 => h9) rfl (by decide +kernel) rfl rfl (Nat.le_of_ble_eq_true rfl) dX8_readCommand_323 (fun H locs hP hD hS => ?_)
    have hP : va_P D vwCl (wj [[(b 0, .inr (5, [.int rf, .ref (b 1), .int (nI zs), .ref (b 2), .ref (b 3), .ref (b 4), .ref (b 5), .int ac, .ref (b 6), .ref (b 7), .int (nI s0), .int ou]))], [(b 1, .inl (cy 0, 120, .inl tx))], mW cy (b 3) w, mW cy (b 4) y4]) H := hP
    have hD : va_D A (wj [[(b 0, .inr (5, [.int rf, .ref (b 1), .int (nI zs), .ref (b 2), .ref (b 3), .ref (b 4), .ref (b 5), .int ac, .ref (b 6), .ref (b 7), .int (nI s0), .int ou]))], [(b 1, .inl (cy 0, 120, .inl tx))], mW cy (b 3) w, mW cy (b 4) y4]) := hD
    refine lv_iconst (v := 0) hx hb dX8_readCommand_326 (by decide) ?_
    exact hret _ _ H locs _ ((s0, ou, w), y4) dX8_readCommand_327 hP hD hS (rc_bad hz hs (by rw [hsg, c_46]; decide))
  by_cases c_47 : tx s0 = 108
  · refine lv_tableIn (off := 162) (tgt := 183) hx hb dX8_readCommand_21 (by rw [c_47]; decide) (by rw [c_47]; decide) (by rw [c_47]; rfl) (by decide) ?_
    refine lv_aload_n hx hb dX8_readCommand_183 rfl (lv_at hl 1 rfl) ?_
    refine lv_iconst (v := 0) hx hb dX8_readCommand_184 (by decide) ?_
    refine lv_iconst (v := 1) hx hb dX8_readCommand_185 (by decide) ?_
    refine lv_iconst (v := 0) hx hb dX8_readCommand_186 (by decide) ?_
    refine lv_iconst (v := 3) hx hb dX8_readCommand_187 (by decide) ?_
    refine wr_i (fun u => wj [[(b 0, .inr (5, [.int rf, .ref (b 1), .int (nI zs), .ref (b 2), .ref (b 3), .ref (b 4), .ref (b 5), .int ac, .ref (b 6), .ref (b 7), .int (nI u), .int ou]))], [(b 1, .inl (cy 0, 120, .inl tx))], mW cy (b 3) w, mW cy (b 4) y4]) (va_runV (As := [.int 0, .int 1, .int 0, .int 3]) (rest := []) hF (c_X8_figures_1 l D cy b rf ac ou tx zs (s0 + 1) ht (by omega) 0 0 3 (by decide) (by decide) H.size) (cwV 4 hts gX8_readCommand_X8_figures rfl rfl rfl (by decide +kernel) ⟨Nat.le_of_ble_eq_true rfl, Nat.le_of_ble_eq_true rfl⟩) (wr_preV hK hP hD (zz_pick [[(b 0, .inr (5, [.int rf, .ref (b 1), .int (nI zs), .ref (b 2), .ref (b 3), .ref (b 4), .ref (b 5), .int ac, .ref (b 6), .ref (b 7), .int (nI (s0 + 1)), .int ou]))], [(b 1, .inl (cy 0, 120, .inl tx))], mW cy (b 3) w, mW cy (b 4) y4] [0, 1] [2, 3] (show List.Perm ([0, 1] ++ [2, 3]) (List.range 4) by decide) rfl rfl) 0 5 rfl rfl rfl) rfl rfl hl.1 rfl (lv_room (Nat.le_of_ble_eq_true rfl)) dX8_readCommand_188 ⟨Nat.le_of_ble_eq_true rfl, Nat.le_of_ble_eq_true rfl⟩) hP hD hS hA (zz_pick [[(b 0, .inr (5, [.int rf, .ref (b 1), .int (nI zs), .ref (b 2), .ref (b 3), .ref (b 4), .ref (b 5), .int ac, .ref (b 6), .ref (b 7), .int (nI (s0 + 1)), .int ou]))], [(b 1, .inl (cy 0, 120, .inl tx))], mW cy (b 3) w, mW cy (b 4) y4] [0, 1] [2, 3] (show List.Perm ([0, 1] ++ [2, 3]) (List.range 4) by decide) rfl rfl) (fun u => (zz_pick [[(b 0, .inr (5, [.int rf, .ref (b 1), .int (nI zs), .ref (b 2), .ref (b 3), .ref (b 4), .ref (b 5), .int ac, .ref (b 6), .ref (b 7), .int (nI u), .int ou]))], [(b 1, .inl (cy 0, 120, .inl tx))], mW cy (b 3) w, mW cy (b 4) y4] [0, 1] [2, 3] (show List.Perm ([0, 1] ++ [2, 3]) (List.range 4) by decide) rfl rfl)) (fun r_48 u_49 H locs e_50 hP hD hS => ?_)
    rcases e_50 with ⟨rfl, rfl, o1⟩ | ⟨-, o1, rfl, rfl⟩
    · replace o1 := o1.resolve_left (by decide)
      have hP : va_P D vwCl (wj [[(b 0, .inr (5, [.int rf, .ref (b 1), .int (nI zs), .ref (b 2), .ref (b 3), .ref (b 4), .ref (b 5), .int ac, .ref (b 6), .ref (b 7), .int (nI (s0 + 1)), .int ou]))], [(b 1, .inl (cy 0, 120, .inl tx))], mW cy (b 3) w, mW cy (b 4) y4]) H := hP
      have hD : va_D A (wj [[(b 0, .inr (5, [.int rf, .ref (b 1), .int (nI zs), .ref (b 2), .ref (b 3), .ref (b 4), .ref (b 5), .int ac, .ref (b 6), .ref (b 7), .int (nI (s0 + 1)), .int ou]))], [(b 1, .inl (cy 0, 120, .inl tx))], mW cy (b 3) w, mW cy (b 4) y4]) := hD
      refine lv_istore_n (lv' := [(3, .int ((-1))), (2, .int (tx s0)), (0, .ref (b 0)), (1, .ref (b 3))]) hx hb dX8_readCommand_191 rfl hl (by decide) rfl (fun ls hl => ?_)
      refine lv_iload_n hx hb dX8_readCommand_192 rfl (lv_at hl 0 rfl) ?_
      refine lv_iconst (v := (-1)) hx hb dX8_readCommand_193 (by decide) ?_
      refine lv_icmp_eq (tgt := 229) hx hb dX8_readCommand_194 (by decide) (fun c_51 => ?_) (fun c_51 => ?_)
      · refine lv_iconst (v := 0) hx hb dX8_readCommand_229 (by decide) ?_
        exact hret _ _ H locs _ ((s0 + 1, ou, w), y4) dX8_readCommand_230 hP hD hS (Or.inr ⟨rfl, rpn_1 hs (hsg.trans c_47) (Or.inr rfl) o1, show s0 + 1 < 2 ^ 31 by omega⟩)
      · exact absurd c_51 (by decide)
    · have hlt1 := okD_lt (by decide) (by omega) o1
      obtain ⟨j1, hl1, hj1, e1⟩ := okD_nat (by decide) o1 (by decide)
      refine zz_top (y := nI j1) e1 ?_
      have hP : va_P D vwCl (wj [[(b 0, .inr (5, [.int rf, .ref (b 1), .int (nI zs), .ref (b 2), .ref (b 3), .ref (b 4), .ref (b 5), .int ac, .ref (b 6), .ref (b 7), .int (nI (s0 + 1 + 1)), .int ou]))], [(b 1, .inl (cy 0, 120, .inl tx))], mW cy (b 3) w, mW cy (b 4) y4]) H := hP
      have hD : va_D A (wj [[(b 0, .inr (5, [.int rf, .ref (b 1), .int (nI zs), .ref (b 2), .ref (b 3), .ref (b 4), .ref (b 5), .int ac, .ref (b 6), .ref (b 7), .int (nI (s0 + 1 + 1)), .int ou]))], [(b 1, .inl (cy 0, 120, .inl tx))], mW cy (b 3) w, mW cy (b 4) y4]) := hD
      refine lv_istore_n (lv' := [(3, .int (nI j1)), (2, .int (tx s0)), (0, .ref (b 0)), (1, .ref (b 3))]) hx hb dX8_readCommand_191 rfl hl (by decide) rfl (fun ls hl => ?_)
      refine lv_iload_n hx hb dX8_readCommand_192 rfl (lv_at hl 0 rfl) ?_
      refine lv_iconst (v := (-1)) hx hb dX8_readCommand_193 (by decide) ?_
      refine lv_icmp_eq (tgt := 229) hx hb dX8_readCommand_194 (by decide) (fun c_52 => ?_) (fun c_52 => ?_)
      · have c_52 : (nI j1) = ((-1)) := c_52
        exact absurd c_52 (ne_m1 (by omega))
      · have c_52 : ¬ (nI j1) = ((-1)) := c_52
        refine lv_aload_n hx hb dX8_readCommand_197 rfl (lv_at hl 2 rfl) ?_
        refine lv_aload_n hx hb dX8_readCommand_198 rfl (lv_at hl 3 rfl) ?_
        refine lv_iload_n hx hb dX8_readCommand_199 rfl (lv_at hl 0 rfl) ?_
        refine rd_S (As := [.ref (b 3), .int (nI j1)]) (rest := [.ref (b 0)]) hF (c_X8_isGuest l D cy (b 3) n hn w (hR.gy) (nI j1)) (va_cwS 2 hts gX8_readCommand_X8_isGuest rfl rfl rfl (by decide +kernel) ⟨Nat.le_of_ble_eq_true rfl, Nat.le_of_ble_eq_true rfl⟩) hK (hP.sub [2] rfl) rfl hl.1 rfl (Nat.le_of_ble_eq_true rfl) dX8_readCommand_200 ⟨Nat.le_of_ble_eq_true rfl, Nat.le_of_ble_eq_true rfl⟩ ?_
        refine zz_top (y := zb (isG (nI n) (nI j1))) (by rw [hR.gy]) ?_
        refine lv_if_eq (tgt := 218) hx hb dX8_readCommand_203 (by decide) (fun c_53 => ?_) (fun c_53 => ?_)
        · have c_53 := zb_eq.mp c_53
          refine lv_iconst (v := 0) hx hb dX8_readCommand_218 (by decide) ?_
          refine wr_i (fun u => wj [[(b 0, .inr (5, [.int rf, .ref (b 1), .int (nI zs), .ref (b 2), .ref (b 3), .ref (b 4), .ref (b 5), .int ac, .ref (b 6), .ref (b 7), .int (nI (s0 + 1 + 1)), .int u]))], [(b 1, .inl (cy 0, 120, .inl tx))], mW cy (b 3) w, mW cy (b 4) y4]) (va_runV (As := [.int 0]) (rest := []) hF (c_X8_done l D cy b rf (nI zs) ac (nI (s0 + 1 + 1)) ou 0 H.size) (cwV 1 hts gX8_readCommand_X8_done rfl rfl rfl (by decide +kernel) ⟨Nat.le_of_ble_eq_true rfl, Nat.le_of_ble_eq_true rfl⟩) (wr_preV hK hP hD (zz_pick [[(b 0, .inr (5, [.int rf, .ref (b 1), .int (nI zs), .ref (b 2), .ref (b 3), .ref (b 4), .ref (b 5), .int ac, .ref (b 6), .ref (b 7), .int (nI (s0 + 1 + 1)), .int ou]))], [(b 1, .inl (cy 0, 120, .inl tx))], mW cy (b 3) w, mW cy (b 4) y4] [0] [1, 2, 3] (show List.Perm ([0] ++ [1, 2, 3]) (List.range 4) by decide) rfl rfl) 0 5 rfl rfl rfl) rfl rfl hl.1 rfl (lv_room (Nat.le_of_ble_eq_true rfl)) dX8_readCommand_219 ⟨Nat.le_of_ble_eq_true rfl, Nat.le_of_ble_eq_true rfl⟩) hP hD hS hA (zz_pick [[(b 0, .inr (5, [.int rf, .ref (b 1), .int (nI zs), .ref (b 2), .ref (b 3), .ref (b 4), .ref (b 5), .int ac, .ref (b 6), .ref (b 7), .int (nI (s0 + 1 + 1)), .int ou]))], [(b 1, .inl (cy 0, 120, .inl tx))], mW cy (b 3) w, mW cy (b 4) y4] [0] [1, 2, 3] (show List.Perm ([0] ++ [1, 2, 3]) (List.range 4) by decide) rfl rfl) (fun u => (zz_pick [[(b 0, .inr (5, [.int rf, .ref (b 1), .int (nI zs), .ref (b 2), .ref (b 3), .ref (b 4), .ref (b 5), .int ac, .ref (b 6), .ref (b 7), .int (nI (s0 + 1 + 1)), .int u]))], [(b 1, .inl (cy 0, 120, .inl tx))], mW cy (b 3) w, mW cy (b 4) y4] [0] [1, 2, 3] (show List.Perm ([0] ++ [1, 2, 3]) (List.range 4) by decide) rfl rfl)) (fun r_54 u_55 H locs e_56 hP hD hS => ?_)
          obtain ⟨rfl, e_56⟩ := e_56
          rw [if_pos (by decide)] at e_56
          obtain rfl : ou + 1 = u_55 := e_56.symm
          have hP : va_P D vwCl (wj [[(b 0, .inr (5, [.int rf, .ref (b 1), .int (nI zs), .ref (b 2), .ref (b 3), .ref (b 4), .ref (b 5), .int ac, .ref (b 6), .ref (b 7), .int (nI (s0 + 1 + 1)), .int (ou + 1)]))], [(b 1, .inl (cy 0, 120, .inl tx))], mW cy (b 3) w, mW cy (b 4) y4]) H := hP
          have hD : va_D A (wj [[(b 0, .inr (5, [.int rf, .ref (b 1), .int (nI zs), .ref (b 2), .ref (b 3), .ref (b 4), .ref (b 5), .int ac, .ref (b 6), .ref (b 7), .int (nI (s0 + 1 + 1)), .int (ou + 1)]))], [(b 1, .inl (cy 0, 120, .inl tx))], mW cy (b 3) w, mW cy (b 4) y4]) := hD
          refine lv_if_eq (tgt := 229) hx hb dX8_readCommand_222 (by decide) (fun c_57 => ?_) (fun c_57 => ?_)
          · exact absurd c_57 (by decide)
          · refine lv_iconst (v := 1) hx hb dX8_readCommand_225 (by decide) ?_
            refine lv_goto (tgt := 230) hx hb dX8_readCommand_226 (by decide) ?_
            exact hret _ _ H locs _ ((s0 + 1 + 1, ou + 1, w), y4) dX8_readCommand_230 hP hD hS ((rc_l hz hs (hsg.trans c_47) hn hR o1 hj1 e1).2 c_53)
        · have c_53 := zb_ne.mp c_53
          have hgl := isG_lt hn (by omega) c_53
          refine lv_aload_n hx hb dX8_readCommand_206 rfl (lv_at hl 3 rfl) ?_
          refine lv_iload_n hx hb dX8_readCommand_207 rfl (lv_at hl 0 rfl) ?_
          refine wr_i (fun u => wj [[(b 0, .inr (5, [.int rf, .ref (b 1), .int (nI zs), .ref (b 2), .ref (b 3), .ref (b 4), .ref (b 5), .int ac, .ref (b 6), .ref (b 7), .int (nI (s0 + 1 + 1)), .int ou]))], [(b 1, .inl (cy 0, 120, .inl tx))], mW cy (b 3) u, mW cy (b 4) y4]) (va_runS (As := [.ref (b 3), .int (nI j1)]) (rest := [.ref (b 0)]) hF (c_X8_leaveOn l D cy (b 3) n hn w (hR.gy) j1 (by omega) H.size) (va_cwS 2 hts gX8_readCommand_X8_leaveOn rfl rfl rfl (by decide +kernel) ⟨Nat.le_of_ble_eq_true rfl, Nat.le_of_ble_eq_true rfl⟩) (wr_preS hK hP hD (zz_pick1 [[(b 0, .inr (5, [.int rf, .ref (b 1), .int (nI zs), .ref (b 2), .ref (b 3), .ref (b 4), .ref (b 5), .int ac, .ref (b 6), .ref (b 7), .int (nI (s0 + 1 + 1)), .int ou]))], [(b 1, .inl (cy 0, 120, .inl tx))], mW cy (b 3) w, mW cy (b 4) y4] 2 [0, 1, 3] (show List.Perm ([2] ++ [0, 1, 3]) (List.range 4) by decide) rfl rfl)) rfl rfl hl.1 rfl (lv_room (Nat.le_of_ble_eq_true rfl)) dX8_readCommand_208 ⟨Nat.le_of_ble_eq_true rfl, Nat.le_of_ble_eq_true rfl⟩) hP hD hS hA (zz_pick1 [[(b 0, .inr (5, [.int rf, .ref (b 1), .int (nI zs), .ref (b 2), .ref (b 3), .ref (b 4), .ref (b 5), .int ac, .ref (b 6), .ref (b 7), .int (nI (s0 + 1 + 1)), .int ou]))], [(b 1, .inl (cy 0, 120, .inl tx))], mW cy (b 3) w, mW cy (b 4) y4] 2 [0, 1, 3] (show List.Perm ([2] ++ [0, 1, 3]) (List.range 4) by decide) rfl rfl) (fun u => (zz_pick1 [[(b 0, .inr (5, [.int rf, .ref (b 1), .int (nI zs), .ref (b 2), .ref (b 3), .ref (b 4), .ref (b 5), .int ac, .ref (b 6), .ref (b 7), .int (nI (s0 + 1 + 1)), .int ou]))], [(b 1, .inl (cy 0, 120, .inl tx))], mW cy (b 3) u, mW cy (b 4) y4] 2 [0, 1, 3] (show List.Perm ([2] ++ [0, 1, 3]) (List.range 4) by decide) rfl rfl)) (fun r_58 u_59 H locs e_60 hP hD hS => ?_)
          obtain ⟨rfl, rfl⟩ := e_60
          have hP : va_P D vwCl (wj [[(b 0, .inr (5, [.int rf, .ref (b 1), .int (nI zs), .ref (b 2), .ref (b 3), .ref (b 4), .ref (b 5), .int ac, .ref (b 6), .ref (b 7), .int (nI (s0 + 1 + 1)), .int ou]))], [(b 1, .inl (cy 0, 120, .inl tx))], mW cy (b 3) (hDis n j1 w), mW cy (b 4) y4]) H := hP
          have hD : va_D A (wj [[(b 0, .inr (5, [.int rf, .ref (b 1), .int (nI zs), .ref (b 2), .ref (b 3), .ref (b 4), .ref (b 5), .int ac, .ref (b 6), .ref (b 7), .int (nI (s0 + 1 + 1)), .int ou]))], [(b 1, .inl (cy 0, 120, .inl tx))], mW cy (b 3) (hDis n j1 w), mW cy (b 4) y4]) := hD
          refine lv_if_lt (tgt := 218) hx hb dX8_readCommand_211 (by decide) (fun c_61 => ?_) (fun c_61 => ?_)
          · have c_61 : (w.2.2.2.2.2.2.2.1 j1) < 0 := c_61
            exact absurd c_61 (gr_nn hR hgl)
          · have c_61 : ¬ (w.2.2.2.2.2.2.2.1 j1) < 0 := c_61
            refine lv_iconst (v := 1) hx hb dX8_readCommand_214 (by decide) ?_
            refine lv_goto (tgt := 219) hx hb dX8_readCommand_215 (by decide) ?_
            refine wr_i (fun u => wj [[(b 0, .inr (5, [.int rf, .ref (b 1), .int (nI zs), .ref (b 2), .ref (b 3), .ref (b 4), .ref (b 5), .int ac, .ref (b 6), .ref (b 7), .int (nI (s0 + 1 + 1)), .int u]))], [(b 1, .inl (cy 0, 120, .inl tx))], mW cy (b 3) (hDis n j1 w), mW cy (b 4) y4]) (va_runV (As := [.int 1]) (rest := []) hF (c_X8_done l D cy b rf (nI zs) ac (nI (s0 + 1 + 1)) ou 1 H.size) (cwV 1 hts gX8_readCommand_X8_done rfl rfl rfl (by decide +kernel) ⟨Nat.le_of_ble_eq_true rfl, Nat.le_of_ble_eq_true rfl⟩) (wr_preV hK hP hD (zz_pick [[(b 0, .inr (5, [.int rf, .ref (b 1), .int (nI zs), .ref (b 2), .ref (b 3), .ref (b 4), .ref (b 5), .int ac, .ref (b 6), .ref (b 7), .int (nI (s0 + 1 + 1)), .int ou]))], [(b 1, .inl (cy 0, 120, .inl tx))], mW cy (b 3) (hDis n j1 w), mW cy (b 4) y4] [0] [1, 2, 3] (show List.Perm ([0] ++ [1, 2, 3]) (List.range 4) by decide) rfl rfl) 0 5 rfl rfl rfl) rfl rfl hl.1 rfl (lv_room (Nat.le_of_ble_eq_true rfl)) dX8_readCommand_219 ⟨Nat.le_of_ble_eq_true rfl, Nat.le_of_ble_eq_true rfl⟩) hP hD hS hA (zz_pick [[(b 0, .inr (5, [.int rf, .ref (b 1), .int (nI zs), .ref (b 2), .ref (b 3), .ref (b 4), .ref (b 5), .int ac, .ref (b 6), .ref (b 7), .int (nI (s0 + 1 + 1)), .int ou]))], [(b 1, .inl (cy 0, 120, .inl tx))], mW cy (b 3) (hDis n j1 w), mW cy (b 4) y4] [0] [1, 2, 3] (show List.Perm ([0] ++ [1, 2, 3]) (List.range 4) by decide) rfl rfl) (fun u => (zz_pick [[(b 0, .inr (5, [.int rf, .ref (b 1), .int (nI zs), .ref (b 2), .ref (b 3), .ref (b 4), .ref (b 5), .int ac, .ref (b 6), .ref (b 7), .int (nI (s0 + 1 + 1)), .int u]))], [(b 1, .inl (cy 0, 120, .inl tx))], mW cy (b 3) (hDis n j1 w), mW cy (b 4) y4] [0] [1, 2, 3] (show List.Perm ([0] ++ [1, 2, 3]) (List.range 4) by decide) rfl rfl)) (fun r_62 u_63 H locs e_64 hP hD hS => ?_)
            obtain ⟨rfl, e_64⟩ := e_64
            rw [if_neg (by decide)] at e_64
            obtain rfl : ou = u_63 := e_64.symm
            have hP : va_P D vwCl (wj [[(b 0, .inr (5, [.int rf, .ref (b 1), .int (nI zs), .ref (b 2), .ref (b 3), .ref (b 4), .ref (b 5), .int ac, .ref (b 6), .ref (b 7), .int (nI (s0 + 1 + 1)), .int ou]))], [(b 1, .inl (cy 0, 120, .inl tx))], mW cy (b 3) (hDis n j1 w), mW cy (b 4) y4]) H := hP
            have hD : va_D A (wj [[(b 0, .inr (5, [.int rf, .ref (b 1), .int (nI zs), .ref (b 2), .ref (b 3), .ref (b 4), .ref (b 5), .int ac, .ref (b 6), .ref (b 7), .int (nI (s0 + 1 + 1)), .int ou]))], [(b 1, .inl (cy 0, 120, .inl tx))], mW cy (b 3) (hDis n j1 w), mW cy (b 4) y4]) := hD
            refine lv_if_eq (tgt := 229) hx hb dX8_readCommand_222 (by decide) (fun c_65 => ?_) (fun c_65 => ?_)
            · exact absurd c_65 (by decide)
            · refine lv_iconst (v := 1) hx hb dX8_readCommand_225 (by decide) ?_
              refine lv_goto (tgt := 230) hx hb dX8_readCommand_226 (by decide) ?_
              exact hret _ _ H locs _ ((s0 + 1 + 1, ou, (hDis n j1 w)), y4) dX8_readCommand_230 hP hD hS ((rc_l hz hs (hsg.trans c_47) hn hR o1 hj1 e1).1 hgl)
  by_cases c_66 : tx s0 = 109
  · refine lv_tableIn (off := 295) (tgt := 316) hx hb dX8_readCommand_21 (by rw [c_66]; decide) (by rw [c_66]; decide) (by rw [c_66]; rfl) (by decide) ?_
    refine lv_aload_n hx hb dX8_readCommand_316 rfl (lv_at hl 1 rfl) ?_
    refine lv_dup hx hb dX8_readCommand_317 rfl ?_
    refine va_get (ci := 5) (v := .int (nI (s0 + 1))) (C := RX8) (T := TX8) (N := 12) hx hb hts hin_X8 hown hK hP 0 rfl rfl 10 (by decide) (hts (.fieldLink RX8 112 "ButtonGuestsModel" "spot" "I") (by decide +kernel)) (fun _ h9 => h9) rfl dX8_readCommand_318 ?_
    refine lv_iconst (v := 1) hx hb dX8_readCommand_321 (by decide) ?_
    refine lv_isub hx hb dX8_readCommand_322 ?_
    refine zz_top (y := nI s0) (nI_pred s0) ?_
    refine va_put (ci := 5) (v := .int (nI s0)) (ty := .int) (C := RX8) (T := TX8) (N := 12) hx hb hts hin_X8 tyX8 tyX8_ok nmX8 hown hK hP hD hS 0 rfl rfl 10 (by decide) (hts (.fieldLink RX8 112 "ButtonGuestsModel" "spot" "I") (by decide +kernel)) (fun _ h9 => h9) rfl (by decide +kernel) rfl rfl (Nat.le_of_ble_eq_true rfl) dX8_readCommand_323 (fun H locs hP hD hS => ?_)
    have hP : va_P D vwCl (wj [[(b 0, .inr (5, [.int rf, .ref (b 1), .int (nI zs), .ref (b 2), .ref (b 3), .ref (b 4), .ref (b 5), .int ac, .ref (b 6), .ref (b 7), .int (nI s0), .int ou]))], [(b 1, .inl (cy 0, 120, .inl tx))], mW cy (b 3) w, mW cy (b 4) y4]) H := hP
    have hD : va_D A (wj [[(b 0, .inr (5, [.int rf, .ref (b 1), .int (nI zs), .ref (b 2), .ref (b 3), .ref (b 4), .ref (b 5), .int ac, .ref (b 6), .ref (b 7), .int (nI s0), .int ou]))], [(b 1, .inl (cy 0, 120, .inl tx))], mW cy (b 3) w, mW cy (b 4) y4]) := hD
    refine lv_iconst (v := 0) hx hb dX8_readCommand_326 (by decide) ?_
    exact hret _ _ H locs _ ((s0, ou, w), y4) dX8_readCommand_327 hP hD hS (rc_bad hz hs (by rw [hsg, c_66]; decide))
  by_cases c_67 : tx s0 = 110
  · refine lv_tableIn (off := 295) (tgt := 316) hx hb dX8_readCommand_21 (by rw [c_67]; decide) (by rw [c_67]; decide) (by rw [c_67]; rfl) (by decide) ?_
    refine lv_aload_n hx hb dX8_readCommand_316 rfl (lv_at hl 1 rfl) ?_
    refine lv_dup hx hb dX8_readCommand_317 rfl ?_
    refine va_get (ci := 5) (v := .int (nI (s0 + 1))) (C := RX8) (T := TX8) (N := 12) hx hb hts hin_X8 hown hK hP 0 rfl rfl 10 (by decide) (hts (.fieldLink RX8 112 "ButtonGuestsModel" "spot" "I") (by decide +kernel)) (fun _ h9 => h9) rfl dX8_readCommand_318 ?_
    refine lv_iconst (v := 1) hx hb dX8_readCommand_321 (by decide) ?_
    refine lv_isub hx hb dX8_readCommand_322 ?_
    refine zz_top (y := nI s0) (nI_pred s0) ?_
    refine va_put (ci := 5) (v := .int (nI s0)) (ty := .int) (C := RX8) (T := TX8) (N := 12) hx hb hts hin_X8 tyX8 tyX8_ok nmX8 hown hK hP hD hS 0 rfl rfl 10 (by decide) (hts (.fieldLink RX8 112 "ButtonGuestsModel" "spot" "I") (by decide +kernel)) (fun _ h9 => h9) rfl (by decide +kernel) rfl rfl (Nat.le_of_ble_eq_true rfl) dX8_readCommand_323 (fun H locs hP hD hS => ?_)
    have hP : va_P D vwCl (wj [[(b 0, .inr (5, [.int rf, .ref (b 1), .int (nI zs), .ref (b 2), .ref (b 3), .ref (b 4), .ref (b 5), .int ac, .ref (b 6), .ref (b 7), .int (nI s0), .int ou]))], [(b 1, .inl (cy 0, 120, .inl tx))], mW cy (b 3) w, mW cy (b 4) y4]) H := hP
    have hD : va_D A (wj [[(b 0, .inr (5, [.int rf, .ref (b 1), .int (nI zs), .ref (b 2), .ref (b 3), .ref (b 4), .ref (b 5), .int ac, .ref (b 6), .ref (b 7), .int (nI s0), .int ou]))], [(b 1, .inl (cy 0, 120, .inl tx))], mW cy (b 3) w, mW cy (b 4) y4]) := hD
    refine lv_iconst (v := 0) hx hb dX8_readCommand_326 (by decide) ?_
    exact hret _ _ H locs _ ((s0, ou, w), y4) dX8_readCommand_327 hP hD hS (rc_bad hz hs (by rw [hsg, c_67]; decide))
  by_cases c_68 : tx s0 = 111
  · refine lv_tableIn (off := 295) (tgt := 316) hx hb dX8_readCommand_21 (by rw [c_68]; decide) (by rw [c_68]; decide) (by rw [c_68]; rfl) (by decide) ?_
    refine lv_aload_n hx hb dX8_readCommand_316 rfl (lv_at hl 1 rfl) ?_
    refine lv_dup hx hb dX8_readCommand_317 rfl ?_
    refine va_get (ci := 5) (v := .int (nI (s0 + 1))) (C := RX8) (T := TX8) (N := 12) hx hb hts hin_X8 hown hK hP 0 rfl rfl 10 (by decide) (hts (.fieldLink RX8 112 "ButtonGuestsModel" "spot" "I") (by decide +kernel)) (fun _ h9 => h9) rfl dX8_readCommand_318 ?_
    refine lv_iconst (v := 1) hx hb dX8_readCommand_321 (by decide) ?_
    refine lv_isub hx hb dX8_readCommand_322 ?_
    refine zz_top (y := nI s0) (nI_pred s0) ?_
    refine va_put (ci := 5) (v := .int (nI s0)) (ty := .int) (C := RX8) (T := TX8) (N := 12) hx hb hts hin_X8 tyX8 tyX8_ok nmX8 hown hK hP hD hS 0 rfl rfl 10 (by decide) (hts (.fieldLink RX8 112 "ButtonGuestsModel" "spot" "I") (by decide +kernel)) (fun _ h9 => h9) rfl (by decide +kernel) rfl rfl (Nat.le_of_ble_eq_true rfl) dX8_readCommand_323 (fun H locs hP hD hS => ?_)
    have hP : va_P D vwCl (wj [[(b 0, .inr (5, [.int rf, .ref (b 1), .int (nI zs), .ref (b 2), .ref (b 3), .ref (b 4), .ref (b 5), .int ac, .ref (b 6), .ref (b 7), .int (nI s0), .int ou]))], [(b 1, .inl (cy 0, 120, .inl tx))], mW cy (b 3) w, mW cy (b 4) y4]) H := hP
    have hD : va_D A (wj [[(b 0, .inr (5, [.int rf, .ref (b 1), .int (nI zs), .ref (b 2), .ref (b 3), .ref (b 4), .ref (b 5), .int ac, .ref (b 6), .ref (b 7), .int (nI s0), .int ou]))], [(b 1, .inl (cy 0, 120, .inl tx))], mW cy (b 3) w, mW cy (b 4) y4]) := hD
    refine lv_iconst (v := 0) hx hb dX8_readCommand_326 (by decide) ?_
    exact hret _ _ H locs _ ((s0, ou, w), y4) dX8_readCommand_327 hP hD hS (rc_bad hz hs (by rw [hsg, c_68]; decide))
  by_cases c_69 : tx s0 = 112
  · refine lv_tableIn (off := 89) (tgt := 110) hx hb dX8_readCommand_21 (by rw [c_69]; decide) (by rw [c_69]; decide) (by rw [c_69]; rfl) (by decide) ?_
    refine lv_aload_n hx hb dX8_readCommand_110 rfl (lv_at hl 1 rfl) ?_
    refine lv_iconst (v := 0) hx hb dX8_readCommand_111 (by decide) ?_
    refine lv_iconst (v := 1) hx hb dX8_readCommand_112 (by decide) ?_
    refine lv_iconst (v := 0) hx hb dX8_readCommand_113 (by decide) ?_
    refine lv_iconst (v := 3) hx hb dX8_readCommand_114 (by decide) ?_
    refine wr_i (fun u => wj [[(b 0, .inr (5, [.int rf, .ref (b 1), .int (nI zs), .ref (b 2), .ref (b 3), .ref (b 4), .ref (b 5), .int ac, .ref (b 6), .ref (b 7), .int (nI u), .int ou]))], [(b 1, .inl (cy 0, 120, .inl tx))], mW cy (b 3) w, mW cy (b 4) y4]) (va_runV (As := [.int 0, .int 1, .int 0, .int 3]) (rest := []) hF (c_X8_figures_1 l D cy b rf ac ou tx zs (s0 + 1) ht (by omega) 0 0 3 (by decide) (by decide) H.size) (cwV 4 hts gX8_readCommand_X8_figures rfl rfl rfl (by decide +kernel) ⟨Nat.le_of_ble_eq_true rfl, Nat.le_of_ble_eq_true rfl⟩) (wr_preV hK hP hD (zz_pick [[(b 0, .inr (5, [.int rf, .ref (b 1), .int (nI zs), .ref (b 2), .ref (b 3), .ref (b 4), .ref (b 5), .int ac, .ref (b 6), .ref (b 7), .int (nI (s0 + 1)), .int ou]))], [(b 1, .inl (cy 0, 120, .inl tx))], mW cy (b 3) w, mW cy (b 4) y4] [0, 1] [2, 3] (show List.Perm ([0, 1] ++ [2, 3]) (List.range 4) by decide) rfl rfl) 0 5 rfl rfl rfl) rfl rfl hl.1 rfl (lv_room (Nat.le_of_ble_eq_true rfl)) dX8_readCommand_115 ⟨Nat.le_of_ble_eq_true rfl, Nat.le_of_ble_eq_true rfl⟩) hP hD hS hA (zz_pick [[(b 0, .inr (5, [.int rf, .ref (b 1), .int (nI zs), .ref (b 2), .ref (b 3), .ref (b 4), .ref (b 5), .int ac, .ref (b 6), .ref (b 7), .int (nI (s0 + 1)), .int ou]))], [(b 1, .inl (cy 0, 120, .inl tx))], mW cy (b 3) w, mW cy (b 4) y4] [0, 1] [2, 3] (show List.Perm ([0, 1] ++ [2, 3]) (List.range 4) by decide) rfl rfl) (fun u => (zz_pick [[(b 0, .inr (5, [.int rf, .ref (b 1), .int (nI zs), .ref (b 2), .ref (b 3), .ref (b 4), .ref (b 5), .int ac, .ref (b 6), .ref (b 7), .int (nI u), .int ou]))], [(b 1, .inl (cy 0, 120, .inl tx))], mW cy (b 3) w, mW cy (b 4) y4] [0, 1] [2, 3] (show List.Perm ([0, 1] ++ [2, 3]) (List.range 4) by decide) rfl rfl)) (fun r_70 u_71 H locs e_72 hP hD hS => ?_)
    rcases e_72 with ⟨rfl, rfl, o1⟩ | ⟨-, o1, rfl, rfl⟩
    · replace o1 := o1.resolve_left (by decide)
      have hP : va_P D vwCl (wj [[(b 0, .inr (5, [.int rf, .ref (b 1), .int (nI zs), .ref (b 2), .ref (b 3), .ref (b 4), .ref (b 5), .int ac, .ref (b 6), .ref (b 7), .int (nI (s0 + 1)), .int ou]))], [(b 1, .inl (cy 0, 120, .inl tx))], mW cy (b 3) w, mW cy (b 4) y4]) H := hP
      have hD : va_D A (wj [[(b 0, .inr (5, [.int rf, .ref (b 1), .int (nI zs), .ref (b 2), .ref (b 3), .ref (b 4), .ref (b 5), .int ac, .ref (b 6), .ref (b 7), .int (nI (s0 + 1)), .int ou]))], [(b 1, .inl (cy 0, 120, .inl tx))], mW cy (b 3) w, mW cy (b 4) y4]) := hD
      refine lv_istore_n (lv' := [(3, .int ((-1))), (2, .int (tx s0)), (0, .ref (b 0)), (1, .ref (b 3))]) hx hb dX8_readCommand_118 rfl hl (by decide) rfl (fun ls hl => ?_)
      refine lv_iload_n hx hb dX8_readCommand_119 rfl (lv_at hl 0 rfl) ?_
      refine lv_iconst (v := (-1)) hx hb dX8_readCommand_120 (by decide) ?_
      refine lv_icmp_eq (tgt := 164) hx hb dX8_readCommand_121 (by decide) (fun c_73 => ?_) (fun c_73 => ?_)
      · refine lv_iconst (v := 0) hx hb dX8_readCommand_164 (by decide) ?_
        exact hret _ _ H locs _ ((s0 + 1, ou, w), y4) dX8_readCommand_165 hP hD hS (Or.inr ⟨rfl, rpn_1 hs (hsg.trans c_69) (Or.inl rfl) o1, show s0 + 1 < 2 ^ 31 by omega⟩)
      · exact absurd c_73 (by decide)
    · have hlt1 := okD_lt (by decide) (by omega) o1
      obtain ⟨j1, hl1, hj1, e1⟩ := okD_nat (by decide) o1 (by decide)
      refine zz_top (y := nI j1) e1 ?_
      have hP : va_P D vwCl (wj [[(b 0, .inr (5, [.int rf, .ref (b 1), .int (nI zs), .ref (b 2), .ref (b 3), .ref (b 4), .ref (b 5), .int ac, .ref (b 6), .ref (b 7), .int (nI (s0 + 1 + 1)), .int ou]))], [(b 1, .inl (cy 0, 120, .inl tx))], mW cy (b 3) w, mW cy (b 4) y4]) H := hP
      have hD : va_D A (wj [[(b 0, .inr (5, [.int rf, .ref (b 1), .int (nI zs), .ref (b 2), .ref (b 3), .ref (b 4), .ref (b 5), .int ac, .ref (b 6), .ref (b 7), .int (nI (s0 + 1 + 1)), .int ou]))], [(b 1, .inl (cy 0, 120, .inl tx))], mW cy (b 3) w, mW cy (b 4) y4]) := hD
      refine lv_istore_n (lv' := [(3, .int (nI j1)), (2, .int (tx s0)), (0, .ref (b 0)), (1, .ref (b 3))]) hx hb dX8_readCommand_118 rfl hl (by decide) rfl (fun ls hl => ?_)
      refine lv_iload_n hx hb dX8_readCommand_119 rfl (lv_at hl 0 rfl) ?_
      refine lv_iconst (v := (-1)) hx hb dX8_readCommand_120 (by decide) ?_
      refine lv_icmp_eq (tgt := 164) hx hb dX8_readCommand_121 (by decide) (fun c_74 => ?_) (fun c_74 => ?_)
      · have c_74 : (nI j1) = ((-1)) := c_74
        exact absurd c_74 (ne_m1 (by omega))
      · have c_74 : ¬ (nI j1) = ((-1)) := c_74
        refine lv_aload_n hx hb dX8_readCommand_124 rfl (lv_at hl 2 rfl) ?_
        refine lv_aload_n hx hb dX8_readCommand_125 rfl (lv_at hl 3 rfl) ?_
        refine lv_iload_n hx hb dX8_readCommand_126 rfl (lv_at hl 0 rfl) ?_
        refine rd_S (As := [.ref (b 3), .int (nI j1)]) (rest := [.ref (b 0)]) hF (c_X8_isGuest l D cy (b 3) n hn w (hR.gy) (nI j1)) (va_cwS 2 hts gX8_readCommand_X8_isGuest rfl rfl rfl (by decide +kernel) ⟨Nat.le_of_ble_eq_true rfl, Nat.le_of_ble_eq_true rfl⟩) hK (hP.sub [2] rfl) rfl hl.1 rfl (Nat.le_of_ble_eq_true rfl) dX8_readCommand_127 ⟨Nat.le_of_ble_eq_true rfl, Nat.le_of_ble_eq_true rfl⟩ ?_
        refine zz_top (y := zb (isG (nI n) (nI j1))) (by rw [hR.gy]) ?_
        refine lv_if_eq (tgt := 153) hx hb dX8_readCommand_130 (by decide) (fun c_75 => ?_) (fun c_75 => ?_)
        · have c_75 := zb_eq.mp c_75
          refine lv_iconst (v := 0) hx hb dX8_readCommand_153 (by decide) ?_
          refine wr_i (fun u => wj [[(b 0, .inr (5, [.int rf, .ref (b 1), .int (nI zs), .ref (b 2), .ref (b 3), .ref (b 4), .ref (b 5), .int ac, .ref (b 6), .ref (b 7), .int (nI (s0 + 1 + 1)), .int u]))], [(b 1, .inl (cy 0, 120, .inl tx))], mW cy (b 3) w, mW cy (b 4) y4]) (va_runV (As := [.int 0]) (rest := []) hF (c_X8_done l D cy b rf (nI zs) ac (nI (s0 + 1 + 1)) ou 0 H.size) (cwV 1 hts gX8_readCommand_X8_done rfl rfl rfl (by decide +kernel) ⟨Nat.le_of_ble_eq_true rfl, Nat.le_of_ble_eq_true rfl⟩) (wr_preV hK hP hD (zz_pick [[(b 0, .inr (5, [.int rf, .ref (b 1), .int (nI zs), .ref (b 2), .ref (b 3), .ref (b 4), .ref (b 5), .int ac, .ref (b 6), .ref (b 7), .int (nI (s0 + 1 + 1)), .int ou]))], [(b 1, .inl (cy 0, 120, .inl tx))], mW cy (b 3) w, mW cy (b 4) y4] [0] [1, 2, 3] (show List.Perm ([0] ++ [1, 2, 3]) (List.range 4) by decide) rfl rfl) 0 5 rfl rfl rfl) rfl rfl hl.1 rfl (lv_room (Nat.le_of_ble_eq_true rfl)) dX8_readCommand_154 ⟨Nat.le_of_ble_eq_true rfl, Nat.le_of_ble_eq_true rfl⟩) hP hD hS hA (zz_pick [[(b 0, .inr (5, [.int rf, .ref (b 1), .int (nI zs), .ref (b 2), .ref (b 3), .ref (b 4), .ref (b 5), .int ac, .ref (b 6), .ref (b 7), .int (nI (s0 + 1 + 1)), .int ou]))], [(b 1, .inl (cy 0, 120, .inl tx))], mW cy (b 3) w, mW cy (b 4) y4] [0] [1, 2, 3] (show List.Perm ([0] ++ [1, 2, 3]) (List.range 4) by decide) rfl rfl) (fun u => (zz_pick [[(b 0, .inr (5, [.int rf, .ref (b 1), .int (nI zs), .ref (b 2), .ref (b 3), .ref (b 4), .ref (b 5), .int ac, .ref (b 6), .ref (b 7), .int (nI (s0 + 1 + 1)), .int u]))], [(b 1, .inl (cy 0, 120, .inl tx))], mW cy (b 3) w, mW cy (b 4) y4] [0] [1, 2, 3] (show List.Perm ([0] ++ [1, 2, 3]) (List.range 4) by decide) rfl rfl)) (fun r_76 u_77 H locs e_78 hP hD hS => ?_)
          obtain ⟨rfl, e_78⟩ := e_78
          rw [if_pos (by decide)] at e_78
          obtain rfl : ou + 1 = u_77 := e_78.symm
          have hP : va_P D vwCl (wj [[(b 0, .inr (5, [.int rf, .ref (b 1), .int (nI zs), .ref (b 2), .ref (b 3), .ref (b 4), .ref (b 5), .int ac, .ref (b 6), .ref (b 7), .int (nI (s0 + 1 + 1)), .int (ou + 1)]))], [(b 1, .inl (cy 0, 120, .inl tx))], mW cy (b 3) w, mW cy (b 4) y4]) H := hP
          have hD : va_D A (wj [[(b 0, .inr (5, [.int rf, .ref (b 1), .int (nI zs), .ref (b 2), .ref (b 3), .ref (b 4), .ref (b 5), .int ac, .ref (b 6), .ref (b 7), .int (nI (s0 + 1 + 1)), .int (ou + 1)]))], [(b 1, .inl (cy 0, 120, .inl tx))], mW cy (b 3) w, mW cy (b 4) y4]) := hD
          refine lv_if_eq (tgt := 164) hx hb dX8_readCommand_157 (by decide) (fun c_79 => ?_) (fun c_79 => ?_)
          · exact absurd c_79 (by decide)
          · refine lv_iconst (v := 1) hx hb dX8_readCommand_160 (by decide) ?_
            refine lv_goto (tgt := 165) hx hb dX8_readCommand_161 (by decide) ?_
            exact hret _ _ H locs _ ((s0 + 1 + 1, ou + 1, w), y4) dX8_readCommand_165 hP hD hS ((rc_p hz hs (hsg.trans c_69) hn hR o1 hj1 e1).2 (by rw [reas_no hR.1 c_75]; decide))
        · have c_75 := zb_ne.mp c_75
          have hgl := isG_lt hn (by omega) c_75
          refine lv_aload_n hx hb dX8_readCommand_133 rfl (lv_at hl 3 rfl) ?_
          refine lv_iload_n hx hb dX8_readCommand_134 rfl (lv_at hl 0 rfl) ?_
          refine rd_S (As := [.ref (b 3), .int (nI j1)]) (rest := [.ref (b 0)]) hF (c_X8_reason l D cy (b 3) n hn w (hR.gy) j1 (by omega)) (va_cwS 2 hts gX8_readCommand_X8_reason rfl rfl rfl (by decide +kernel) ⟨Nat.le_of_ble_eq_true rfl, Nat.le_of_ble_eq_true rfl⟩) hK (hP.sub [2] rfl) rfl hl.1 rfl (Nat.le_of_ble_eq_true rfl) dX8_readCommand_135 ⟨Nat.le_of_ble_eq_true rfl, Nat.le_of_ble_eq_true rfl⟩ ?_
          refine zz_top (y := hReas x (nI j1)) (rel_reas hn hR (by omega)) ?_
          refine lv_if_ne (tgt := 153) hx hb dX8_readCommand_138 (by decide) (fun c_80 => ?_) (fun c_80 => ?_)
          · have c_80 : ¬ (hReas x (nI j1)) = 0 := c_80
            refine lv_iconst (v := 0) hx hb dX8_readCommand_153 (by decide) ?_
            refine wr_i (fun u => wj [[(b 0, .inr (5, [.int rf, .ref (b 1), .int (nI zs), .ref (b 2), .ref (b 3), .ref (b 4), .ref (b 5), .int ac, .ref (b 6), .ref (b 7), .int (nI (s0 + 1 + 1)), .int u]))], [(b 1, .inl (cy 0, 120, .inl tx))], mW cy (b 3) w, mW cy (b 4) y4]) (va_runV (As := [.int 0]) (rest := []) hF (c_X8_done l D cy b rf (nI zs) ac (nI (s0 + 1 + 1)) ou 0 H.size) (cwV 1 hts gX8_readCommand_X8_done rfl rfl rfl (by decide +kernel) ⟨Nat.le_of_ble_eq_true rfl, Nat.le_of_ble_eq_true rfl⟩) (wr_preV hK hP hD (zz_pick [[(b 0, .inr (5, [.int rf, .ref (b 1), .int (nI zs), .ref (b 2), .ref (b 3), .ref (b 4), .ref (b 5), .int ac, .ref (b 6), .ref (b 7), .int (nI (s0 + 1 + 1)), .int ou]))], [(b 1, .inl (cy 0, 120, .inl tx))], mW cy (b 3) w, mW cy (b 4) y4] [0] [1, 2, 3] (show List.Perm ([0] ++ [1, 2, 3]) (List.range 4) by decide) rfl rfl) 0 5 rfl rfl rfl) rfl rfl hl.1 rfl (lv_room (Nat.le_of_ble_eq_true rfl)) dX8_readCommand_154 ⟨Nat.le_of_ble_eq_true rfl, Nat.le_of_ble_eq_true rfl⟩) hP hD hS hA (zz_pick [[(b 0, .inr (5, [.int rf, .ref (b 1), .int (nI zs), .ref (b 2), .ref (b 3), .ref (b 4), .ref (b 5), .int ac, .ref (b 6), .ref (b 7), .int (nI (s0 + 1 + 1)), .int ou]))], [(b 1, .inl (cy 0, 120, .inl tx))], mW cy (b 3) w, mW cy (b 4) y4] [0] [1, 2, 3] (show List.Perm ([0] ++ [1, 2, 3]) (List.range 4) by decide) rfl rfl) (fun u => (zz_pick [[(b 0, .inr (5, [.int rf, .ref (b 1), .int (nI zs), .ref (b 2), .ref (b 3), .ref (b 4), .ref (b 5), .int ac, .ref (b 6), .ref (b 7), .int (nI (s0 + 1 + 1)), .int u]))], [(b 1, .inl (cy 0, 120, .inl tx))], mW cy (b 3) w, mW cy (b 4) y4] [0] [1, 2, 3] (show List.Perm ([0] ++ [1, 2, 3]) (List.range 4) by decide) rfl rfl)) (fun r_81 u_82 H locs e_83 hP hD hS => ?_)
            obtain ⟨rfl, e_83⟩ := e_83
            rw [if_pos (by decide)] at e_83
            obtain rfl : ou + 1 = u_82 := e_83.symm
            have hP : va_P D vwCl (wj [[(b 0, .inr (5, [.int rf, .ref (b 1), .int (nI zs), .ref (b 2), .ref (b 3), .ref (b 4), .ref (b 5), .int ac, .ref (b 6), .ref (b 7), .int (nI (s0 + 1 + 1)), .int (ou + 1)]))], [(b 1, .inl (cy 0, 120, .inl tx))], mW cy (b 3) w, mW cy (b 4) y4]) H := hP
            have hD : va_D A (wj [[(b 0, .inr (5, [.int rf, .ref (b 1), .int (nI zs), .ref (b 2), .ref (b 3), .ref (b 4), .ref (b 5), .int ac, .ref (b 6), .ref (b 7), .int (nI (s0 + 1 + 1)), .int (ou + 1)]))], [(b 1, .inl (cy 0, 120, .inl tx))], mW cy (b 3) w, mW cy (b 4) y4]) := hD
            refine lv_if_eq (tgt := 164) hx hb dX8_readCommand_157 (by decide) (fun c_84 => ?_) (fun c_84 => ?_)
            · exact absurd c_84 (by decide)
            · refine lv_iconst (v := 1) hx hb dX8_readCommand_160 (by decide) ?_
              refine lv_goto (tgt := 165) hx hb dX8_readCommand_161 (by decide) ?_
              exact hret _ _ H locs _ ((s0 + 1 + 1, ou + 1, w), y4) dX8_readCommand_165 hP hD hS ((rc_p hz hs (hsg.trans c_69) hn hR o1 hj1 e1).2 c_80)
          · have c_80 : (hReas x (nI j1)) = 0 := c_80
            have hre := c_80
            refine lv_aload_n hx hb dX8_readCommand_141 rfl (lv_at hl 3 rfl) ?_
            refine lv_iload_n hx hb dX8_readCommand_142 rfl (lv_at hl 0 rfl) ?_
            refine wr_i (fun u => wj [[(b 0, .inr (5, [.int rf, .ref (b 1), .int (nI zs), .ref (b 2), .ref (b 3), .ref (b 4), .ref (b 5), .int ac, .ref (b 6), .ref (b 7), .int (nI (s0 + 1 + 1)), .int ou]))], [(b 1, .inl (cy 0, 120, .inl tx))], mW cy (b 3) u, mW cy (b 4) y4]) (va_runS (As := [.ref (b 3), .int (nI j1)]) (rest := [.ref (b 0)]) hF (c_X8_pressOn l D cy (b 3) n hn w (hR.gy) H.size j1 (by omega) (hR.bu (by omega)) hR.fl) (va_cwS 2 hts gX8_readCommand_X8_pressOn rfl rfl rfl (by decide +kernel) ⟨Nat.le_of_ble_eq_true rfl, Nat.le_of_ble_eq_true rfl⟩) (wr_preS hK hP hD (zz_pick1 [[(b 0, .inr (5, [.int rf, .ref (b 1), .int (nI zs), .ref (b 2), .ref (b 3), .ref (b 4), .ref (b 5), .int ac, .ref (b 6), .ref (b 7), .int (nI (s0 + 1 + 1)), .int ou]))], [(b 1, .inl (cy 0, 120, .inl tx))], mW cy (b 3) w, mW cy (b 4) y4] 2 [0, 1, 3] (show List.Perm ([2] ++ [0, 1, 3]) (List.range 4) by decide) rfl rfl)) rfl rfl hl.1 rfl (lv_room (Nat.le_of_ble_eq_true rfl)) dX8_readCommand_143 ⟨Nat.le_of_ble_eq_true rfl, Nat.le_of_ble_eq_true rfl⟩) hP hD hS hA (zz_pick1 [[(b 0, .inr (5, [.int rf, .ref (b 1), .int (nI zs), .ref (b 2), .ref (b 3), .ref (b 4), .ref (b 5), .int ac, .ref (b 6), .ref (b 7), .int (nI (s0 + 1 + 1)), .int ou]))], [(b 1, .inl (cy 0, 120, .inl tx))], mW cy (b 3) w, mW cy (b 4) y4] 2 [0, 1, 3] (show List.Perm ([2] ++ [0, 1, 3]) (List.range 4) by decide) rfl rfl) (fun u => (zz_pick1 [[(b 0, .inr (5, [.int rf, .ref (b 1), .int (nI zs), .ref (b 2), .ref (b 3), .ref (b 4), .ref (b 5), .int ac, .ref (b 6), .ref (b 7), .int (nI (s0 + 1 + 1)), .int ou]))], [(b 1, .inl (cy 0, 120, .inl tx))], mW cy (b 3) u, mW cy (b 4) y4] 2 [0, 1, 3] (show List.Perm ([2] ++ [0, 1, 3]) (List.range 4) by decide) rfl rfl)) (fun r_85 u_86 H locs e_87 hP hD hS => ?_)
            obtain ⟨rfl, rfl⟩ := e_87
            have hP : va_P D vwCl (wj [[(b 0, .inr (5, [.int rf, .ref (b 1), .int (nI zs), .ref (b 2), .ref (b 3), .ref (b 4), .ref (b 5), .int ac, .ref (b 6), .ref (b 7), .int (nI (s0 + 1 + 1)), .int ou]))], [(b 1, .inl (cy 0, 120, .inl tx))], mW cy (b 3) (mPress n j1 w), mW cy (b 4) y4]) H := hP
            have hD : va_D A (wj [[(b 0, .inr (5, [.int rf, .ref (b 1), .int (nI zs), .ref (b 2), .ref (b 3), .ref (b 4), .ref (b 5), .int ac, .ref (b 6), .ref (b 7), .int (nI (s0 + 1 + 1)), .int ou]))], [(b 1, .inl (cy 0, 120, .inl tx))], mW cy (b 3) (mPress n j1 w), mW cy (b 4) y4]) := hD
            refine lv_if_ne (tgt := 153) hx hb dX8_readCommand_146 (by decide) (fun c_88 => ?_) (fun c_88 => ?_)
            · have c_88 : ¬ (vReas w.1.2.1 w.2.1 w.2.2.1 w.2.2.2.2.2.2.1 w.2.2.2.2.2.2.2.1 j1) = 0 := c_88
              exact absurd ((rel_reas hn hR hgl).trans hre) c_88
            · have c_88 : (vReas w.1.2.1 w.2.1 w.2.2.1 w.2.2.2.2.2.2.1 w.2.2.2.2.2.2.2.1 j1) = 0 := c_88
              refine lv_iconst (v := 1) hx hb dX8_readCommand_149 (by decide) ?_
              refine lv_goto (tgt := 154) hx hb dX8_readCommand_150 (by decide) ?_
              refine wr_i (fun u => wj [[(b 0, .inr (5, [.int rf, .ref (b 1), .int (nI zs), .ref (b 2), .ref (b 3), .ref (b 4), .ref (b 5), .int ac, .ref (b 6), .ref (b 7), .int (nI (s0 + 1 + 1)), .int u]))], [(b 1, .inl (cy 0, 120, .inl tx))], mW cy (b 3) (mPress n j1 w), mW cy (b 4) y4]) (va_runV (As := [.int 1]) (rest := []) hF (c_X8_done l D cy b rf (nI zs) ac (nI (s0 + 1 + 1)) ou 1 H.size) (cwV 1 hts gX8_readCommand_X8_done rfl rfl rfl (by decide +kernel) ⟨Nat.le_of_ble_eq_true rfl, Nat.le_of_ble_eq_true rfl⟩) (wr_preV hK hP hD (zz_pick [[(b 0, .inr (5, [.int rf, .ref (b 1), .int (nI zs), .ref (b 2), .ref (b 3), .ref (b 4), .ref (b 5), .int ac, .ref (b 6), .ref (b 7), .int (nI (s0 + 1 + 1)), .int ou]))], [(b 1, .inl (cy 0, 120, .inl tx))], mW cy (b 3) (mPress n j1 w), mW cy (b 4) y4] [0] [1, 2, 3] (show List.Perm ([0] ++ [1, 2, 3]) (List.range 4) by decide) rfl rfl) 0 5 rfl rfl rfl) rfl rfl hl.1 rfl (lv_room (Nat.le_of_ble_eq_true rfl)) dX8_readCommand_154 ⟨Nat.le_of_ble_eq_true rfl, Nat.le_of_ble_eq_true rfl⟩) hP hD hS hA (zz_pick [[(b 0, .inr (5, [.int rf, .ref (b 1), .int (nI zs), .ref (b 2), .ref (b 3), .ref (b 4), .ref (b 5), .int ac, .ref (b 6), .ref (b 7), .int (nI (s0 + 1 + 1)), .int ou]))], [(b 1, .inl (cy 0, 120, .inl tx))], mW cy (b 3) (mPress n j1 w), mW cy (b 4) y4] [0] [1, 2, 3] (show List.Perm ([0] ++ [1, 2, 3]) (List.range 4) by decide) rfl rfl) (fun u => (zz_pick [[(b 0, .inr (5, [.int rf, .ref (b 1), .int (nI zs), .ref (b 2), .ref (b 3), .ref (b 4), .ref (b 5), .int ac, .ref (b 6), .ref (b 7), .int (nI (s0 + 1 + 1)), .int u]))], [(b 1, .inl (cy 0, 120, .inl tx))], mW cy (b 3) (mPress n j1 w), mW cy (b 4) y4] [0] [1, 2, 3] (show List.Perm ([0] ++ [1, 2, 3]) (List.range 4) by decide) rfl rfl)) (fun r_89 u_90 H locs e_91 hP hD hS => ?_)
              obtain ⟨rfl, e_91⟩ := e_91
              rw [if_neg (by decide)] at e_91
              obtain rfl : ou = u_90 := e_91.symm
              have hP : va_P D vwCl (wj [[(b 0, .inr (5, [.int rf, .ref (b 1), .int (nI zs), .ref (b 2), .ref (b 3), .ref (b 4), .ref (b 5), .int ac, .ref (b 6), .ref (b 7), .int (nI (s0 + 1 + 1)), .int ou]))], [(b 1, .inl (cy 0, 120, .inl tx))], mW cy (b 3) (mPress n j1 w), mW cy (b 4) y4]) H := hP
              have hD : va_D A (wj [[(b 0, .inr (5, [.int rf, .ref (b 1), .int (nI zs), .ref (b 2), .ref (b 3), .ref (b 4), .ref (b 5), .int ac, .ref (b 6), .ref (b 7), .int (nI (s0 + 1 + 1)), .int ou]))], [(b 1, .inl (cy 0, 120, .inl tx))], mW cy (b 3) (mPress n j1 w), mW cy (b 4) y4]) := hD
              refine lv_if_eq (tgt := 164) hx hb dX8_readCommand_157 (by decide) (fun c_92 => ?_) (fun c_92 => ?_)
              · exact absurd c_92 (by decide)
              · refine lv_iconst (v := 1) hx hb dX8_readCommand_160 (by decide) ?_
                refine lv_goto (tgt := 165) hx hb dX8_readCommand_161 (by decide) ?_
                exact hret _ _ H locs _ ((s0 + 1 + 1, ou, (mPress n j1 w)), y4) dX8_readCommand_165 hP hD hS ((rc_p hz hs (hsg.trans c_69) hn hR o1 hj1 e1).1 hgl hre)
  by_cases c_93 : tx s0 = 113
  · refine lv_tableIn (off := 295) (tgt := 316) hx hb dX8_readCommand_21 (by rw [c_93]; decide) (by rw [c_93]; decide) (by rw [c_93]; rfl) (by decide) ?_
    refine lv_aload_n hx hb dX8_readCommand_316 rfl (lv_at hl 1 rfl) ?_
    refine lv_dup hx hb dX8_readCommand_317 rfl ?_
    refine va_get (ci := 5) (v := .int (nI (s0 + 1))) (C := RX8) (T := TX8) (N := 12) hx hb hts hin_X8 hown hK hP 0 rfl rfl 10 (by decide) (hts (.fieldLink RX8 112 "ButtonGuestsModel" "spot" "I") (by decide +kernel)) (fun _ h9 => h9) rfl dX8_readCommand_318 ?_
    refine lv_iconst (v := 1) hx hb dX8_readCommand_321 (by decide) ?_
    refine lv_isub hx hb dX8_readCommand_322 ?_
    refine zz_top (y := nI s0) (nI_pred s0) ?_
    refine va_put (ci := 5) (v := .int (nI s0)) (ty := .int) (C := RX8) (T := TX8) (N := 12) hx hb hts hin_X8 tyX8 tyX8_ok nmX8 hown hK hP hD hS 0 rfl rfl 10 (by decide) (hts (.fieldLink RX8 112 "ButtonGuestsModel" "spot" "I") (by decide +kernel)) (fun _ h9 => h9) rfl (by decide +kernel) rfl rfl (Nat.le_of_ble_eq_true rfl) dX8_readCommand_323 (fun H locs hP hD hS => ?_)
    have hP : va_P D vwCl (wj [[(b 0, .inr (5, [.int rf, .ref (b 1), .int (nI zs), .ref (b 2), .ref (b 3), .ref (b 4), .ref (b 5), .int ac, .ref (b 6), .ref (b 7), .int (nI s0), .int ou]))], [(b 1, .inl (cy 0, 120, .inl tx))], mW cy (b 3) w, mW cy (b 4) y4]) H := hP
    have hD : va_D A (wj [[(b 0, .inr (5, [.int rf, .ref (b 1), .int (nI zs), .ref (b 2), .ref (b 3), .ref (b 4), .ref (b 5), .int ac, .ref (b 6), .ref (b 7), .int (nI s0), .int ou]))], [(b 1, .inl (cy 0, 120, .inl tx))], mW cy (b 3) w, mW cy (b 4) y4]) := hD
    refine lv_iconst (v := 0) hx hb dX8_readCommand_326 (by decide) ?_
    exact hret _ _ H locs _ ((s0, ou, w), y4) dX8_readCommand_327 hP hD hS (rc_bad hz hs (by rw [hsg, c_93]; decide))
  by_cases c_94 : tx s0 = 114
  · refine lv_tableIn (off := 145) (tgt := 166) hx hb dX8_readCommand_21 (by rw [c_94]; decide) (by rw [c_94]; decide) (by rw [c_94]; rfl) (by decide) ?_
    refine lv_aload_n hx hb dX8_readCommand_166 rfl (lv_at hl 1 rfl) ?_
    refine lv_aload_n hx hb dX8_readCommand_167 rfl (lv_at hl 2 rfl) ?_
    refine wr_i (fun u => wj [[(b 0, .inr (5, [.int rf, .ref (b 1), .int (nI zs), .ref (b 2), .ref (b 3), .ref (b 4), .ref (b 5), .int ac, .ref (b 6), .ref (b 7), .int (nI (s0 + 1)), .int ou]))], [(b 1, .inl (cy 0, 120, .inl tx))], mW cy (b 3) u, mW cy (b 4) y4]) (va_runS (As := [.ref (b 3)]) (rest := [.ref (b 0)]) hF (c_X8_restOn l D cy (b 3) n hn w (hR.gy) H.size) (va_cwS 1 hts gX8_readCommand_X8_restOn rfl rfl rfl (by decide +kernel) ⟨Nat.le_of_ble_eq_true rfl, Nat.le_of_ble_eq_true rfl⟩) (wr_preS hK hP hD (zz_pick1 [[(b 0, .inr (5, [.int rf, .ref (b 1), .int (nI zs), .ref (b 2), .ref (b 3), .ref (b 4), .ref (b 5), .int ac, .ref (b 6), .ref (b 7), .int (nI (s0 + 1)), .int ou]))], [(b 1, .inl (cy 0, 120, .inl tx))], mW cy (b 3) w, mW cy (b 4) y4] 2 [0, 1, 3] (show List.Perm ([2] ++ [0, 1, 3]) (List.range 4) by decide) rfl rfl)) rfl rfl hl.1 rfl (lv_room (Nat.le_of_ble_eq_true rfl)) dX8_readCommand_168 ⟨Nat.le_of_ble_eq_true rfl, Nat.le_of_ble_eq_true rfl⟩) hP hD hS hA (zz_pick1 [[(b 0, .inr (5, [.int rf, .ref (b 1), .int (nI zs), .ref (b 2), .ref (b 3), .ref (b 4), .ref (b 5), .int ac, .ref (b 6), .ref (b 7), .int (nI (s0 + 1)), .int ou]))], [(b 1, .inl (cy 0, 120, .inl tx))], mW cy (b 3) w, mW cy (b 4) y4] 2 [0, 1, 3] (show List.Perm ([2] ++ [0, 1, 3]) (List.range 4) by decide) rfl rfl) (fun u => (zz_pick1 [[(b 0, .inr (5, [.int rf, .ref (b 1), .int (nI zs), .ref (b 2), .ref (b 3), .ref (b 4), .ref (b 5), .int ac, .ref (b 6), .ref (b 7), .int (nI (s0 + 1)), .int ou]))], [(b 1, .inl (cy 0, 120, .inl tx))], mW cy (b 3) u, mW cy (b 4) y4] 2 [0, 1, 3] (show List.Perm ([2] ++ [0, 1, 3]) (List.range 4) by decide) rfl rfl)) (fun r_95 u_96 H locs e_97 hP hD hS => ?_)
    obtain ⟨rfl, rfl⟩ := e_97
    have hP : va_P D vwCl (wj [[(b 0, .inr (5, [.int rf, .ref (b 1), .int (nI zs), .ref (b 2), .ref (b 3), .ref (b 4), .ref (b 5), .int ac, .ref (b 6), .ref (b 7), .int (nI (s0 + 1)), .int ou]))], [(b 1, .inl (cy 0, 120, .inl tx))], mW cy (b 3) (mRest n w), mW cy (b 4) y4]) H := hP
    have hD : va_D A (wj [[(b 0, .inr (5, [.int rf, .ref (b 1), .int (nI zs), .ref (b 2), .ref (b 3), .ref (b 4), .ref (b 5), .int ac, .ref (b 6), .ref (b 7), .int (nI (s0 + 1)), .int ou]))], [(b 1, .inl (cy 0, 120, .inl tx))], mW cy (b 3) (mRest n w), mW cy (b 4) y4]) := hD
    refine lv_if_lt (tgt := 178) hx hb dX8_readCommand_171 (by decide) (fun c_98 => ?_) (fun c_98 => ?_)
    · have c_98 : (hAG n (mRest n w)) < 0 := c_98
      exact absurd c_98 (agM_nn hn (relN_rest hR))
    · have c_98 : ¬ (hAG n (mRest n w)) < 0 := c_98
      refine lv_iconst (v := 1) hx hb dX8_readCommand_174 (by decide) ?_
      refine lv_goto (tgt := 179) hx hb dX8_readCommand_175 (by decide) ?_
      refine wr_i (fun u => wj [[(b 0, .inr (5, [.int rf, .ref (b 1), .int (nI zs), .ref (b 2), .ref (b 3), .ref (b 4), .ref (b 5), .int ac, .ref (b 6), .ref (b 7), .int (nI (s0 + 1)), .int u]))], [(b 1, .inl (cy 0, 120, .inl tx))], mW cy (b 3) (mRest n w), mW cy (b 4) y4]) (va_runV (As := [.int 1]) (rest := []) hF (c_X8_done l D cy b rf (nI zs) ac (nI (s0 + 1)) ou 1 H.size) (cwV 1 hts gX8_readCommand_X8_done rfl rfl rfl (by decide +kernel) ⟨Nat.le_of_ble_eq_true rfl, Nat.le_of_ble_eq_true rfl⟩) (wr_preV hK hP hD (zz_pick [[(b 0, .inr (5, [.int rf, .ref (b 1), .int (nI zs), .ref (b 2), .ref (b 3), .ref (b 4), .ref (b 5), .int ac, .ref (b 6), .ref (b 7), .int (nI (s0 + 1)), .int ou]))], [(b 1, .inl (cy 0, 120, .inl tx))], mW cy (b 3) (mRest n w), mW cy (b 4) y4] [0] [1, 2, 3] (show List.Perm ([0] ++ [1, 2, 3]) (List.range 4) by decide) rfl rfl) 0 5 rfl rfl rfl) rfl rfl hl.1 rfl (lv_room (Nat.le_of_ble_eq_true rfl)) dX8_readCommand_179 ⟨Nat.le_of_ble_eq_true rfl, Nat.le_of_ble_eq_true rfl⟩) hP hD hS hA (zz_pick [[(b 0, .inr (5, [.int rf, .ref (b 1), .int (nI zs), .ref (b 2), .ref (b 3), .ref (b 4), .ref (b 5), .int ac, .ref (b 6), .ref (b 7), .int (nI (s0 + 1)), .int ou]))], [(b 1, .inl (cy 0, 120, .inl tx))], mW cy (b 3) (mRest n w), mW cy (b 4) y4] [0] [1, 2, 3] (show List.Perm ([0] ++ [1, 2, 3]) (List.range 4) by decide) rfl rfl) (fun u => (zz_pick [[(b 0, .inr (5, [.int rf, .ref (b 1), .int (nI zs), .ref (b 2), .ref (b 3), .ref (b 4), .ref (b 5), .int ac, .ref (b 6), .ref (b 7), .int (nI (s0 + 1)), .int u]))], [(b 1, .inl (cy 0, 120, .inl tx))], mW cy (b 3) (mRest n w), mW cy (b 4) y4] [0] [1, 2, 3] (show List.Perm ([0] ++ [1, 2, 3]) (List.range 4) by decide) rfl rfl)) (fun r_99 u_100 H locs e_101 hP hD hS => ?_)
      obtain ⟨rfl, e_101⟩ := e_101
      rw [if_neg (by decide)] at e_101
      obtain rfl : ou = u_100 := e_101.symm
      have hP : va_P D vwCl (wj [[(b 0, .inr (5, [.int rf, .ref (b 1), .int (nI zs), .ref (b 2), .ref (b 3), .ref (b 4), .ref (b 5), .int ac, .ref (b 6), .ref (b 7), .int (nI (s0 + 1)), .int ou]))], [(b 1, .inl (cy 0, 120, .inl tx))], mW cy (b 3) (mRest n w), mW cy (b 4) y4]) H := hP
      have hD : va_D A (wj [[(b 0, .inr (5, [.int rf, .ref (b 1), .int (nI zs), .ref (b 2), .ref (b 3), .ref (b 4), .ref (b 5), .int ac, .ref (b 6), .ref (b 7), .int (nI (s0 + 1)), .int ou]))], [(b 1, .inl (cy 0, 120, .inl tx))], mW cy (b 3) (mRest n w), mW cy (b 4) y4]) := hD
      exact hret _ _ H locs _ ((s0 + 1, ou, (mRest n w)), y4) dX8_readCommand_182 hP hD hS (rc_r hs (hsg.trans c_94) hn hR)
  have hsw : (tx s0).toInt < 98 ∨ 114 < (tx s0).toInt := by
    have q0 := fun (v9 : Int32) (h : ¬ tx s0 = v9) => fun (q : (tx s0).toInt = v9.toInt) => h (Int32.toInt_inj.mp q)
    have q_c_1 : ¬ (tx s0).toInt = 98 := q0 98 c_1
    have q_c_9 : ¬ (tx s0).toInt = 99 := q0 99 c_9
    have q_c_10 : ¬ (tx s0).toInt = 100 := q0 100 c_10
    have q_c_11 : ¬ (tx s0).toInt = 101 := q0 101 c_11
    have q_c_38 : ¬ (tx s0).toInt = 102 := q0 102 c_38
    have q_c_39 : ¬ (tx s0).toInt = 103 := q0 103 c_39
    have q_c_43 : ¬ (tx s0).toInt = 104 := q0 104 c_43
    have q_c_44 : ¬ (tx s0).toInt = 105 := q0 105 c_44
    have q_c_45 : ¬ (tx s0).toInt = 106 := q0 106 c_45
    have q_c_46 : ¬ (tx s0).toInt = 107 := q0 107 c_46
    have q_c_47 : ¬ (tx s0).toInt = 108 := q0 108 c_47
    have q_c_66 : ¬ (tx s0).toInt = 109 := q0 109 c_66
    have q_c_67 : ¬ (tx s0).toInt = 110 := q0 110 c_67
    have q_c_68 : ¬ (tx s0).toInt = 111 := q0 111 c_68
    have q_c_69 : ¬ (tx s0).toInt = 112 := q0 112 c_69
    have q_c_93 : ¬ (tx s0).toInt = 113 := q0 113 c_93
    have q_c_94 : ¬ (tx s0).toInt = 114 := q0 114 c_94
    omega
  refine lv_tableOut (tgt := 316) hx hb dX8_readCommand_21 hsw (by decide) ?_
  refine lv_aload_n hx hb dX8_readCommand_316 rfl (lv_at hl 1 rfl) ?_
  refine lv_dup hx hb dX8_readCommand_317 rfl ?_
  refine va_get (ci := 5) (v := .int (nI (s0 + 1))) (C := RX8) (T := TX8) (N := 12) hx hb hts hin_X8 hown hK hP 0 rfl rfl 10 (by decide) (hts (.fieldLink RX8 112 "ButtonGuestsModel" "spot" "I") (by decide +kernel)) (fun _ h9 => h9) rfl dX8_readCommand_318 ?_
  refine lv_iconst (v := 1) hx hb dX8_readCommand_321 (by decide) ?_
  refine lv_isub hx hb dX8_readCommand_322 ?_
  refine zz_top (y := nI s0) (nI_pred s0) ?_
  refine va_put (ci := 5) (v := .int (nI s0)) (ty := .int) (C := RX8) (T := TX8) (N := 12) hx hb hts hin_X8 tyX8 tyX8_ok nmX8 hown hK hP hD hS 0 rfl rfl 10 (by decide) (hts (.fieldLink RX8 112 "ButtonGuestsModel" "spot" "I") (by decide +kernel)) (fun _ h9 => h9) rfl (by decide +kernel) rfl rfl (Nat.le_of_ble_eq_true rfl) dX8_readCommand_323 (fun H locs hP hD hS => ?_)
  have hP : va_P D vwCl (wj [[(b 0, .inr (5, [.int rf, .ref (b 1), .int (nI zs), .ref (b 2), .ref (b 3), .ref (b 4), .ref (b 5), .int ac, .ref (b 6), .ref (b 7), .int (nI s0), .int ou]))], [(b 1, .inl (cy 0, 120, .inl tx))], mW cy (b 3) w, mW cy (b 4) y4]) H := hP
  have hD : va_D A (wj [[(b 0, .inr (5, [.int rf, .ref (b 1), .int (nI zs), .ref (b 2), .ref (b 3), .ref (b 4), .ref (b 5), .int ac, .ref (b 6), .ref (b 7), .int (nI s0), .int ou]))], [(b 1, .inl (cy 0, 120, .inl tx))], mW cy (b 3) w, mW cy (b 4) y4]) := hD
  refine lv_iconst (v := 0) hx hb dX8_readCommand_326 (by decide) ?_
  exact hret _ _ H locs _ ((s0, ou, w), y4) dX8_readCommand_327 hP hD hS (rc_bad hz hs (by rw [hsg]; simp only [vDof, if_neg c_1, if_neg c_11, if_neg c_39, if_neg c_47, if_neg c_69, if_neg c_94]))
