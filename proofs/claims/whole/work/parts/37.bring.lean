theorem p4_le {e m : Nat} (h : e ≤ m) : 4 ^ e ≤ 4 ^ m := Nat.pow_le_pow_right (by decide) h
theorem bb_f {n m l e u g9 : Nat} {z : HS} {X : Bool} (hv : bB n m l z = X) (he : m = e + 1) (hu : u = 4 ^ e) (hG : g9 = l / u) (h : ¬ (g9 < n ∧ hReas z (nI g9) = 0)) : ¬ X = true := by
  subst he; subst hu; subst hG; subst hv
  simp only [bB, Bool.and_eq_true, decide_eq_true_eq]
  exact fun q => h q.1
theorem bb_n {n m l e u g9 : Nat} {z : HS} {X : Bool} (hv : bB n m l z = X) (he : m = e + 1) (hu : u = 4 ^ e) (hG : g9 = l / u) (h1 : g9 < n) (h2 : hReas z (nI g9) = 0) : bB n e (l % u) (hGo n g9 z) = X := by
  subst he; subst hu; subst hG; subst hv
  simp only [bB]
  rw [decide_eq_true ⟨h1, h2⟩, Bool.true_and]
theorem bb_end {n m l : Nat} {z : HS} {X : Bool} (hv : bB n m l z = X) (hm : m = 0) : zb (hHome n z) = zb (X = true) := by
  subst hm; subst hv
  exact zb_congr (by simp only [bB, decide_eq_true_eq])
abbrev rm_X8_bringsHome : Room := { frames := 4, cells := 0, slots := 0, locals := 92 }
set_option maxHeartbeats 4000000 in
set_option maxRecDepth 100000 in
theorem c_X8_bringsHome (l : Launch) (D : va_G) (cy : Nat → ClassId) (b : Nat → Nat) (a : Nat) (rf sn ac sp ou : Int32) (n : Nat) (hn : n ≤ 4) (x y y3 : HS) (hR : RelN n x y) (k9 : Nat) (hk9 : k9 ≤ 5) (r9 : Nat) (hr9 : r9 < 4 ^ k9) (sz : Nat) : Met l yX8_bringsHome wsX8_bringsHome rm_X8_bringsHome (wrP D cy [.ref (b 0), .ref a, .int (nI k9), .int (nI r9)] (wj [[(b 0, .inr (5, [.int rf, .ref (b 1), .int sn, .ref (b 2), .ref (b 3), .ref (b 4), .ref (b 5), .int ac, .ref (b 6), .ref (b 7), .int sp, .int ou]))], mW cy (b 4) y3, mW cy a y]) sz) (va_Qi (fun (r : Int32) (u : HS) => r = zb (bB n k9 r9 x = true)) (wrB D (va_A (wj [[(b 0, .inr (5, [.int rf, .ref (b 1), .int sn, .ref (b 2), .ref (b 3), .ref (b 4), .ref (b 5), .int ac, .ref (b 6), .ref (b 7), .int sp, .int ou]))], mW cy (b 4) y3, mW cy a y]) sz) (fun u => wj [[(b 0, .inr (5, [.int rf, .ref (b 1), .int sn, .ref (b 2), .ref (b 3), .ref (b 4), .ref (b 5), .int ac, .ref (b 6), .ref (b 7), .int sp, .int ou]))], mW cy (b 4) u, mW cy a y])) (va_A (wj [[(b 0, .inr (5, [.int rf, .ref (b 1), .int sn, .ref (b 2), .ref (b 3), .ref (b 4), .ref (b 5), .int ac, .ref (b 6), .ref (b 7), .int sp, .int ou]))], mW cy (b 4) y3, mW cy a y]) sz)) 0 0 (va_A (wj [[(b 0, .inr (5, [.int rf, .ref (b 1), .int sn, .ref (b 2), .ref (b 3), .ref (b 4), .ref (b 5), .int ac, .ref (b 6), .ref (b 7), .int sp, .int ou]))], mW cy (b 4) y3, mW cy a y]) sz) := by
  refine Mwi (cc := cX8_bringsHome) (maxL := 8) (ty := .boolean) (by decide) rfl (Nat.le_of_ble_eq_true rfl) (fun _ _ q => by rw [q]; exact zb_nar) ?_
  intro p e s m args below meth c Q ls A hsz hF hK hP hD hA hl hret
  obtain ⟨hx, hb, hml, hown, hts⟩ := id hF
  have hown : s.vm.findClass RX8 = some m.cls := hown
  have hin_X8 : ∀ w ∈ u_ws RX8 TX8 12, w ∈ wsX8_bringsHome := by decide +kernel
  have hl : lv_has ls 8 [(0, .ref (b 0)), (1, .ref a), (2, .int (nI k9)), (3, .int (nI r9))] := hl
  suffices key : ∀ (H : Heap) (locs : List Loc), va_P D vwCl (wj [[(b 0, .inr (5, [.int rf, .ref (b 1), .int sn, .ref (b 2), .ref (b 3), .ref (b 4), .ref (b 5), .int ac, .ref (b 6), .ref (b 7), .int sp, .int ou]))], mW cy (b 4) y3, mW cy a y]) H → va_D A (wj [[(b 0, .inr (5, [.int rf, .ref (b 1), .int sn, .ref (b 2), .ref (b 3), .ref (b 4), .ref (b 5), .int ac, .ref (b 6), .ref (b 7), .int sp, .int ou]))], mW cy (b 4) y3, mW cy a y]) → va_S A s.heap H locs → W p l e rm_X8_bringsHome s m args below meth c H locs 0 0 Q (F0 m 0 ls []) from key s.heap [] hP hD va_S.rf
  intro H locs hP hD hS
  refine lv_aload_n hx hb dX8_bringsHome_0 rfl (lv_at hl 1 rfl) ?_
  refine lv_iconst (v := 0) hx hb dX8_bringsHome_1 (by decide) ?_
  refine lv_aload_n hx hb dX8_bringsHome_2 rfl (lv_at hl 0 rfl) ?_
  refine va_get (ci := 5) (v := .ref (b 4)) (C := RX8) (T := TX8) (N := 12) hx hb hts hin_X8 hown hK hP 0 rfl rfl 5 (by decide) (hts (.fieldLink RX8 19 "ButtonGuestsModel" "third" "[I") (by decide +kernel)) (fun _ h9 => h9) rfl dX8_bringsHome_3 ?_
  refine lv_iconst (v := 0) hx hb dX8_bringsHome_6 (by decide) ?_
  refine wr_v (fun u => wj [[(b 0, .inr (5, [.int rf, .ref (b 1), .int sn, .ref (b 2), .ref (b 3), .ref (b 4), .ref (b 5), .int ac, .ref (b 6), .ref (b 7), .int sp, .int ou]))], mW cy (b 4) y, mW cy a y]) (va_runS (As := [.ref a, .int 0, .ref (b 4), .int 0]) (rest := []) hF (c_X8_copyState_s l D cy a (b 4) 42 0 (mOf y) y3 y (by omega) (by omega) (fun j _ => by rw [Nat.zero_add]) H.size) (va_cwS 4 hts gX8_bringsHome_X8_copyState rfl rfl rfl (by decide +kernel) ⟨Nat.le_of_ble_eq_true rfl, Nat.le_of_ble_eq_true rfl⟩) (wr_preS hK hP hD (zz_pick2 [[(b 0, .inr (5, [.int rf, .ref (b 1), .int sn, .ref (b 2), .ref (b 3), .ref (b 4), .ref (b 5), .int ac, .ref (b 6), .ref (b 7), .int sp, .int ou]))], mW cy (b 4) y3, mW cy a y] 2 1 [0] (show List.Perm ([2, 1] ++ [0]) (List.range 3) by decide) rfl rfl rfl)) rfl rfl hl.1 rfl (lv_room (Nat.le_of_ble_eq_true rfl)) dX8_bringsHome_7 ⟨Nat.le_of_ble_eq_true rfl, Nat.le_of_ble_eq_true rfl⟩) hP hD hS hA (zz_pick2 [[(b 0, .inr (5, [.int rf, .ref (b 1), .int sn, .ref (b 2), .ref (b 3), .ref (b 4), .ref (b 5), .int ac, .ref (b 6), .ref (b 7), .int sp, .int ou]))], mW cy (b 4) y3, mW cy a y] 2 1 [0] (show List.Perm ([2, 1] ++ [0]) (List.range 3) by decide) rfl rfl rfl) (fun _ => (zz_pick2 [[(b 0, .inr (5, [.int rf, .ref (b 1), .int sn, .ref (b 2), .ref (b 3), .ref (b 4), .ref (b 5), .int ac, .ref (b 6), .ref (b 7), .int sp, .int ou]))], mW cy (b 4) y, mW cy a y] 2 1 [0] (show List.Perm ([2, 1] ++ [0]) (List.range 3) by decide) rfl rfl rfl)) (fun u_1 H locs e_2 hP hD hS => ?_)
  have hP : va_P D vwCl (wj [[(b 0, .inr (5, [.int rf, .ref (b 1), .int sn, .ref (b 2), .ref (b 3), .ref (b 4), .ref (b 5), .int ac, .ref (b 6), .ref (b 7), .int sp, .int ou]))], mW cy (b 4) y, mW cy a y]) H := hP
  have hD : va_D A (wj [[(b 0, .inr (5, [.int rf, .ref (b 1), .int sn, .ref (b 2), .ref (b 3), .ref (b 4), .ref (b 5), .int ac, .ref (b 6), .ref (b 7), .int sp, .int ou]))], mW cy (b 4) y, mW cy a y]) := hD
  refine lv_iconst (v := 1) hx hb dX8_bringsHome_10 (by decide) ?_
  refine lv_istore (lv' := [(4, .int 1), (0, .ref (b 0)), (1, .ref a), (2, .int (nI k9)), (3, .int (nI r9))]) hx hb dX8_bringsHome_11 hl (by decide) rfl (fun ls hl => ?_)
  refine lv_iconst (v := 1) hx hb dX8_bringsHome_13 (by decide) ?_
  refine lv_istore (lv' := [(5, .int 1), (4, .int 1), (0, .ref (b 0)), (1, .ref a), (2, .int (nI k9)), (3, .int (nI r9))]) hx hb dX8_bringsHome_14 hl (by decide) rfl (fun ls hl => ?_)
  have loop : ∀ (k i u1 : Nat), 1 ≤ i → i ≤ 5 → i = 1 ∨ i ≤ k9 → 6 ≤ i + k → u1 = 4 ^ (i - 1) → ∀ (H : Heap) (locs : List Loc) (ls : Array Slot), va_P D vwCl (wj [[(b 0, .inr (5, [.int rf, .ref (b 1), .int sn, .ref (b 2), .ref (b 3), .ref (b 4), .ref (b 5), .int ac, .ref (b 6), .ref (b 7), .int sp, .int ou]))], mW cy (b 4) y, mW cy a y]) H → va_D A (wj [[(b 0, .inr (5, [.int rf, .ref (b 1), .int sn, .ref (b 2), .ref (b 3), .ref (b 4), .ref (b 5), .int ac, .ref (b 6), .ref (b 7), .int sp, .int ou]))], mW cy (b 4) y, mW cy a y]) → va_S A s.heap H locs → lv_has ls 8 [(5, .int (nI i)), (4, .int (nI u1)), (0, .ref (b 0)), (1, .ref a), (2, .int (nI k9)), (3, .int (nI r9))] → W p l e rm_X8_bringsHome s m args below meth c H locs 0 0 Q (F0 m 16 ls []) := by
    intro k
    induction k with
    | zero =>
      intro i u1 hi1 hi5 hik hk hu
      exact absurd hk (by omega)
    | succ k ih =>
      intro i u1 hi1 hi5 hik hk hu H locs ls hP hD hS hl
      refine lv_iload hx hb dX8_bringsHome_16 (lv_at hl 0 rfl) ?_
      refine lv_iload_n hx hb dX8_bringsHome_18 rfl (lv_at hl 4 rfl) ?_
      refine lv_icmp_ge (tgt := 34) hx hb dX8_bringsHome_19 (by decide) (fun c_3 => ?_) (fun c_3 => ?_)
      · have c_3 : k9 ≤ i := (nI_leI (a := k9) (b := i) (by omega) (by omega)).mp c_3
        refine lv_iload_n hx hb dX8_bringsHome_34 rfl (lv_at hl 5 rfl) ?_
        refine lv_istore (lv' := [(5, .int (nI r9)), (4, .int (nI u1)), (0, .ref (b 0)), (1, .ref a), (2, .int (nI k9)), (3, .int (nI r9))]) hx hb dX8_bringsHome_35 hl (by decide) rfl (fun ls hl => ?_)
        refine lv_iconst (v := 0) hx hb dX8_bringsHome_37 (by decide) ?_
        refine lv_istore (lv' := [(6, .int 0), (5, .int (nI r9)), (4, .int (nI u1)), (0, .ref (b 0)), (1, .ref a), (2, .int (nI k9)), (3, .int (nI r9))]) hx hb dX8_bringsHome_38 hl (by decide) rfl (fun ls hl => ?_)
        have loop2 : ∀ (k i2 l2 u2 : Nat) (z w : HS), i2 ≤ k9 → k9 + 1 ≤ i2 + k → l2 < 4 ^ (k9 - i2) → (i2 < k9 → u2 = 4 ^ (k9 - i2 - 1)) → 0 < u2 ∧ u2 ≤ 1024 → RelN n z w → bB n (k9 - i2) l2 z = bB n k9 r9 x → ∀ (H : Heap) (locs : List Loc) (ls : Array Slot), va_P D vwCl (wj [[(b 0, .inr (5, [.int rf, .ref (b 1), .int sn, .ref (b 2), .ref (b 3), .ref (b 4), .ref (b 5), .int ac, .ref (b 6), .ref (b 7), .int sp, .int ou]))], mW cy (b 4) w, mW cy a y]) H → va_D A (wj [[(b 0, .inr (5, [.int rf, .ref (b 1), .int sn, .ref (b 2), .ref (b 3), .ref (b 4), .ref (b 5), .int ac, .ref (b 6), .ref (b 7), .int sp, .int ou]))], mW cy (b 4) w, mW cy a y]) → va_S A s.heap H locs → lv_has ls 8 [(6, .int (nI i2)), (5, .int (nI l2)), (4, .int (nI u2)), (0, .ref (b 0)), (1, .ref a), (2, .int (nI k9)), (3, .int (nI r9))] → W p l e rm_X8_bringsHome s m args below meth c H locs 0 0 Q (F0 m 40 ls []) := by
          intro k
          induction k with
          | zero =>
            intro i2 l2 u2 z w hi2 hk hl2 hu2 hup hRw hv
            exact absurd hk (by omega)
          | succ k ih =>
            intro i2 l2 u2 z w hi2 hk hl2 hu2 hup hRw hv H locs ls hP hD hS hl
            refine lv_iload hx hb dX8_bringsHome_40 (lv_at hl 0 rfl) ?_
            refine lv_iload_n hx hb dX8_bringsHome_42 rfl (lv_at hl 5 rfl) ?_
            refine lv_icmp_ge (tgt := 121) hx hb dX8_bringsHome_43 (by decide) (fun c_4 => ?_) (fun c_4 => ?_)
            · have c_4 : k9 ≤ i2 := (nI_leI (a := k9) (b := i2) (by omega) (by omega)).mp c_4
              refine lv_aload_n hx hb dX8_bringsHome_121 rfl (lv_at hl 3 rfl) ?_
              refine va_get (ci := 5) (v := .ref (b 4)) (C := RX8) (T := TX8) (N := 12) hx hb hts hin_X8 hown hK hP 0 rfl rfl 5 (by decide) (hts (.fieldLink RX8 19 "ButtonGuestsModel" "third" "[I") (by decide +kernel)) (fun _ h9 => h9) rfl dX8_bringsHome_122 ?_
              refine rd_S (As := [.ref (b 4)]) (rest := []) hF (c_X8_areHome l D cy (b 4) n hn w (hRw.gy) ) (va_cwS 1 hts gX8_bringsHome_X8_areHome rfl rfl rfl (by decide +kernel) ⟨Nat.le_of_ble_eq_true rfl, Nat.le_of_ble_eq_true rfl⟩) hK (hP.sub [1] rfl) rfl hl.1 rfl (Nat.le_of_ble_eq_true rfl) dX8_bringsHome_125 ⟨Nat.le_of_ble_eq_true rfl, Nat.le_of_ble_eq_true rfl⟩ ?_
              refine zz_top (y := zb (hHome n z)) (zb_congr (by rw [rel_gi hRw.2.1, ← hRw.2.1.1])) ?_
              exact hret _ _ H locs _ w dX8_bringsHome_128 hP hD hS (bb_end hv (by omega))
            · have c_4 : ¬ k9 ≤ i2 := fun q => c_4 ((nI_leI (a := k9) (b := i2) (by omega) (by omega)).mpr q)
              have hlt : i2 < k9 := by omega
              obtain ⟨e9, he9⟩ : ∃ e, k9 - i2 = e + 1 := ⟨k9 - i2 - 1, by omega⟩
              have hu4 : u2 = 4 ^ e9 := by rw [hu2 hlt]; congr 1; omega
              have hp4 : 4 ^ e9 ≤ 1024 := p4_le (m := 5) (show e9 ≤ 5 by omega)
              have hl5 : l2 < 4096 := by rw [he9, Nat.pow_succ] at hl2; omega
              obtain ⟨g9, hG⟩ : ∃ G, G = l2 / u2 := ⟨_, rfl⟩
              have hG2 : g9 ≤ l2 := by rw [hG]; exact Nat.div_le_self _ _
              refine lv_iload hx hb dX8_bringsHome_46 (lv_at hl 1 rfl) ?_
              refine lv_iload hx hb dX8_bringsHome_48 (lv_at hl 2 rfl) ?_
              refine lv_idiv hx hb dX8_bringsHome_50 (nI_ne0 (by omega) (by omega)) ?_
              refine zz_top (y := nI g9) (by rw [hG]; exact pk_div (by omega) (by omega) (by omega)) ?_
              refine lv_istore (lv' := [(7, .int (nI g9)), (6, .int (nI i2)), (5, .int (nI l2)), (4, .int (nI u2)), (0, .ref (b 0)), (1, .ref a), (2, .int (nI k9)), (3, .int (nI r9))]) hx hb dX8_bringsHome_51 hl (by decide) rfl (fun ls hl => ?_)
              refine lv_iload hx hb dX8_bringsHome_53 (lv_at hl 2 rfl) ?_
              refine lv_iload hx hb dX8_bringsHome_55 (lv_at hl 3 rfl) ?_
              refine lv_irem hx hb dX8_bringsHome_57 (nI_ne0 (by omega) (by omega)) ?_
              refine zz_top (y := nI (l2 % u2)) (pk_rem (by omega) (by omega) (by omega)) ?_
              refine lv_istore (lv' := [(5, .int (nI (l2 % u2))), (7, .int (nI g9)), (6, .int (nI i2)), (4, .int (nI u2)), (0, .ref (b 0)), (1, .ref a), (2, .int (nI k9)), (3, .int (nI r9))]) hx hb dX8_bringsHome_58 hl (by decide) rfl (fun ls hl => ?_)
              refine lv_iload hx hb dX8_bringsHome_60 (lv_at hl 3 rfl) ?_
              refine lv_iconst (v := 4) hx hb dX8_bringsHome_62 (by decide) ?_
              refine lv_idiv hx hb dX8_bringsHome_63 (by decide) ?_
              refine zz_top (y := nI (u2 / 4)) (pk_div (by omega) (by decide) (by decide)) ?_
              refine lv_istore (lv' := [(4, .int (nI (u2 / 4))), (5, .int (nI (l2 % u2))), (7, .int (nI g9)), (6, .int (nI i2)), (0, .ref (b 0)), (1, .ref a), (2, .int (nI k9)), (3, .int (nI r9))]) hx hb dX8_bringsHome_64 hl (by decide) rfl (fun ls hl => ?_)
              refine lv_aload_n hx hb dX8_bringsHome_66 rfl (lv_at hl 4 rfl) ?_
              refine va_get (ci := 5) (v := .ref (b 4)) (C := RX8) (T := TX8) (N := 12) hx hb hts hin_X8 hown hK hP 0 rfl rfl 5 (by decide) (hts (.fieldLink RX8 19 "ButtonGuestsModel" "third" "[I") (by decide +kernel)) (fun _ h9 => h9) rfl dX8_bringsHome_67 ?_
              refine lv_iload hx hb dX8_bringsHome_70 (lv_at hl 2 rfl) ?_
              refine rd_S (As := [.ref (b 4), .int (nI g9)]) (rest := []) hF (c_X8_isGuest l D cy (b 4) n hn w (hRw.gy) (nI g9)) (va_cwS 2 hts gX8_bringsHome_X8_isGuest rfl rfl rfl (by decide +kernel) ⟨Nat.le_of_ble_eq_true rfl, Nat.le_of_ble_eq_true rfl⟩) hK (hP.sub [1] rfl) rfl hl.1 rfl (Nat.le_of_ble_eq_true rfl) dX8_bringsHome_72 ⟨Nat.le_of_ble_eq_true rfl, Nat.le_of_ble_eq_true rfl⟩ ?_
              refine zz_top (y := zb (isG (nI n) (nI g9))) (by rw [hRw.gy]) ?_
              refine lv_if_eq (tgt := 90) hx hb dX8_bringsHome_75 (by decide) (fun c_5 => ?_) (fun c_5 => ?_)
              · have c_5 := zb_eq.mp c_5
                refine lv_iconst (v := 0) hx hb dX8_bringsHome_90 (by decide) ?_
                exact hret _ _ H locs _ w dX8_bringsHome_91 hP hD hS (zb_f (bb_f hv he9 hu4 hG (fun q => c_5 (isG_nI hn q.1))))
              · have c_5 := zb_ne.mp c_5
                have hgl := isG_lt hn (by omega) c_5
                refine lv_aload_n hx hb dX8_bringsHome_78 rfl (lv_at hl 4 rfl) ?_
                refine va_get (ci := 5) (v := .ref (b 4)) (C := RX8) (T := TX8) (N := 12) hx hb hts hin_X8 hown hK hP 0 rfl rfl 5 (by decide) (hts (.fieldLink RX8 19 "ButtonGuestsModel" "third" "[I") (by decide +kernel)) (fun _ h9 => h9) rfl dX8_bringsHome_79 ?_
                refine lv_iload hx hb dX8_bringsHome_82 (lv_at hl 2 rfl) ?_
                refine rd_S (As := [.ref (b 4), .int (nI g9)]) (rest := []) hF (c_X8_reason l D cy (b 4) n hn w (hRw.gy) g9 (by omega)) (va_cwS 2 hts gX8_bringsHome_X8_reason rfl rfl rfl (by decide +kernel) ⟨Nat.le_of_ble_eq_true rfl, Nat.le_of_ble_eq_true rfl⟩) hK (hP.sub [1] rfl) rfl hl.1 rfl (Nat.le_of_ble_eq_true rfl) dX8_bringsHome_84 ⟨Nat.le_of_ble_eq_true rfl, Nat.le_of_ble_eq_true rfl⟩ ?_
                refine zz_top (y := hReas z (nI g9)) (rel_reas hn hRw (by omega)) ?_
                refine lv_if_eq (tgt := 92) hx hb dX8_bringsHome_87 (by decide) (fun c_6 => ?_) (fun c_6 => ?_)
                · have c_6 : (hReas z (nI g9)) = 0 := c_6
                  have hre := c_6
                  refine lv_aload_n hx hb dX8_bringsHome_92 rfl (lv_at hl 4 rfl) ?_
                  refine va_get (ci := 5) (v := .ref (b 4)) (C := RX8) (T := TX8) (N := 12) hx hb hts hin_X8 hown hK hP 0 rfl rfl 5 (by decide) (hts (.fieldLink RX8 19 "ButtonGuestsModel" "third" "[I") (by decide +kernel)) (fun _ h9 => h9) rfl dX8_bringsHome_93 ?_
                  refine lv_iload hx hb dX8_bringsHome_96 (lv_at hl 2 rfl) ?_
                  refine wr_v (fun u => wj [[(b 0, .inr (5, [.int rf, .ref (b 1), .int sn, .ref (b 2), .ref (b 3), .ref (b 4), .ref (b 5), .int ac, .ref (b 6), .ref (b 7), .int sp, .int ou]))], mW cy (b 4) u, mW cy a y]) (va_runS (As := [.ref (b 4), .int (nI g9)]) (rest := []) hF (c_X8_goes l D cy (b 4) n hn w (hRw.gy) H.size g9 (by omega) (hRw.bu (by omega)) hRw.fl) (va_cwS 2 hts gX8_bringsHome_X8_goes rfl rfl rfl (by decide +kernel) ⟨Nat.le_of_ble_eq_true rfl, Nat.le_of_ble_eq_true rfl⟩) (wr_preS hK hP hD (zz_pick1 [[(b 0, .inr (5, [.int rf, .ref (b 1), .int sn, .ref (b 2), .ref (b 3), .ref (b 4), .ref (b 5), .int ac, .ref (b 6), .ref (b 7), .int sp, .int ou]))], mW cy (b 4) w, mW cy a y] 1 [0, 2] (show List.Perm ([1] ++ [0, 2]) (List.range 3) by decide) rfl rfl)) rfl rfl hl.1 rfl (lv_room (Nat.le_of_ble_eq_true rfl)) dX8_bringsHome_98 ⟨Nat.le_of_ble_eq_true rfl, Nat.le_of_ble_eq_true rfl⟩) hP hD hS hA (zz_pick1 [[(b 0, .inr (5, [.int rf, .ref (b 1), .int sn, .ref (b 2), .ref (b 3), .ref (b 4), .ref (b 5), .int ac, .ref (b 6), .ref (b 7), .int sp, .int ou]))], mW cy (b 4) w, mW cy a y] 1 [0, 2] (show List.Perm ([1] ++ [0, 2]) (List.range 3) by decide) rfl rfl) (fun u => (zz_pick1 [[(b 0, .inr (5, [.int rf, .ref (b 1), .int sn, .ref (b 2), .ref (b 3), .ref (b 4), .ref (b 5), .int ac, .ref (b 6), .ref (b 7), .int sp, .int ou]))], mW cy (b 4) u, mW cy a y] 1 [0, 2] (show List.Perm ([1] ++ [0, 2]) (List.range 3) by decide) rfl rfl)) (fun u_7 H locs e_8 hP hD hS => ?_)
                  subst e_8
                  have hP : va_P D vwCl (wj [[(b 0, .inr (5, [.int rf, .ref (b 1), .int sn, .ref (b 2), .ref (b 3), .ref (b 4), .ref (b 5), .int ac, .ref (b 6), .ref (b 7), .int sp, .int ou]))], mW cy (b 4) (mGo n g9 w), mW cy a y]) H := hP
                  have hD : va_D A (wj [[(b 0, .inr (5, [.int rf, .ref (b 1), .int sn, .ref (b 2), .ref (b 3), .ref (b 4), .ref (b 5), .int ac, .ref (b 6), .ref (b 7), .int sp, .int ou]))], mW cy (b 4) (mGo n g9 w), mW cy a y]) := hD
                  have join1 : ∀ (u3 : Nat), (i2 + 1 < k9 → u3 = 4 ^ (k9 - (i2 + 1) - 1)) → 0 < u3 ∧ u3 ≤ 1024 → ∀ (H : Heap) (locs : List Loc) (ls : Array Slot), va_P D vwCl (wj [[(b 0, .inr (5, [.int rf, .ref (b 1), .int sn, .ref (b 2), .ref (b 3), .ref (b 4), .ref (b 5), .int ac, .ref (b 6), .ref (b 7), .int sp, .int ou]))], mW cy (b 4) (mGo n g9 w), mW cy a y]) H → va_D A (wj [[(b 0, .inr (5, [.int rf, .ref (b 1), .int sn, .ref (b 2), .ref (b 3), .ref (b 4), .ref (b 5), .int ac, .ref (b 6), .ref (b 7), .int sp, .int ou]))], mW cy (b 4) (mGo n g9 w), mW cy a y]) → va_S A s.heap H locs → lv_has ls 8 [(4, .int (nI (u2 / 4))), (5, .int (nI (l2 % u2))), (7, .int (nI g9)), (6, .int (nI i2)), (0, .ref (b 0)), (1, .ref a), (2, .int (nI k9)), (3, .int (nI r9))] → W p l e rm_X8_bringsHome s m args below meth c H locs 0 0 Q (F0 m 113 ls [.int (nI u3)]) := by
                    intro u3 hu3 hup3 H locs ls hP hD hS hl
                    refine lv_istore (lv' := [(4, .int (nI u3)), (5, .int (nI (l2 % u2))), (7, .int (nI g9)), (6, .int (nI i2)), (0, .ref (b 0)), (1, .ref a), (2, .int (nI k9)), (3, .int (nI r9))]) hx hb dX8_bringsHome_113 hl (by decide) rfl (fun ls hl => ?_)
                    refine lv_iinc (v := nI (i2 + 1)) (lv' := [(6, .int (nI (i2 + 1))), (4, .int (nI u3)), (5, .int (nI (l2 % u2))), (7, .int (nI g9)), (0, .ref (b 0)), (1, .ref a), (2, .int (nI k9)), (3, .int (nI r9))]) hx hb dX8_bringsHome_115 hl (k := 3) rfl (nI_add (i2) 1) (by decide) rfl (fun ls hl => ?_)
                    refine lv_goto (tgt := 40) hx hb dX8_bringsHome_118 (by decide) ?_
                    exact ih (i2 + 1) (l2 % u2) u3 (hGo n g9 z) (mGo n g9 w) (by omega) (by omega) (by rw [hu4]; have := Nat.mod_lt l2 (show 0 < 4 ^ e9 from Nat.pow_pos (by decide)); rw [show k9 - (i2 + 1) = e9 by omega]; exact this) hu3 hup3 (relN_go hRw hgl) ((by rw [show k9 - (i2 + 1) = e9 by omega]; exact bb_n hv he9 hu4 hG hgl hre)) _ _ _ hP hD hS (lv_sub hl [0, 2, 1, 4, 5, 6, 7] rfl)
                  refine lv_iload hx hb dX8_bringsHome_101 (lv_at hl 0 rfl) ?_
                  refine lv_iconst (v := 1) hx hb dX8_bringsHome_103 (by decide) ?_
                  refine lv_icmp_ge (tgt := 111) hx hb dX8_bringsHome_104 (by decide) (fun c_9 => ?_) (fun c_9 => ?_)
                  · have c_9 : 1 ≤ u2 / 4 := (nI_leI (a := 1) (b := u2 / 4) (by omega) (by omega)).mp c_9
                    refine lv_iload hx hb dX8_bringsHome_111 (lv_at hl 0 rfl) ?_
                    exact join1 (u2 / 4) (fun q => by rw [hu4]; obtain ⟨f, rfl⟩ : ∃ f, e9 = f + 1 := ⟨e9 - 1, by omega⟩; rw [Nat.pow_succ, Nat.mul_div_cancel _ (by decide)]; congr 1; omega) (by omega) _ _ _ hP hD hS (lv_sub hl [0, 1, 2, 3, 4, 5, 6, 7] rfl)
                  · have c_9 : ¬ 1 ≤ u2 / 4 := fun q => c_9 ((nI_leI (a := 1) (b := u2 / 4) (by omega) (by omega)).mpr q)
                    refine lv_iconst (v := 1) hx hb dX8_bringsHome_107 (by decide) ?_
                    refine lv_goto (tgt := 113) hx hb dX8_bringsHome_108 (by decide) ?_
                    exact join1 1 (fun q => by have h1 : 4 ^ 1 ≤ 4 ^ e9 := Nat.pow_le_pow_right (by decide) (by omega); omega) (by omega) _ _ _ hP hD hS (lv_sub hl [0, 1, 2, 3, 4, 5, 6, 7] rfl)
                · have c_6 : ¬ (hReas z (nI g9)) = 0 := c_6
                  refine lv_iconst (v := 0) hx hb dX8_bringsHome_90 (by decide) ?_
                  exact hret _ _ H locs _ w dX8_bringsHome_91 hP hD hS (zb_f (bb_f hv he9 hu4 hG (fun q => c_6 q.2)))
        exact loop2 (k9 + 1) 0 r9 u1 x y (Nat.zero_le _) (by omega) hr9 (fun q => by rw [hu]; congr 1; omega) ⟨by rw [hu]; exact Nat.pow_pos (by decide), by rw [hu]; exact p4_le (m := 5) (by omega)⟩ hR rfl _ _ _ hP hD hS (lv_sub hl [0, 1, 2, 3, 4, 5, 6] rfl)
      · have c_3 : ¬ k9 ≤ i := fun q => c_3 ((nI_leI (a := k9) (b := i) (by omega) (by omega)).mpr q)
        refine lv_iload hx hb dX8_bringsHome_22 (lv_at hl 1 rfl) ?_
        refine lv_iconst (v := 4) hx hb dX8_bringsHome_24 (by decide) ?_
        refine lv_imul hx hb dX8_bringsHome_25 ?_
        refine zz_top (y := nI (u1 * 4)) (pk_mul u1 4) ?_
        refine lv_istore (lv' := [(4, .int (nI (u1 * 4))), (5, .int (nI i)), (0, .ref (b 0)), (1, .ref a), (2, .int (nI k9)), (3, .int (nI r9))]) hx hb dX8_bringsHome_26 hl (by decide) rfl (fun ls hl => ?_)
        refine lv_iinc (v := nI (i + 1)) (lv' := [(5, .int (nI (i + 1))), (4, .int (nI (u1 * 4))), (0, .ref (b 0)), (1, .ref a), (2, .int (nI k9)), (3, .int (nI r9))]) hx hb dX8_bringsHome_28 hl (k := 1) rfl (nI_add (i) 1) (by decide) rfl (fun ls hl => ?_)
        refine lv_goto (tgt := 16) hx hb dX8_bringsHome_31 (by decide) ?_
        exact ih (i + 1) (u1 * 4) (by omega) (by omega) (by omega) (by omega) (by rw [hu, ← Nat.pow_succ]; congr 1; omega) _ _ _ hP hD hS (lv_sub hl [0, 1, 2, 3, 4, 5] rfl)
  exact loop 5 1 1 (by decide) (by decide) (Or.inl rfl) (by decide) rfl _ _ _ hP hD hS (lv_sub hl [0, 1, 2, 3, 4, 5] rfl)
abbrev rm_X8_fewestRow : Room := { frames := 5, cells := 0, slots := 0, locals := 119 }
set_option maxHeartbeats 4000000 in
set_option maxRecDepth 100000 in
theorem c_X8_fewestRow (l : Launch) (D : va_G) (cy : Nat → ClassId) (b : Nat → Nat) (a : Nat) (rf sn ac sp ou : Int32) (n : Nat) (hn : n ≤ 4) (x y y3 : HS) (hR : RelN n x y) (sz : Nat) : Met l yX8_fewestRow wsX8_fewestRow rm_X8_fewestRow (wrP D cy [.ref (b 0), .ref a] (wj [[(b 0, .inr (5, [.int rf, .ref (b 1), .int sn, .ref (b 2), .ref (b 3), .ref (b 4), .ref (b 5), .int ac, .ref (b 6), .ref (b 7), .int sp, .int ou]))], mW cy (b 4) y3, mW cy a y]) sz) (va_Qi (fun (r : Int32) (u : HS) => r = mTold n x) (wrB D (va_A (wj [[(b 0, .inr (5, [.int rf, .ref (b 1), .int sn, .ref (b 2), .ref (b 3), .ref (b 4), .ref (b 5), .int ac, .ref (b 6), .ref (b 7), .int sp, .int ou]))], mW cy (b 4) y3, mW cy a y]) sz) (fun u => wj [[(b 0, .inr (5, [.int rf, .ref (b 1), .int sn, .ref (b 2), .ref (b 3), .ref (b 4), .ref (b 5), .int ac, .ref (b 6), .ref (b 7), .int sp, .int ou]))], mW cy (b 4) u, mW cy a y])) (va_A (wj [[(b 0, .inr (5, [.int rf, .ref (b 1), .int sn, .ref (b 2), .ref (b 3), .ref (b 4), .ref (b 5), .int ac, .ref (b 6), .ref (b 7), .int sp, .int ou]))], mW cy (b 4) y3, mW cy a y]) sz)) 0 0 (va_A (wj [[(b 0, .inr (5, [.int rf, .ref (b 1), .int sn, .ref (b 2), .ref (b 3), .ref (b 4), .ref (b 5), .int ac, .ref (b 6), .ref (b 7), .int sp, .int ou]))], mW cy (b 4) y3, mW cy a y]) sz) := by
  refine Mwi (cc := cX8_fewestRow) (maxL := 5) (ty := .int) (by decide) rfl (Nat.le_of_ble_eq_true rfl) (fun _ _ _ => rfl) ?_
  intro p e s m args below meth c Q ls A hsz hF hK hP hD hA hl hret
  obtain ⟨hx, hb, hml, hown, hts⟩ := id hF
  have hown : s.vm.findClass RX8 = some m.cls := hown
  have hl : lv_has ls 5 [(0, .ref (b 0)), (1, .ref a)] := hl
  suffices key : ∀ (H : Heap) (locs : List Loc), va_P D vwCl (wj [[(b 0, .inr (5, [.int rf, .ref (b 1), .int sn, .ref (b 2), .ref (b 3), .ref (b 4), .ref (b 5), .int ac, .ref (b 6), .ref (b 7), .int sp, .int ou]))], mW cy (b 4) y3, mW cy a y]) H → va_D A (wj [[(b 0, .inr (5, [.int rf, .ref (b 1), .int sn, .ref (b 2), .ref (b 3), .ref (b 4), .ref (b 5), .int ac, .ref (b 6), .ref (b 7), .int sp, .int ou]))], mW cy (b 4) y3, mW cy a y]) → va_S A s.heap H locs → W p l e rm_X8_fewestRow s m args below meth c H locs 0 0 Q (F0 m 0 ls []) from key s.heap [] hP hD va_S.rf
  intro H locs hP hD hS
  refine lv_iconst (v := 1) hx hb dX8_fewestRow_0 (by decide) ?_
  refine lv_istore_n (lv' := [(2, .int 1), (0, .ref (b 0)), (1, .ref a)]) hx hb dX8_fewestRow_1 rfl hl (by decide) rfl (fun ls hl => ?_)
  refine lv_iconst (v := 0) hx hb dX8_fewestRow_2 (by decide) ?_
  refine lv_istore_n (lv' := [(3, .int 0), (2, .int 1), (0, .ref (b 0)), (1, .ref a)]) hx hb dX8_fewestRow_3 rfl hl (by decide) rfl (fun ls hl => ?_)
  have loop : ∀ (k i r4 : Nat) (w : HS), i ≤ 6 → 7 ≤ i + k → r4 = 4 ^ i → (∀ j, j < i → ¬ dfsB n j x = true) → ∀ (H : Heap) (locs : List Loc) (ls : Array Slot), va_P D vwCl (wj [[(b 0, .inr (5, [.int rf, .ref (b 1), .int sn, .ref (b 2), .ref (b 3), .ref (b 4), .ref (b 5), .int ac, .ref (b 6), .ref (b 7), .int sp, .int ou]))], mW cy (b 4) w, mW cy a y]) H → va_D A (wj [[(b 0, .inr (5, [.int rf, .ref (b 1), .int sn, .ref (b 2), .ref (b 3), .ref (b 4), .ref (b 5), .int ac, .ref (b 6), .ref (b 7), .int sp, .int ou]))], mW cy (b 4) w, mW cy a y]) → va_S A s.heap H locs → lv_has ls 5 [(3, .int (nI i)), (2, .int (nI r4)), (0, .ref (b 0)), (1, .ref a)] → W p l e rm_X8_fewestRow s m args below meth c H locs 0 0 Q (F0 m 4 ls []) := by
    intro k
    induction k with
    | zero =>
      intro i r4 w hi hk hr4 hno
      exact absurd hk (by omega)
    | succ k ih =>
      intro i r4 w hi hk hr4 hno H locs ls hP hD hS hl
      have ihO := ih
      have hp := p4_le hi
      rw [← hr4] at hp
      have hp6 : 4 ^ 6 = 4096 := rfl
      refine lv_iload_n hx hb dX8_fewestRow_4 rfl (lv_at hl 0 rfl) ?_
      refine lv_iconst (v := 5) hx hb dX8_fewestRow_5 (by decide) ?_
      refine lv_icmp_gt (tgt := 66) hx hb dX8_fewestRow_6 (by decide) (fun c_1 => ?_) (fun c_1 => ?_)
      · have c_1 : 5 < i := (nI_ltI (a := 5) (b := i) (by omega) (by omega)).mp c_1
        refine lv_iconst (v := (-1)) hx hb dX8_fewestRow_66 (by decide) ?_
        exact hret _ _ H locs _ w dX8_fewestRow_67 hP hD hS (told_no (fun j hj => hno j (by omega)))
      · have c_1 : ¬ 5 < i := fun q => c_1 ((nI_ltI (a := 5) (b := i) (by omega) (by omega)).mpr q)
        refine lv_iconst (v := 0) hx hb dX8_fewestRow_9 (by decide) ?_
        refine lv_istore (lv' := [(4, .int 0), (3, .int (nI i)), (2, .int (nI r4)), (0, .ref (b 0)), (1, .ref a)]) hx hb dX8_fewestRow_10 hl (by decide) rfl (fun ls hl => ?_)
        have loop2 : ∀ (k j : Nat) (w2 : HS), j ≤ r4 → r4 + 1 ≤ j + k → (∀ r, r < j → ¬ bB n i r x = true) → ∀ (H : Heap) (locs : List Loc) (ls : Array Slot), va_P D vwCl (wj [[(b 0, .inr (5, [.int rf, .ref (b 1), .int sn, .ref (b 2), .ref (b 3), .ref (b 4), .ref (b 5), .int ac, .ref (b 6), .ref (b 7), .int sp, .int ou]))], mW cy (b 4) w2, mW cy a y]) H → va_D A (wj [[(b 0, .inr (5, [.int rf, .ref (b 1), .int sn, .ref (b 2), .ref (b 3), .ref (b 4), .ref (b 5), .int ac, .ref (b 6), .ref (b 7), .int sp, .int ou]))], mW cy (b 4) w2, mW cy a y]) → va_S A s.heap H locs → lv_has ls 5 [(4, .int (nI j)), (3, .int (nI i)), (2, .int (nI r4)), (0, .ref (b 0)), (1, .ref a)] → W p l e rm_X8_fewestRow s m args below meth c H locs 0 0 Q (F0 m 12 ls []) := by
          intro k
          induction k with
          | zero =>
            intro j w2 hj hk hno2
            exact absurd hk (by omega)
          | succ k ih =>
            intro j w2 hj hk hno2 H locs ls hP hD hS hl
            refine lv_iload hx hb dX8_fewestRow_12 (lv_at hl 0 rfl) ?_
            refine lv_iload_n hx hb dX8_fewestRow_14 rfl (lv_at hl 2 rfl) ?_
            refine lv_icmp_ge (tgt := 56) hx hb dX8_fewestRow_15 (by decide) (fun c_2 => ?_) (fun c_2 => ?_)
            · have c_2 : r4 ≤ j := (nI_leI (a := r4) (b := j) (by omega) (by omega)).mp c_2
              refine lv_iload_n hx hb dX8_fewestRow_56 rfl (lv_at hl 2 rfl) ?_
              refine lv_iconst (v := 4) hx hb dX8_fewestRow_57 (by decide) ?_
              refine lv_imul hx hb dX8_fewestRow_58 ?_
              refine zz_top (y := nI (r4 * 4)) (pk_mul r4 4) ?_
              refine lv_istore_n (lv' := [(2, .int (nI (r4 * 4))), (4, .int (nI j)), (3, .int (nI i)), (0, .ref (b 0)), (1, .ref a)]) hx hb dX8_fewestRow_59 rfl hl (by decide) rfl (fun ls hl => ?_)
              refine lv_iinc (v := nI (i + 1)) (lv' := [(3, .int (nI (i + 1))), (2, .int (nI (r4 * 4))), (4, .int (nI j)), (0, .ref (b 0)), (1, .ref a)]) hx hb dX8_fewestRow_60 hl (k := 2) rfl (nI_add (i) 1) (by decide) rfl (fun ls hl => ?_)
              refine lv_goto (tgt := 4) hx hb dX8_fewestRow_63 (by decide) ?_
              exact ihO (i + 1) (r4 * 4) w2 (by omega) (by omega) (by rw [hr4, ← Nat.pow_succ]) (lt_s hno (bB_none hn (fun r q => hno2 r (by rw [← hr4] at q; omega)))) _ _ _ hP hD hS (lv_sub hl [0, 1, 3, 4] rfl)
            · have c_2 : ¬ r4 ≤ j := fun q => c_2 ((nI_leI (a := r4) (b := j) (by omega) (by omega)).mpr q)
              refine lv_aload_n hx hb dX8_fewestRow_18 rfl (lv_at hl 3 rfl) ?_
              refine lv_aload_n hx hb dX8_fewestRow_19 rfl (lv_at hl 4 rfl) ?_
              refine lv_iload_n hx hb dX8_fewestRow_20 rfl (lv_at hl 1 rfl) ?_
              refine lv_iload hx hb dX8_fewestRow_21 (lv_at hl 0 rfl) ?_
              refine wr_i (fun u => wj [[(b 0, .inr (5, [.int rf, .ref (b 1), .int sn, .ref (b 2), .ref (b 3), .ref (b 4), .ref (b 5), .int ac, .ref (b 6), .ref (b 7), .int sp, .int ou]))], mW cy (b 4) u, mW cy a y]) (va_runV (As := [.ref a, .int (nI i), .int (nI j)]) (rest := []) hF (c_X8_bringsHome l D cy b a rf sn ac sp ou n hn x y w2 hR i (by omega) j (by rw [← hr4]; omega) H.size) (cwV 3 hts gX8_fewestRow_X8_bringsHome rfl rfl rfl (by decide +kernel) ⟨Nat.le_of_ble_eq_true rfl, Nat.le_of_ble_eq_true rfl⟩) (wr_preV hK hP hD (zz_all _) 0 5 rfl rfl rfl) rfl rfl hl.1 rfl (lv_room (Nat.le_of_ble_eq_true rfl)) dX8_fewestRow_23 ⟨Nat.le_of_ble_eq_true rfl, Nat.le_of_ble_eq_true rfl⟩) hP hD hS hA (zz_all _) (fun _ => zz_all _) (fun r_3 u_4 H locs e_5 hP hD hS => ?_)
              subst e_5
              have hP : va_P D vwCl (wj [[(b 0, .inr (5, [.int rf, .ref (b 1), .int sn, .ref (b 2), .ref (b 3), .ref (b 4), .ref (b 5), .int ac, .ref (b 6), .ref (b 7), .int sp, .int ou]))], mW cy (b 4) u_4, mW cy a y]) H := hP
              have hD : va_D A (wj [[(b 0, .inr (5, [.int rf, .ref (b 1), .int sn, .ref (b 2), .ref (b 3), .ref (b 4), .ref (b 5), .int ac, .ref (b 6), .ref (b 7), .int sp, .int ou]))], mW cy (b 4) u_4, mW cy a y]) := hD
              refine lv_if_eq (tgt := 50) hx hb dX8_fewestRow_26 (by decide) (fun c_6 => ?_) (fun c_6 => ?_)
              · have c_6 := zb_eq.mp c_6
                refine lv_iinc (v := nI (j + 1)) (lv' := [(4, .int (nI (j + 1))), (3, .int (nI i)), (2, .int (nI r4)), (0, .ref (b 0)), (1, .ref a)]) hx hb dX8_fewestRow_50 hl (k := 0) rfl (nI_add (j) 1) (by decide) rfl (fun ls hl => ?_)
                refine lv_goto (tgt := 12) hx hb dX8_fewestRow_53 (by decide) ?_
                exact ih (j + 1) u_4 (by omega) (by omega) (lt_s hno2 c_6) _ _ _ hP hD hS (lv_sub hl [0, 1, 2, 3, 4] rfl)
              · have c_6 := zb_ne.mp c_6
                refine lv_sipush (v := 10000) hx hb dX8_fewestRow_29 (by decide) ?_
                refine lv_iload_n hx hb dX8_fewestRow_32 rfl (lv_at hl 1 rfl) ?_
                refine lv_imul hx hb dX8_fewestRow_33 ?_
                refine lv_iload_n hx hb dX8_fewestRow_34 rfl (lv_at hl 1 rfl) ?_
                refine lv_if_ne (tgt := 42) hx hb dX8_fewestRow_35 (by decide) (fun c_7 => ?_) (fun c_7 => ?_)
                · have c_7 : ¬ i = 0 := fun q => c_7 ((nI_eq (a := i) (b := 0) (by omega) (by omega)).mpr q)
                  obtain ⟨e9, he9⟩ : ∃ e, i = e + 1 := ⟨i - 1, by omega⟩
                  have hq : r4 / 4 = 4 ^ e9 := by rw [hr4, he9, Nat.pow_succ, Nat.mul_div_cancel _ (by decide)]
                  have hqp : 0 < 4 ^ e9 := Nat.pow_pos (by decide)
                  have hq5 := p4_le (e := e9) (m := 4) (by omega)
                  refine lv_iload hx hb dX8_fewestRow_42 (lv_at hl 0 rfl) ?_
                  refine lv_iload_n hx hb dX8_fewestRow_44 rfl (lv_at hl 2 rfl) ?_
                  refine lv_iconst (v := 4) hx hb dX8_fewestRow_45 (by decide) ?_
                  refine lv_idiv hx hb dX8_fewestRow_46 (by decide) ?_
                  refine zz_top (y := nI (r4 / 4)) (pk_div (by omega) (by decide) (by decide)) ?_
                  refine lv_idiv hx hb dX8_fewestRow_47 (nI_ne0 (by omega) (by omega)) ?_
                  refine zz_top (y := nI (j / 4 ^ e9)) (by rw [hq]; exact pk_div (by omega) (by omega) (by omega)) ?_
                  refine lv_iadd hx hb dX8_fewestRow_48 ?_
                  exact hret _ _ H locs _ u_4 dX8_fewestRow_49 hP hD hS (by subst he9; exact few_e hn (by omega) c_6 hno2 hno)
                · have c_7 : i = 0 := (nI_eq (a := i) (b := 0) (by omega) (by omega)).mp c_7
                  have hi0 := c_7
                  refine lv_iconst (v := 0) hx hb dX8_fewestRow_38 (by decide) ?_
                  refine lv_goto (tgt := 48) hx hb dX8_fewestRow_39 (by decide) ?_
                  refine lv_iadd hx hb dX8_fewestRow_48 ?_
                  exact hret _ _ H locs _ u_4 dX8_fewestRow_49 hP hD hS (by subst hi0; exact few_0 (bB_dfs c_6))
        exact loop2 (r4 + 1) 0 w (Nat.zero_le _) (by omega) lt_0 _ _ _ hP hD hS (lv_sub hl [0, 1, 2, 3, 4] rfl)
  exact loop 7 0 1 y3 (by decide) (by decide) rfl lt_0 _ _ _ hP hD hS (lv_sub hl [0, 1, 2, 3] rfl)
