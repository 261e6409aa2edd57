abbrev rm_L_append : Room := { frames := 7, cells := 1, slots := 6, locals := 111 }
theorem c_L_append (l : Launch) (D : va_G) (cy : Nat → ClassId) (hl0 : l.stackTraces = false) (b t pa se th tr nw : Nat → Nat) (z : Nat) (hz : z ≤ 120) (f : Nat → Int32) (ct : Nat) (L : List HQ) (hc1 : ct ≤ L.length) (hc2 : L.length ≤ 14) (sc : Int32) (pf bf : Nat → Int32) (y0 y1 x : HS) (o0 o1 : Option HQ) (n : Nat) (hn : n ≤ 4) (hg : x.1.1 = nI n) (hok : okX n x) (v : Int32) (o : Nat) (fo : Nat → Int64) (sz : Nat) : Met l yL_append wsL_append rm_L_append (wrX D cy [.ref (b 0), .int v, .ref o] (lawW cy o b t pa se th tr (fo, ((z, f), (ct, L), ((sc, pf, bf), y0), y1, (nw, x), (o0, o1)))) sz (Gl (va_A (lawW cy o b t pa se th tr (fo, ((z, f), (ct, L), ((sc, pf, bf), y0), y1, (nw, x), (o0, o1)))) sz))) (va_Qi (lawP (kApp z v) (fun (r : Int32) (u : BS) => r = nI (z + 1) ∧ u = ((z + 1, upd f z v), (ct, L), ((sc, pf, bf), y0), y1, (nw, x), (o0, o1))) fo ((z, f), (ct, L), ((sc, pf, bf), y0), y1, (nw, x), (o0, o1))) (wrB D (va_A (lawW cy o b t pa se th tr (fo, ((z, f), (ct, L), ((sc, pf, bf), y0), y1, (nw, x), (o0, o1)))) sz) (fun u => lawW cy o b t pa se th tr u)) (va_A (lawW cy o b t pa se th tr (fo, ((z, f), (ct, L), ((sc, pf, bf), y0), y1, (nw, x), (o0, o1)))) sz)) 1 6 (va_A (lawW cy o b t pa se th tr (fo, ((z, f), (ct, L), ((sc, pf, bf), y0), y1, (nw, x), (o0, o1)))) sz) := by
  refine MthL (cc := cL_append) (maxL := 4) (hh := [(0, 9, 12, 13), (0, 9, 15, 15)]) (by decide) rfl (Nat.le_of_ble_eq_true rfl) ?_
  intro p e s m args below meth c Q ls A hAe hsz hX0 hT hF hK hP hD hA hl hret
  rw [← hsz, ← hAe] at hX0
  have hX : Gl A s := hX0
  obtain ⟨hx, hb, hml, hown, hts⟩ := id hF
  have hown : s.vm.findClass RL = some m.cls := hown
  have hl : lv_has ls 4 [(0, .ref (b 0)), (1, .int v), (2, .ref o)] := hl
  suffices key : ∀ (H : Heap) (locs : List Loc), va_P D vwCl (lawW cy o b t pa se th tr (fo, ((z, f), (ct, L), ((sc, pf, bf), y0), y1, (nw, x), (o0, o1)))) H → va_D A (lawW cy o b t pa se th tr (fo, ((z, f), (ct, L), ((sc, pf, bf), y0), y1, (nw, x), (o0, o1)))) → va_S A s.heap H locs → W p l e rm_L_append s m args below meth c H locs 0 0 Q (F0 m 0 ls []) from key s.heap [] hP hD va_S.rf
  intro H locs hP hD hS
  refine lv_aload_n hx hb dL_append_0 rfl (lv_at hl 2 rfl) ?_
  refine lv_iconst (v := 0) hx hb dL_append_1 rfl ?_
  refine lv_aload_n hx hb dL_append_2 rfl (lv_at hl 0 rfl) ?_
  refine lv_iload_n hx hb dL_append_3 rfl (lv_at hl 1 rfl) ?_
  refine th_i (fun u : BS => lawW cy o b t pa se th tr (fo, u)) (vx_runV (As := [.int v]) (rest := [.int 0, .ref o]) hF (c_X7_append l D cy hl0 b t pa se th tr nw z hz f ct L hc1 hc2 sc pf bf y0 y1 x o0 o1 n hn hg hok v H.size) (cwV 1 hts gL_append_X7_append rfl rfl rfl (by decide +kernel) ⟨Nat.le_of_ble_eq_true rfl, Nat.le_of_ble_eq_true rfl⟩) (wrX_preV (Wr := outW cy o fo) hK hP hD List.perm_append_comm 0 4 rfl rfl rfl Xok_x (fun U hU hW => Gx.at hX.1 hS (zz_free hD List.perm_append_comm hS hA) hU hW)) rfl rfl hl.1 rfl (lv_room (Nat.le_of_ble_eq_true rfl)) dL_append_4 ⟨Nat.le_of_ble_eq_true rfl, Nat.le_of_ble_eq_true rfl⟩) hP hD hS hA List.perm_append_comm (fun _ => List.perm_append_comm) (fun E ce q9 H locs hE hKn hP hD hS hc hv hcl => ?_) (fun r1 u H locs hq hP hD hS => ?_)
  · rcases (@k_app z v : _) with hk | hk | hk
    · exact absurd hk hKn
    · have hE : E = exA := by rw [hE, hk]; rfl
      subst hE
      refine cat1 hown hT rfl (by decide) (hts (.classLink RL 13 exA) (by decide +kernel)) (hX.1.words _ (by decide +kernel)) hc hv hcl ?_
      refine lv_astore_n (lv' := [(3, .ref q9), (0, .ref (b 0)), (1, .int v), (2, .ref o)]) hx hb dL_append_12 rfl hl (by decide) rfl (fun ls2 hl2 => ?_)
      refine lv_iconst (v := 1) hx hb dL_append_13 rfl ?_
      exact hret _ _ H locs _ (fo, ((z, f), (ct, L), ((sc, pf, bf), y0), y1, (nw, x), (o0, o1))) dL_append_14 hP hD hS (Or.inr ⟨hKn, hk.symm, rfl⟩)
    · have hE : E = exS := by rw [hE, hk]; rfl
      subst hE
      refine cat2 hown hT rfl (by decide) (by decide) (hts (.classLink RL 13 exA) (by decide +kernel)) (hX.2.2.2.2.2.1) (hts (.classLink RL 15 exS) (by decide +kernel)) (hX.1.words _ (by decide +kernel)) hc hv hcl ?_
      refine lv_astore_n (lv' := [(3, .ref q9), (0, .ref (b 0)), (1, .int v), (2, .ref o)]) hx hb dL_append_15 rfl hl (by decide) rfl (fun ls2 hl2 => ?_)
      refine lv_iconst (v := 2) hx hb dL_append_16 rfl ?_
      exact hret _ _ H locs _ (fo, ((z, f), (ct, L), ((sc, pf, bf), y0), y1, (nw, x), (o0, o1))) dL_append_17 hP hD hS (Or.inr ⟨hKn, hk.symm, rfl⟩)
  · refine lv_i2l hx hb dL_append_7 rfl ?_
    refine va_last hx hb hK hP hD hS 0 4 rfl rfl (show vp_in (nI 0) 1 from vp_in_nI (by decide) (by decide)) dL_append_8 (fun H locs hP hD hS => ?_)
    refine lv_goto (tgt := 18) hx hb dL_append_9 (by decide) ?_
    refine lv_iconst (v := 0) hx hb dL_append_18 rfl ?_
    exact hret _ _ H locs _ (vp_updL fo 0 r1.toInt64, u) dL_append_19 hP hD hS (Or.inl ⟨hq.1, rfl, r1, rfl, hq.2⟩)
abbrev rm_L_load : Room := { frames := 13, cells := 10, slots := 51, locals := 297 }
theorem c_L_load (l : Launch) (D : va_G) (cy : Nat → ClassId) (hl0 : l.stackTraces = false) (b t pa se th tr nw : Nat → Nat) (z : Nat) (hz : z ≤ 120) (f : Nat → Int32) (ct : Nat) (L : List HQ) (hc1 : ct ≤ L.length) (hc2 : L.length ≤ 14) (sc : Int32) (pf bf : Nat → Int32) (y0 y1 x : HS) (o0 o1 : Option HQ) (n : Nat) (hn : n ≤ 4) (hg : x.1.1 = nI n) (hok : okX n x) (o : Nat) (fo : Nat → Int64) (sz : Nat) : Met l yL_load wsL_load rm_L_load (wrX D cy [.ref (b 0), .ref o] (lawW cy o b t pa se th tr (fo, ((z, f), (ct, L), ((sc, pf, bf), y0), y1, (nw, x), (o0, o1)))) sz (Gl (va_A (lawW cy o b t pa se th tr (fo, ((z, f), (ct, L), ((sc, pf, bf), y0), y1, (nw, x), (o0, o1)))) sz))) (va_Qi (lawP (kLoad z f) (fun (r : Int32) (u : BS) => r = (vLd z f).1 ∧ ∃ q9 nw2, u = ((z, f), (0, L), q9, y1, (nw2, (vLd z f).2), (none, none))) fo ((z, f), (ct, L), ((sc, pf, bf), y0), y1, (nw, x), (o0, o1))) (wrB D (va_A (lawW cy o b t pa se th tr (fo, ((z, f), (ct, L), ((sc, pf, bf), y0), y1, (nw, x), (o0, o1)))) sz) (fun u => lawW cy o b t pa se th tr u)) (va_A (lawW cy o b t pa se th tr (fo, ((z, f), (ct, L), ((sc, pf, bf), y0), y1, (nw, x), (o0, o1)))) sz)) 10 51 (va_A (lawW cy o b t pa se th tr (fo, ((z, f), (ct, L), ((sc, pf, bf), y0), y1, (nw, x), (o0, o1)))) sz) := by
  refine MthL (cc := cL_load) (maxL := 3) (hh := [(0, 8, 11, 15)]) (by decide) rfl (Nat.le_of_ble_eq_true rfl) ?_
  intro p e s m args below meth c Q ls A hAe hsz hX0 hT hF hK hP hD hA hl hret
  rw [← hsz, ← hAe] at hX0
  have hX : Gl A s := hX0
  obtain ⟨hx, hb, hml, hown, hts⟩ := id hF
  have hown : s.vm.findClass RL = some m.cls := hown
  have hl : lv_has ls 3 [(0, .ref (b 0)), (1, .ref o)] := hl
  suffices key : ∀ (H : Heap) (locs : List Loc), va_P D vwCl (lawW cy o b t pa se th tr (fo, ((z, f), (ct, L), ((sc, pf, bf), y0), y1, (nw, x), (o0, o1)))) H → va_D A (lawW cy o b t pa se th tr (fo, ((z, f), (ct, L), ((sc, pf, bf), y0), y1, (nw, x), (o0, o1)))) → va_S A s.heap H locs → W p l e rm_L_load s m args below meth c H locs 0 0 Q (F0 m 0 ls []) from key s.heap [] hP hD va_S.rf
  intro H locs hP hD hS
  refine lv_aload_n hx hb dL_load_0 rfl (lv_at hl 1 rfl) ?_
  refine lv_iconst (v := 0) hx hb dL_load_1 rfl ?_
  refine lv_aload_n hx hb dL_load_2 rfl (lv_at hl 0 rfl) ?_
  refine th_i (fun u : BS => lawW cy o b t pa se th tr (fo, u)) (vx_runV (As := []) (rest := [.int 0, .ref o]) hF (c_X7_load l D cy hl0 b t pa se th tr nw z hz f ct L hc1 hc2 sc pf bf y0 y1 x o0 o1 n hn hg hok H.size) (cwV 0 hts gL_load_X7_load rfl rfl rfl (by decide +kernel) ⟨Nat.le_of_ble_eq_true rfl, Nat.le_of_ble_eq_true rfl⟩) (wrX_preV (Wr := outW cy o fo) hK hP hD List.perm_append_comm 0 4 rfl rfl rfl Xok_x (fun U hU hW => Gx.at hX.1 hS (zz_free hD List.perm_append_comm hS hA) hU hW)) rfl rfl hl.1 rfl (lv_room (Nat.le_of_ble_eq_true rfl)) dL_load_3 ⟨Nat.le_of_ble_eq_true rfl, Nat.le_of_ble_eq_true rfl⟩) hP hD hS hA List.perm_append_comm (fun _ => List.perm_append_comm) (fun E ce q9 H locs hE hKn hP hD hS hc hv hcl => ?_) (fun r1 u H locs hq hP hD hS => ?_)
  · rcases (@k_load z f : _) with hk | hk
    · exact absurd hk hKn
    · have hE : E = exS := by rw [hE, hk]; rfl
      subst hE
      refine cat1 hown hT rfl (by decide) (hts (.classLink RL 15 exS) (by decide +kernel)) (hX.1.words _ (by decide +kernel)) hc hv hcl ?_
      refine lv_astore_n (lv' := [(2, .ref q9), (0, .ref (b 0)), (1, .ref o)]) hx hb dL_load_11 rfl hl (by decide) rfl (fun ls2 hl2 => ?_)
      refine lv_iconst (v := 1) hx hb dL_load_12 rfl ?_
      exact hret _ _ H locs _ (fo, ((z, f), (ct, L), ((sc, pf, bf), y0), y1, (nw, x), (o0, o1))) dL_load_13 hP hD hS (Or.inr ⟨hKn, hk.symm, rfl⟩)
  · refine lv_i2l hx hb dL_load_6 rfl ?_
    refine va_last hx hb hK hP hD hS 0 4 rfl rfl (show vp_in (nI 0) 1 from vp_in_nI (by decide) (by decide)) dL_load_7 (fun H locs hP hD hS => ?_)
    refine lv_goto (tgt := 14) hx hb dL_load_8 (by decide) ?_
    refine lv_iconst (v := 0) hx hb dL_load_14 rfl ?_
    exact hret _ _ H locs _ (vp_updL fo 0 r1.toInt64, u) dL_load_15 hP hD hS (Or.inl ⟨hq.1, rfl, r1, rfl, hq.2⟩)
abbrev rm_L_about : Room := { frames := 7, cells := 1, slots := 6, locals := 111 }
theorem c_L_about (l : Launch) (D : va_G) (cy : Nat → ClassId) (hl0 : l.stackTraces = false) (b t pa se th tr nw : Nat → Nat) (z : Nat) (hz : z ≤ 120) (f : Nat → Int32) (ct : Nat) (L : List HQ) (hc1 : ct ≤ L.length) (hc2 : L.length ≤ 14) (sc : Int32) (pf bf : Nat → Int32) (y0 y1 x : HS) (o0 o1 : Option HQ) (n : Nat) (hn : n ≤ 4) (hg : x.1.1 = nI n) (hok : okX n x) (v : Int32) (o : Nat) (fo : Nat → Int64) (sz : Nat) : Met l yL_about wsL_about rm_L_about (wrX D cy [.ref (b 0), .int v, .ref o] (lawW cy o b t pa se th tr (fo, ((z, f), (ct, L), ((sc, pf, bf), y0), y1, (nw, x), (o0, o1)))) sz (Gl (va_A (lawW cy o b t pa se th tr (fo, ((z, f), (ct, L), ((sc, pf, bf), y0), y1, (nw, x), (o0, o1)))) sz))) (va_Qi (lawP (kAbout v) (fun (r : Int32) (u : BS) => r = hNum n x v ∧ u = ((z, f), (ct, L), ((sc, pf, bf), y0), y1, (nw, x), (o0, o1))) fo ((z, f), (ct, L), ((sc, pf, bf), y0), y1, (nw, x), (o0, o1))) (wrB D (va_A (lawW cy o b t pa se th tr (fo, ((z, f), (ct, L), ((sc, pf, bf), y0), y1, (nw, x), (o0, o1)))) sz) (fun u => lawW cy o b t pa se th tr u)) (va_A (lawW cy o b t pa se th tr (fo, ((z, f), (ct, L), ((sc, pf, bf), y0), y1, (nw, x), (o0, o1)))) sz)) 1 6 (va_A (lawW cy o b t pa se th tr (fo, ((z, f), (ct, L), ((sc, pf, bf), y0), y1, (nw, x), (o0, o1)))) sz) := by
  refine MthL (cc := cL_about) (maxL := 4) (hh := [(0, 9, 12, 13)]) (by decide) rfl (Nat.le_of_ble_eq_true rfl) ?_
  intro p e s m args below meth c Q ls A hAe hsz hX0 hT hF hK hP hD hA hl hret
  rw [← hsz, ← hAe] at hX0
  have hX : Gl A s := hX0
  obtain ⟨hx, hb, hml, hown, hts⟩ := id hF
  have hown : s.vm.findClass RL = some m.cls := hown
  have hl : lv_has ls 4 [(0, .ref (b 0)), (1, .int v), (2, .ref o)] := hl
  suffices key : ∀ (H : Heap) (locs : List Loc), va_P D vwCl (lawW cy o b t pa se th tr (fo, ((z, f), (ct, L), ((sc, pf, bf), y0), y1, (nw, x), (o0, o1)))) H → va_D A (lawW cy o b t pa se th tr (fo, ((z, f), (ct, L), ((sc, pf, bf), y0), y1, (nw, x), (o0, o1)))) → va_S A s.heap H locs → W p l e rm_L_about s m args below meth c H locs 0 0 Q (F0 m 0 ls []) from key s.heap [] hP hD va_S.rf
  intro H locs hP hD hS
  refine lv_aload_n hx hb dL_about_0 rfl (lv_at hl 2 rfl) ?_
  refine lv_iconst (v := 0) hx hb dL_about_1 rfl ?_
  refine lv_aload_n hx hb dL_about_2 rfl (lv_at hl 0 rfl) ?_
  refine lv_iload_n hx hb dL_about_3 rfl (lv_at hl 1 rfl) ?_
  refine th_i (fun u : BS => lawW cy o b t pa se th tr (fo, u)) (vx_runV (As := [.int v]) (rest := [.int 0, .ref o]) hF (c_X7_about l D cy hl0 b t pa se th tr nw z hz f ct L hc1 hc2 sc pf bf y0 y1 x o0 o1 n hn hg hok v H.size) (cwV 1 hts gL_about_X7_about rfl rfl rfl (by decide +kernel) ⟨Nat.le_of_ble_eq_true rfl, Nat.le_of_ble_eq_true rfl⟩) (wrX_preV (Wr := outW cy o fo) hK hP hD List.perm_append_comm 0 4 rfl rfl rfl Xok_x (fun U hU hW => Gx.at hX.1 hS (zz_free hD List.perm_append_comm hS hA) hU hW)) rfl rfl hl.1 rfl (lv_room (Nat.le_of_ble_eq_true rfl)) dL_about_4 ⟨Nat.le_of_ble_eq_true rfl, Nat.le_of_ble_eq_true rfl⟩) hP hD hS hA List.perm_append_comm (fun _ => List.perm_append_comm) (fun E ce q9 H locs hE hKn hP hD hS hc hv hcl => ?_) (fun r1 u H locs hq hP hD hS => ?_)
  · rcases (@k_about v : _) with hk | hk
    · exact absurd hk hKn
    · have hE : E = exA := by rw [hE, hk]; rfl
      subst hE
      refine cat1 hown hT rfl (by decide) (hts (.classLink RL 13 exA) (by decide +kernel)) (hX.1.words _ (by decide +kernel)) hc hv hcl ?_
      refine lv_astore_n (lv' := [(3, .ref q9), (0, .ref (b 0)), (1, .int v), (2, .ref o)]) hx hb dL_about_12 rfl hl (by decide) rfl (fun ls2 hl2 => ?_)
      refine lv_iconst (v := 1) hx hb dL_about_13 rfl ?_
      exact hret _ _ H locs _ (fo, ((z, f), (ct, L), ((sc, pf, bf), y0), y1, (nw, x), (o0, o1))) dL_about_14 hP hD hS (Or.inr ⟨hKn, hk.symm, rfl⟩)
  · refine lv_i2l hx hb dL_about_7 rfl ?_
    refine va_last hx hb hK hP hD hS 0 4 rfl rfl (show vp_in (nI 0) 1 from vp_in_nI (by decide) (by decide)) dL_about_8 (fun H locs hP hD hS => ?_)
    refine lv_goto (tgt := 15) hx hb dL_about_9 (by decide) ?_
    refine lv_iconst (v := 0) hx hb dL_about_15 rfl ?_
    exact hret _ _ H locs _ (vp_updL fo 0 r1.toInt64, u) dL_about_16 hP hD hS (Or.inl ⟨hq.1, rfl, r1, rfl, hq.2⟩)
abbrev rm_L_guestOf : Room := { frames := 8, cells := 2, slots := 12, locals := 133 }
theorem c_L_guestOf (l : Launch) (D : va_G) (cy : Nat → ClassId) (hl0 : l.stackTraces = false) (b t pa se th tr nw : Nat → Nat) (z : Nat) (hz : z ≤ 120) (f : Nat → Int32) (ct : Nat) (L : List HQ) (hc1 : ct ≤ L.length) (hc2 : L.length ≤ 14) (sc : Int32) (pf bf : Nat → Int32) (y0 y1 x : HS) (o0 o1 : Option HQ) (n : Nat) (hn : n ≤ 4) (hg : x.1.1 = nI n) (hok : okX n x) (g v : Int32) (o : Nat) (fo : Nat → Int64) (sz : Nat) : Met l yL_guestOf wsL_guestOf rm_L_guestOf (wrX D cy [.ref (b 0), .int g, .int v, .ref o] (lawW cy o b t pa se th tr (fo, ((z, f), (ct, L), ((sc, pf, bf), y0), y1, (nw, x), (o0, o1)))) sz (Gl (va_A (lawW cy o b t pa se th tr (fo, ((z, f), (ct, L), ((sc, pf, bf), y0), y1, (nw, x), (o0, o1)))) sz))) (va_Qi (lawP (kGuest (nI n) g v) (fun (r : Int32) (u : BS) => r = hGuestN x g v ∧ u = ((z, f), (ct, L), ((sc, pf, bf), y0), y1, (nw, x), (o0, o1))) fo ((z, f), (ct, L), ((sc, pf, bf), y0), y1, (nw, x), (o0, o1))) (wrB D (va_A (lawW cy o b t pa se th tr (fo, ((z, f), (ct, L), ((sc, pf, bf), y0), y1, (nw, x), (o0, o1)))) sz) (fun u => lawW cy o b t pa se th tr u)) (va_A (lawW cy o b t pa se th tr (fo, ((z, f), (ct, L), ((sc, pf, bf), y0), y1, (nw, x), (o0, o1)))) sz)) 2 12 (va_A (lawW cy o b t pa se th tr (fo, ((z, f), (ct, L), ((sc, pf, bf), y0), y1, (nw, x), (o0, o1)))) sz) := by
  refine MthL (cc := cL_guestOf) (maxL := 5) (hh := [(0, 10, 13, 28), (0, 10, 17, 13)]) (by decide) rfl (Nat.le_of_ble_eq_true rfl) ?_
  intro p e s m args below meth c Q ls A hAe hsz hX0 hT hF hK hP hD hA hl hret
  rw [← hsz, ← hAe] at hX0
  have hX : Gl A s := hX0
  obtain ⟨hx, hb, hml, hown, hts⟩ := id hF
  have hown : s.vm.findClass RL = some m.cls := hown
  have hl : lv_has ls 5 [(0, .ref (b 0)), (1, .int g), (2, .int v), (3, .ref o)] := hl
  suffices key : ∀ (H : Heap) (locs : List Loc), va_P D vwCl (lawW cy o b t pa se th tr (fo, ((z, f), (ct, L), ((sc, pf, bf), y0), y1, (nw, x), (o0, o1)))) H → va_D A (lawW cy o b t pa se th tr (fo, ((z, f), (ct, L), ((sc, pf, bf), y0), y1, (nw, x), (o0, o1)))) → va_S A s.heap H locs → W p l e rm_L_guestOf s m args below meth c H locs 0 0 Q (F0 m 0 ls []) from key s.heap [] hP hD va_S.rf
  intro H locs hP hD hS
  refine lv_aload_n hx hb dL_guestOf_0 rfl (lv_at hl 3 rfl) ?_
  refine lv_iconst (v := 0) hx hb dL_guestOf_1 rfl ?_
  refine lv_aload_n hx hb dL_guestOf_2 rfl (lv_at hl 0 rfl) ?_
  refine lv_iload_n hx hb dL_guestOf_3 rfl (lv_at hl 1 rfl) ?_
  refine lv_iload_n hx hb dL_guestOf_4 rfl (lv_at hl 2 rfl) ?_
  refine th_i (fun u : BS => lawW cy o b t pa se th tr (fo, u)) (vx_runV (As := [.int g, .int v]) (rest := [.int 0, .ref o]) hF (c_X7_guestOf l D cy hl0 b t pa se th tr nw z hz f ct L hc1 hc2 sc pf bf y0 y1 x o0 o1 n hn hg hok g v H.size) (cwV 2 hts gL_guestOf_X7_guestOf rfl rfl rfl (by decide +kernel) ⟨Nat.le_of_ble_eq_true rfl, Nat.le_of_ble_eq_true rfl⟩) (wrX_preV (Wr := outW cy o fo) hK hP hD List.perm_append_comm 0 4 rfl rfl rfl Xok_x (fun U hU hW => Gx.at hX.1 hS (zz_free hD List.perm_append_comm hS hA) hU hW)) rfl rfl hl.1 rfl (lv_room (Nat.le_of_ble_eq_true rfl)) dL_guestOf_5 ⟨Nat.le_of_ble_eq_true rfl, Nat.le_of_ble_eq_true rfl⟩) hP hD hS hA List.perm_append_comm (fun _ => List.perm_append_comm) (fun E ce q9 H locs hE hKn hP hD hS hc hv hcl => ?_) (fun r1 u H locs hq hP hD hS => ?_)
  · rcases (@k_guest (nI n) g v : _) with hk | hk | hk
    · exact absurd hk hKn
    · have hE : E = exI := by rw [hE, hk]; rfl
      subst hE
      refine cat1 hown hT rfl (by decide) (hts (.classLink RL 28 exI) (by decide +kernel)) (hX.1.words _ (by decide +kernel)) hc hv hcl ?_
      refine lv_astore (lv' := [(4, .ref q9), (0, .ref (b 0)), (1, .int g), (2, .int v), (3, .ref o)]) hx hb dL_guestOf_13 hl (by decide) rfl (fun ls2 hl2 => ?_)
      refine lv_iconst (v := 1) hx hb dL_guestOf_15 rfl ?_
      exact hret _ _ H locs _ (fo, ((z, f), (ct, L), ((sc, pf, bf), y0), y1, (nw, x), (o0, o1))) dL_guestOf_16 hP hD hS (Or.inr ⟨hKn, hk.symm, rfl⟩)
    · have hE : E = exA := by rw [hE, hk]; rfl
      subst hE
      refine cat2 hown hT rfl (by decide) (by decide) (hts (.classLink RL 28 exI) (by decide +kernel)) (hX.2.1) (hts (.classLink RL 13 exA) (by decide +kernel)) (hX.1.words _ (by decide +kernel)) hc hv hcl ?_
      refine lv_astore (lv' := [(4, .ref q9), (0, .ref (b 0)), (1, .int g), (2, .int v), (3, .ref o)]) hx hb dL_guestOf_17 hl (by decide) rfl (fun ls2 hl2 => ?_)
      refine lv_iconst (v := 2) hx hb dL_guestOf_19 rfl ?_
      exact hret _ _ H locs _ (fo, ((z, f), (ct, L), ((sc, pf, bf), y0), y1, (nw, x), (o0, o1))) dL_guestOf_20 hP hD hS (Or.inr ⟨hKn, hk.symm, rfl⟩)
  · refine lv_i2l hx hb dL_guestOf_8 rfl ?_
    refine va_last hx hb hK hP hD hS 0 4 rfl rfl (show vp_in (nI 0) 1 from vp_in_nI (by decide) (by decide)) dL_guestOf_9 (fun H locs hP hD hS => ?_)
    refine lv_goto (tgt := 21) hx hb dL_guestOf_10 (by decide) ?_
    refine lv_iconst (v := 0) hx hb dL_guestOf_21 rfl ?_
    exact hret _ _ H locs _ (vp_updL fo 0 r1.toInt64, u) dL_guestOf_22 hP hD hS (Or.inl ⟨hq.1, rfl, r1, rfl, hq.2⟩)
abbrev rm_L_floorOf : Room := { frames := 7, cells := 1, slots := 6, locals := 112 }
theorem c_L_floorOf (l : Launch) (D : va_G) (cy : Nat → ClassId) (hl0 : l.stackTraces = false) (b t pa se th tr nw : Nat → Nat) (z : Nat) (hz : z ≤ 120) (f : Nat → Int32) (ct : Nat) (L : List HQ) (hc1 : ct ≤ L.length) (hc2 : L.length ≤ 14) (sc : Int32) (pf bf : Nat → Int32) (y0 y1 x : HS) (o0 o1 : Option HQ) (n : Nat) (hn : n ≤ 4) (hg : x.1.1 = nI n) (hok : okX n x) (f9 v : Int32) (o : Nat) (fo : Nat → Int64) (sz : Nat) : Met l yL_floorOf wsL_floorOf rm_L_floorOf (wrX D cy [.ref (b 0), .int f9, .int v, .ref o] (lawW cy o b t pa se th tr (fo, ((z, f), (ct, L), ((sc, pf, bf), y0), y1, (nw, x), (o0, o1)))) sz (Gl (va_A (lawW cy o b t pa se th tr (fo, ((z, f), (ct, L), ((sc, pf, bf), y0), y1, (nw, x), (o0, o1)))) sz))) (va_Qi (lawP (kFloor f9 v) (fun (r : Int32) (u : BS) => r = hFS n x f9 v ∧ u = ((z, f), (ct, L), ((sc, pf, bf), y0), y1, (nw, x), (o0, o1))) fo ((z, f), (ct, L), ((sc, pf, bf), y0), y1, (nw, x), (o0, o1))) (wrB D (va_A (lawW cy o b t pa se th tr (fo, ((z, f), (ct, L), ((sc, pf, bf), y0), y1, (nw, x), (o0, o1)))) sz) (fun u => lawW cy o b t pa se th tr u)) (va_A (lawW cy o b t pa se th tr (fo, ((z, f), (ct, L), ((sc, pf, bf), y0), y1, (nw, x), (o0, o1)))) sz)) 1 6 (va_A (lawW cy o b t pa se th tr (fo, ((z, f), (ct, L), ((sc, pf, bf), y0), y1, (nw, x), (o0, o1)))) sz) := by
  refine MthL (cc := cL_floorOf) (maxL := 5) (hh := [(0, 10, 13, 28), (0, 10, 17, 13)]) (by decide) rfl (Nat.le_of_ble_eq_true rfl) ?_
  intro p e s m args below meth c Q ls A hAe hsz hX0 hT hF hK hP hD hA hl hret
  rw [← hsz, ← hAe] at hX0
  have hX : Gl A s := hX0
  obtain ⟨hx, hb, hml, hown, hts⟩ := id hF
  have hown : s.vm.findClass RL = some m.cls := hown
  have hl : lv_has ls 5 [(0, .ref (b 0)), (1, .int f9), (2, .int v), (3, .ref o)] := hl
  suffices key : ∀ (H : Heap) (locs : List Loc), va_P D vwCl (lawW cy o b t pa se th tr (fo, ((z, f), (ct, L), ((sc, pf, bf), y0), y1, (nw, x), (o0, o1)))) H → va_D A (lawW cy o b t pa se th tr (fo, ((z, f), (ct, L), ((sc, pf, bf), y0), y1, (nw, x), (o0, o1)))) → va_S A s.heap H locs → W p l e rm_L_floorOf s m args below meth c H locs 0 0 Q (F0 m 0 ls []) from key s.heap [] hP hD va_S.rf
  intro H locs hP hD hS
  refine lv_aload_n hx hb dL_floorOf_0 rfl (lv_at hl 3 rfl) ?_
  refine lv_iconst (v := 0) hx hb dL_floorOf_1 rfl ?_
  refine lv_aload_n hx hb dL_floorOf_2 rfl (lv_at hl 0 rfl) ?_
  refine lv_iload_n hx hb dL_floorOf_3 rfl (lv_at hl 1 rfl) ?_
  refine lv_iload_n hx hb dL_floorOf_4 rfl (lv_at hl 2 rfl) ?_
  refine th_i (fun u : BS => lawW cy o b t pa se th tr (fo, u)) (vx_runV (As := [.int f9, .int v]) (rest := [.int 0, .ref o]) hF (c_X7_floorOf l D cy hl0 b t pa se th tr nw z hz f ct L hc1 hc2 sc pf bf y0 y1 x o0 o1 n hn hg hok f9 v H.size) (cwV 2 hts gL_floorOf_X7_floorOf rfl rfl rfl (by decide +kernel) ⟨Nat.le_of_ble_eq_true rfl, Nat.le_of_ble_eq_true rfl⟩) (wrX_preV (Wr := outW cy o fo) hK hP hD List.perm_append_comm 0 4 rfl rfl rfl Xok_x (fun U hU hW => Gx.at hX.1 hS (zz_free hD List.perm_append_comm hS hA) hU hW)) rfl rfl hl.1 rfl (lv_room (Nat.le_of_ble_eq_true rfl)) dL_floorOf_5 ⟨Nat.le_of_ble_eq_true rfl, Nat.le_of_ble_eq_true rfl⟩) hP hD hS hA List.perm_append_comm (fun _ => List.perm_append_comm) (fun E ce q9 H locs hE hKn hP hD hS hc hv hcl => ?_) (fun r1 u H locs hq hP hD hS => ?_)
  · rcases (@k_floor f9 v : _) with hk | hk | hk
    · exact absurd hk hKn
    · have hE : E = exI := by rw [hE, hk]; rfl
      subst hE
      refine cat1 hown hT rfl (by decide) (hts (.classLink RL 28 exI) (by decide +kernel)) (hX.1.words _ (by decide +kernel)) hc hv hcl ?_
      refine lv_astore (lv' := [(4, .ref q9), (0, .ref (b 0)), (1, .int f9), (2, .int v), (3, .ref o)]) hx hb dL_floorOf_13 hl (by decide) rfl (fun ls2 hl2 => ?_)
      refine lv_iconst (v := 1) hx hb dL_floorOf_15 rfl ?_
      exact hret _ _ H locs _ (fo, ((z, f), (ct, L), ((sc, pf, bf), y0), y1, (nw, x), (o0, o1))) dL_floorOf_16 hP hD hS (Or.inr ⟨hKn, hk.symm, rfl⟩)
    · have hE : E = exA := by rw [hE, hk]; rfl
      subst hE
      refine cat2 hown hT rfl (by decide) (by decide) (hts (.classLink RL 28 exI) (by decide +kernel)) (hX.2.1) (hts (.classLink RL 13 exA) (by decide +kernel)) (hX.1.words _ (by decide +kernel)) hc hv hcl ?_
      refine lv_astore (lv' := [(4, .ref q9), (0, .ref (b 0)), (1, .int f9), (2, .int v), (3, .ref o)]) hx hb dL_floorOf_17 hl (by decide) rfl (fun ls2 hl2 => ?_)
      refine lv_iconst (v := 2) hx hb dL_floorOf_19 rfl ?_
      exact hret _ _ H locs _ (fo, ((z, f), (ct, L), ((sc, pf, bf), y0), y1, (nw, x), (o0, o1))) dL_floorOf_20 hP hD hS (Or.inr ⟨hKn, hk.symm, rfl⟩)
  · refine lv_i2l hx hb dL_floorOf_8 rfl ?_
    refine va_last hx hb hK hP hD hS 0 4 rfl rfl (show vp_in (nI 0) 1 from vp_in_nI (by decide) (by decide)) dL_floorOf_9 (fun H locs hP hD hS => ?_)
    refine lv_goto (tgt := 21) hx hb dL_floorOf_10 (by decide) ?_
    refine lv_iconst (v := 0) hx hb dL_floorOf_21 rfl ?_
    exact hret _ _ H locs _ (vp_updL fo 0 r1.toInt64, u) dL_floorOf_22 hP hD hS (Or.inl ⟨hq.1, rfl, r1, rfl, hq.2⟩)
abbrev rm_L_setting : Room := { frames := 7, cells := 1, slots := 6, locals := 111 }
theorem c_L_setting (l : Launch) (D : va_G) (cy : Nat → ClassId) (hl0 : l.stackTraces = false) (b t pa se th tr nw : Nat → Nat) (z : Nat) (hz : z ≤ 120) (f : Nat → Int32) (ct : Nat) (L : List HQ) (hc1 : ct ≤ L.length) (hc2 : L.length ≤ 14) (sc : Int32) (pf bf : Nat → Int32) (y0 y1 x : HS) (o0 o1 : Option HQ) (n : Nat) (hn : n ≤ 4) (hg : x.1.1 = nI n) (hok : okX n x) (v : Int32) (o : Nat) (fo : Nat → Int64) (sz : Nat) : Met l yL_setting wsL_setting rm_L_setting (wrX D cy [.ref (b 0), .int v, .ref o] (lawW cy o b t pa se th tr (fo, ((z, f), (ct, L), ((sc, pf, bf), y0), y1, (nw, x), (o0, o1)))) sz (Gl (va_A (lawW cy o b t pa se th tr (fo, ((z, f), (ct, L), ((sc, pf, bf), y0), y1, (nw, x), (o0, o1)))) sz))) (va_Qi (lawP (kSetg v) (fun (r : Int32) (u : BS) => r = hSgOf x v ∧ u = ((z, f), (ct, L), ((sc, pf, bf), y0), y1, (nw, x), (o0, o1))) fo ((z, f), (ct, L), ((sc, pf, bf), y0), y1, (nw, x), (o0, o1))) (wrB D (va_A (lawW cy o b t pa se th tr (fo, ((z, f), (ct, L), ((sc, pf, bf), y0), y1, (nw, x), (o0, o1)))) sz) (fun u => lawW cy o b t pa se th tr u)) (va_A (lawW cy o b t pa se th tr (fo, ((z, f), (ct, L), ((sc, pf, bf), y0), y1, (nw, x), (o0, o1)))) sz)) 1 6 (va_A (lawW cy o b t pa se th tr (fo, ((z, f), (ct, L), ((sc, pf, bf), y0), y1, (nw, x), (o0, o1)))) sz) := by
  refine MthL (cc := cL_setting) (maxL := 4) (hh := [(0, 9, 12, 13)]) (by decide) rfl (Nat.le_of_ble_eq_true rfl) ?_
  intro p e s m args below meth c Q ls A hAe hsz hX0 hT hF hK hP hD hA hl hret
  rw [← hsz, ← hAe] at hX0
  have hX : Gl A s := hX0
  obtain ⟨hx, hb, hml, hown, hts⟩ := id hF
  have hown : s.vm.findClass RL = some m.cls := hown
  have hl : lv_has ls 4 [(0, .ref (b 0)), (1, .int v), (2, .ref o)] := hl
  suffices key : ∀ (H : Heap) (locs : List Loc), va_P D vwCl (lawW cy o b t pa se th tr (fo, ((z, f), (ct, L), ((sc, pf, bf), y0), y1, (nw, x), (o0, o1)))) H → va_D A (lawW cy o b t pa se th tr (fo, ((z, f), (ct, L), ((sc, pf, bf), y0), y1, (nw, x), (o0, o1)))) → va_S A s.heap H locs → W p l e rm_L_setting s m args below meth c H locs 0 0 Q (F0 m 0 ls []) from key s.heap [] hP hD va_S.rf
  intro H locs hP hD hS
  refine lv_aload_n hx hb dL_setting_0 rfl (lv_at hl 2 rfl) ?_
  refine lv_iconst (v := 0) hx hb dL_setting_1 rfl ?_
  refine lv_aload_n hx hb dL_setting_2 rfl (lv_at hl 0 rfl) ?_
  refine lv_iload_n hx hb dL_setting_3 rfl (lv_at hl 1 rfl) ?_
  refine th_i (fun u : BS => lawW cy o b t pa se th tr (fo, u)) (vx_runV (As := [.int v]) (rest := [.int 0, .ref o]) hF (c_X7_setting l D cy hl0 b t pa se th tr nw z hz f ct L hc1 hc2 sc pf bf y0 y1 x o0 o1 n hn hg hok v H.size) (cwV 1 hts gL_setting_X7_setting rfl rfl rfl (by decide +kernel) ⟨Nat.le_of_ble_eq_true rfl, Nat.le_of_ble_eq_true rfl⟩) (wrX_preV (Wr := outW cy o fo) hK hP hD List.perm_append_comm 0 4 rfl rfl rfl Xok_x (fun U hU hW => Gx.at hX.1 hS (zz_free hD List.perm_append_comm hS hA) hU hW)) rfl rfl hl.1 rfl (lv_room (Nat.le_of_ble_eq_true rfl)) dL_setting_4 ⟨Nat.le_of_ble_eq_true rfl, Nat.le_of_ble_eq_true rfl⟩) hP hD hS hA List.perm_append_comm (fun _ => List.perm_append_comm) (fun E ce q9 H locs hE hKn hP hD hS hc hv hcl => ?_) (fun r1 u H locs hq hP hD hS => ?_)
  · rcases (@k_setg v : _) with hk | hk
    · exact absurd hk hKn
    · have hE : E = exA := by rw [hE, hk]; rfl
      subst hE
      refine cat1 hown hT rfl (by decide) (hts (.classLink RL 13 exA) (by decide +kernel)) (hX.1.words _ (by decide +kernel)) hc hv hcl ?_
      refine lv_astore_n (lv' := [(3, .ref q9), (0, .ref (b 0)), (1, .int v), (2, .ref o)]) hx hb dL_setting_12 rfl hl (by decide) rfl (fun ls2 hl2 => ?_)
      refine lv_iconst (v := 1) hx hb dL_setting_13 rfl ?_
      exact hret _ _ H locs _ (fo, ((z, f), (ct, L), ((sc, pf, bf), y0), y1, (nw, x), (o0, o1))) dL_setting_14 hP hD hS (Or.inr ⟨hKn, hk.symm, rfl⟩)
  · refine lv_i2l hx hb dL_setting_7 rfl ?_
    refine va_last hx hb hK hP hD hS 0 4 rfl rfl (show vp_in (nI 0) 1 from vp_in_nI (by decide) (by decide)) dL_setting_8 (fun H locs hP hD hS => ?_)
    refine lv_goto (tgt := 15) hx hb dL_setting_9 (by decide) ?_
    refine lv_iconst (v := 0) hx hb dL_setting_15 rfl ?_
    exact hret _ _ H locs _ (vp_updL fo 0 r1.toInt64, u) dL_setting_16 hP hD hS (Or.inl ⟨hq.1, rfl, r1, rfl, hq.2⟩)
abbrev rm_L_come : Room := { frames := 7, cells := 10, slots := 51, locals := 127 }
theorem c_L_come (l : Launch) (D : va_G) (cy : Nat → ClassId) (hl0 : l.stackTraces = false) (b t pa se th tr nw : Nat → Nat) (z : Nat) (hz : z ≤ 120) (f : Nat → Int32) (ct : Nat) (L : List HQ) (hc1 : ct ≤ L.length) (hc2 : L.length ≤ 14) (sc : Int32) (pf bf : Nat → Int32) (y0 y1 x : HS) (o0 o1 : Option HQ) (n : Nat) (hn : n ≤ 4) (hg : x.1.1 = nI n) (hok : okX n x) (bb a9 hh w9 : Int32) (o : Nat) (fo : Nat → Int64) (sz : Nat) : Met l yL_come wsL_come rm_L_come (wrX D cy [.ref (b 0), .int bb, .int a9, .int hh, .int w9, .ref o] (lawW cy o b t pa se th tr (fo, ((z, f), (ct, L), ((sc, pf, bf), y0), y1, (nw, x), (o0, o1)))) sz (Gl (va_A (lawW cy o b t pa se th tr (fo, ((z, f), (ct, L), ((sc, pf, bf), y0), y1, (nw, x), (o0, o1)))) sz))) (va_Qi (lawP (kCome n bb a9 hh w9) (fun (r : Int32) (u : BS) => r = (if okC n bb a9 hh w9 then nI n else -1) ∧ ∃ (c2 : Nat) (L2 : List HQ), (c2 ≤ L2.length ∧ L2.length ≤ 14 ∧ memo c2 L2 = pushM (memo ct L) x) ∧ u = ((z, f), (c2, L2), ((sc, pf, bf), y0), y1, (nw, (hAdm n bb a9 hh w9 x)), (o0, o1))) fo ((z, f), (ct, L), ((sc, pf, bf), y0), y1, (nw, x), (o0, o1))) (wrB D (va_A (lawW cy o b t pa se th tr (fo, ((z, f), (ct, L), ((sc, pf, bf), y0), y1, (nw, x), (o0, o1)))) sz) (fun u => lawW cy o b t pa se th tr u)) (va_A (lawW cy o b t pa se th tr (fo, ((z, f), (ct, L), ((sc, pf, bf), y0), y1, (nw, x), (o0, o1)))) sz)) 10 51 (va_A (lawW cy o b t pa se th tr (fo, ((z, f), (ct, L), ((sc, pf, bf), y0), y1, (nw, x), (o0, o1)))) sz) := by
  refine MthL (cc := cL_come) (maxL := 7) (hh := [(0, 14, 17, 28), (0, 14, 21, 13), (0, 14, 25, 15)]) (by decide) rfl (Nat.le_of_ble_eq_true rfl) ?_
  intro p e s m args below meth c Q ls A hAe hsz hX0 hT hF hK hP hD hA hl hret
  rw [← hsz, ← hAe] at hX0
  have hX : Gl A s := hX0
  obtain ⟨hx, hb, hml, hown, hts⟩ := id hF
  have hown : s.vm.findClass RL = some m.cls := hown
  have hl : lv_has ls 7 [(0, .ref (b 0)), (1, .int bb), (2, .int a9), (3, .int hh), (4, .int w9), (5, .ref o)] := hl
  suffices key : ∀ (H : Heap) (locs : List Loc), va_P D vwCl (lawW cy o b t pa se th tr (fo, ((z, f), (ct, L), ((sc, pf, bf), y0), y1, (nw, x), (o0, o1)))) H → va_D A (lawW cy o b t pa se th tr (fo, ((z, f), (ct, L), ((sc, pf, bf), y0), y1, (nw, x), (o0, o1)))) → va_S A s.heap H locs → W p l e rm_L_come s m args below meth c H locs 0 0 Q (F0 m 0 ls []) from key s.heap [] hP hD va_S.rf
  intro H locs hP hD hS
  refine lv_aload hx hb dL_come_0 (lv_at hl 5 rfl) ?_
  refine lv_iconst (v := 0) hx hb dL_come_2 rfl ?_
  refine lv_aload_n hx hb dL_come_3 rfl (lv_at hl 0 rfl) ?_
  refine lv_iload_n hx hb dL_come_4 rfl (lv_at hl 1 rfl) ?_
  refine lv_iload_n hx hb dL_come_5 rfl (lv_at hl 2 rfl) ?_
  refine lv_iload_n hx hb dL_come_6 rfl (lv_at hl 3 rfl) ?_
  refine lv_iload hx hb dL_come_7 (lv_at hl 4 rfl) ?_
  refine th_i (fun u : BS => lawW cy o b t pa se th tr (fo, u)) (vx_runV (As := [.int bb, .int a9, .int hh, .int w9]) (rest := [.int 0, .ref o]) hF (c_X7_come l D cy hl0 b t pa se th tr nw z hz f ct L hc1 hc2 sc pf bf y0 y1 x o0 o1 n hn hg hok bb a9 hh w9 H.size) (cwV 4 hts gL_come_X7_come rfl rfl rfl (by decide +kernel) ⟨Nat.le_of_ble_eq_true rfl, Nat.le_of_ble_eq_true rfl⟩) (wrX_preV (Wr := outW cy o fo) hK hP hD List.perm_append_comm 0 4 rfl rfl rfl Xok_x (fun U hU hW => Gx.at hX.1 hS (zz_free hD List.perm_append_comm hS hA) hU hW)) rfl rfl hl.1 rfl (lv_room (Nat.le_of_ble_eq_true rfl)) dL_come_9 ⟨Nat.le_of_ble_eq_true rfl, Nat.le_of_ble_eq_true rfl⟩) hP hD hS hA List.perm_append_comm (fun _ => List.perm_append_comm) (fun E ce q9 H locs hE hKn hP hD hS hc hv hcl => ?_) (fun r1 u H locs hq hP hD hS => ?_)
  · rcases (@k_come n bb a9 hh w9 : _) with hk | hk | hk | hk
    · exact absurd hk hKn
    · have hE : E = exI := by rw [hE, hk]; rfl
      subst hE
      refine cat1 hown hT rfl (by decide) (hts (.classLink RL 28 exI) (by decide +kernel)) (hX.1.words _ (by decide +kernel)) hc hv hcl ?_
      refine lv_astore (lv' := [(6, .ref q9), (0, .ref (b 0)), (1, .int bb), (2, .int a9), (3, .int hh), (4, .int w9), (5, .ref o)]) hx hb dL_come_17 hl (by decide) rfl (fun ls2 hl2 => ?_)
      refine lv_iconst (v := 1) hx hb dL_come_19 rfl ?_
      exact hret _ _ H locs _ (fo, ((z, f), (ct, L), ((sc, pf, bf), y0), y1, (nw, x), (o0, o1))) dL_come_20 hP hD hS (Or.inr ⟨hKn, hk.symm, rfl⟩)
    · have hE : E = exA := by rw [hE, hk]; rfl
      subst hE
      refine cat2 hown hT rfl (by decide) (by decide) (hts (.classLink RL 28 exI) (by decide +kernel)) (hX.2.1) (hts (.classLink RL 13 exA) (by decide +kernel)) (hX.1.words _ (by decide +kernel)) hc hv hcl ?_
      refine lv_astore (lv' := [(6, .ref q9), (0, .ref (b 0)), (1, .int bb), (2, .int a9), (3, .int hh), (4, .int w9), (5, .ref o)]) hx hb dL_come_21 hl (by decide) rfl (fun ls2 hl2 => ?_)
      refine lv_iconst (v := 2) hx hb dL_come_23 rfl ?_
      exact hret _ _ H locs _ (fo, ((z, f), (ct, L), ((sc, pf, bf), y0), y1, (nw, x), (o0, o1))) dL_come_24 hP hD hS (Or.inr ⟨hKn, hk.symm, rfl⟩)
    · have hE : E = exS := by rw [hE, hk]; rfl
      subst hE
      refine cat3 hown hT rfl (by decide) (by decide) (hts (.classLink RL 28 exI) (by decide +kernel)) (hX.2.2.2.2.2.2) (by decide) (hts (.classLink RL 13 exA) (by decide +kernel)) (hX.2.2.2.2.2.1) (hts (.classLink RL 15 exS) (by decide +kernel)) (hX.1.words _ (by decide +kernel)) hc hv hcl ?_
      refine lv_astore (lv' := [(6, .ref q9), (0, .ref (b 0)), (1, .int bb), (2, .int a9), (3, .int hh), (4, .int w9), (5, .ref o)]) hx hb dL_come_25 hl (by decide) rfl (fun ls2 hl2 => ?_)
      refine lv_iconst (v := 3) hx hb dL_come_27 rfl ?_
      exact hret _ _ H locs _ (fo, ((z, f), (ct, L), ((sc, pf, bf), y0), y1, (nw, x), (o0, o1))) dL_come_28 hP hD hS (Or.inr ⟨hKn, hk.symm, rfl⟩)
  · refine lv_i2l hx hb dL_come_12 rfl ?_
    refine va_last hx hb hK hP hD hS 0 4 rfl rfl (show vp_in (nI 0) 1 from vp_in_nI (by decide) (by decide)) dL_come_13 (fun H locs hP hD hS => ?_)
    refine lv_goto (tgt := 29) hx hb dL_come_14 (by decide) ?_
    refine lv_iconst (v := 0) hx hb dL_come_29 rfl ?_
    exact hret _ _ H locs _ (vp_updL fo 0 r1.toInt64, u) dL_come_30 hP hD hS (Or.inl ⟨hq.1, rfl, r1, rfl, hq.2⟩)
abbrev rm_L_leave : Room := { frames := 8, cells := 11, slots := 57, locals := 132 }
theorem c_L_leave (l : Launch) (D : va_G) (cy : Nat → ClassId) (hl0 : l.stackTraces = false) (b t pa se th tr nw : Nat → Nat) (z : Nat) (hz : z ≤ 120) (f : Nat → Int32) (ct : Nat) (L : List HQ) (hc1 : ct ≤ L.length) (hc2 : L.length ≤ 14) (sc : Int32) (pf bf : Nat → Int32) (y0 y1 x : HS) (o0 o1 : Option HQ) (n : Nat) (hn : n ≤ 4) (hg : x.1.1 = nI n) (hok : okX n x) (g : Int32) (o : Nat) (fo : Nat → Int64) (sz : Nat) : Met l yL_leave wsL_leave rm_L_leave (wrX D cy [.ref (b 0), .int g, .ref o] (lawW cy o b t pa se th tr (fo, ((z, f), (ct, L), ((sc, pf, bf), y0), y1, (nw, x), (o0, o1)))) sz (Gl (va_A (lawW cy o b t pa se th tr (fo, ((z, f), (ct, L), ((sc, pf, bf), y0), y1, (nw, x), (o0, o1)))) sz))) (va_Qi (lawP (kG (nI n) g) (fun (r : Int32) (u : BS) => r = hGr x g ∧ ∃ (c2 : Nat) (L2 : List HQ), (c2 ≤ L2.length ∧ L2.length ≤ 14 ∧ memo c2 L2 = pushM (memo ct L) x) ∧ u = ((z, f), (c2, L2), ((sc, pf, bf), y0), y1, (nw, (hLeave n x g)), (o0, o1))) fo ((z, f), (ct, L), ((sc, pf, bf), y0), y1, (nw, x), (o0, o1))) (wrB D (va_A (lawW cy o b t pa se th tr (fo, ((z, f), (ct, L), ((sc, pf, bf), y0), y1, (nw, x), (o0, o1)))) sz) (fun u => lawW cy o b t pa se th tr u)) (va_A (lawW cy o b t pa se th tr (fo, ((z, f), (ct, L), ((sc, pf, bf), y0), y1, (nw, x), (o0, o1)))) sz)) 11 57 (va_A (lawW cy o b t pa se th tr (fo, ((z, f), (ct, L), ((sc, pf, bf), y0), y1, (nw, x), (o0, o1)))) sz) := by
  refine MthL (cc := cL_leave) (maxL := 4) (hh := [(0, 9, 12, 28)]) (by decide) rfl (Nat.le_of_ble_eq_true rfl) ?_
  intro p e s m args below meth c Q ls A hAe hsz hX0 hT hF hK hP hD hA hl hret
  rw [← hsz, ← hAe] at hX0
  have hX : Gl A s := hX0
  obtain ⟨hx, hb, hml, hown, hts⟩ := id hF
  have hown : s.vm.findClass RL = some m.cls := hown
  have hl : lv_has ls 4 [(0, .ref (b 0)), (1, .int g), (2, .ref o)] := hl
  suffices key : ∀ (H : Heap) (locs : List Loc), va_P D vwCl (lawW cy o b t pa se th tr (fo, ((z, f), (ct, L), ((sc, pf, bf), y0), y1, (nw, x), (o0, o1)))) H → va_D A (lawW cy o b t pa se th tr (fo, ((z, f), (ct, L), ((sc, pf, bf), y0), y1, (nw, x), (o0, o1)))) → va_S A s.heap H locs → W p l e rm_L_leave s m args below meth c H locs 0 0 Q (F0 m 0 ls []) from key s.heap [] hP hD va_S.rf
  intro H locs hP hD hS
  refine lv_aload_n hx hb dL_leave_0 rfl (lv_at hl 2 rfl) ?_
  refine lv_iconst (v := 0) hx hb dL_leave_1 rfl ?_
  refine lv_aload_n hx hb dL_leave_2 rfl (lv_at hl 0 rfl) ?_
  refine lv_iload_n hx hb dL_leave_3 rfl (lv_at hl 1 rfl) ?_
  refine th_i (fun u : BS => lawW cy o b t pa se th tr (fo, u)) (vx_runV (As := [.int g]) (rest := [.int 0, .ref o]) hF (c_X7_leave l D cy hl0 b t pa se th tr nw z hz f ct L hc1 hc2 sc pf bf y0 y1 x o0 o1 n hn hg hok g H.size) (cwV 1 hts gL_leave_X7_leave rfl rfl rfl (by decide +kernel) ⟨Nat.le_of_ble_eq_true rfl, Nat.le_of_ble_eq_true rfl⟩) (wrX_preV (Wr := outW cy o fo) hK hP hD List.perm_append_comm 0 4 rfl rfl rfl Xok_x (fun U hU hW => Gx.at hX.1 hS (zz_free hD List.perm_append_comm hS hA) hU hW)) rfl rfl hl.1 rfl (lv_room (Nat.le_of_ble_eq_true rfl)) dL_leave_4 ⟨Nat.le_of_ble_eq_true rfl, Nat.le_of_ble_eq_true rfl⟩) hP hD hS hA List.perm_append_comm (fun _ => List.perm_append_comm) (fun E ce q9 H locs hE hKn hP hD hS hc hv hcl => ?_) (fun r1 u H locs hq hP hD hS => ?_)
  · rcases (@k_g (nI n) g : _) with hk | hk
    · exact absurd hk hKn
    · have hE : E = exI := by rw [hE, hk]; rfl
      subst hE
      refine cat1 hown hT rfl (by decide) (hts (.classLink RL 28 exI) (by decide +kernel)) (hX.1.words _ (by decide +kernel)) hc hv hcl ?_
      refine lv_astore_n (lv' := [(3, .ref q9), (0, .ref (b 0)), (1, .int g), (2, .ref o)]) hx hb dL_leave_12 rfl hl (by decide) rfl (fun ls2 hl2 => ?_)
      refine lv_iconst (v := 1) hx hb dL_leave_13 rfl ?_
      exact hret _ _ H locs _ (fo, ((z, f), (ct, L), ((sc, pf, bf), y0), y1, (nw, x), (o0, o1))) dL_leave_14 hP hD hS (Or.inr ⟨hKn, hk.symm, rfl⟩)
  · refine lv_i2l hx hb dL_leave_7 rfl ?_
    refine va_last hx hb hK hP hD hS 0 4 rfl rfl (show vp_in (nI 0) 1 from vp_in_nI (by decide) (by decide)) dL_leave_8 (fun H locs hP hD hS => ?_)
    refine lv_goto (tgt := 15) hx hb dL_leave_9 (by decide) ?_
    refine lv_iconst (v := 0) hx hb dL_leave_15 rfl ?_
    exact hret _ _ H locs _ (vp_updL fo 0 r1.toInt64, u) dL_leave_16 hP hD hS (Or.inl ⟨hq.1, rfl, r1, rfl, hq.2⟩)
abbrev rm_L_press : Room := { frames := 8, cells := 11, slots := 57, locals := 132 }
theorem c_L_press (l : Launch) (D : va_G) (cy : Nat → ClassId) (hl0 : l.stackTraces = false) (b t pa se th tr nw : Nat → Nat) (z : Nat) (hz : z ≤ 120) (f : Nat → Int32) (ct : Nat) (L : List HQ) (hc1 : ct ≤ L.length) (hc2 : L.length ≤ 14) (sc : Int32) (pf bf : Nat → Int32) (y0 y1 x : HS) (o0 o1 : Option HQ) (n : Nat) (hn : n ≤ 4) (hg : x.1.1 = nI n) (hok : okX n x) (g : Int32) (o : Nat) (fo : Nat → Int64) (sz : Nat) : Met l yL_press wsL_press rm_L_press (wrX D cy [.ref (b 0), .int g, .ref o] (lawW cy o b t pa se th tr (fo, ((z, f), (ct, L), ((sc, pf, bf), y0), y1, (nw, x), (o0, o1)))) sz (Gl (va_A (lawW cy o b t pa se th tr (fo, ((z, f), (ct, L), ((sc, pf, bf), y0), y1, (nw, x), (o0, o1)))) sz))) (va_Qi (lawP (kG (nI n) g) (fun (r : Int32) (u : BS) => r = hReas x g ∧ ∃ (c2 : Nat) (L2 : List HQ), (c2 ≤ L2.length ∧ L2.length ≤ 14 ∧ memo c2 L2 = pushM (memo ct L) x) ∧ u = ((z, f), (c2, L2), ((sc, pf, bf), y0), y1, (nw, (hPress n x g)), (o0, o1))) fo ((z, f), (ct, L), ((sc, pf, bf), y0), y1, (nw, x), (o0, o1))) (wrB D (va_A (lawW cy o b t pa se th tr (fo, ((z, f), (ct, L), ((sc, pf, bf), y0), y1, (nw, x), (o0, o1)))) sz) (fun u => lawW cy o b t pa se th tr u)) (va_A (lawW cy o b t pa se th tr (fo, ((z, f), (ct, L), ((sc, pf, bf), y0), y1, (nw, x), (o0, o1)))) sz)) 11 57 (va_A (lawW cy o b t pa se th tr (fo, ((z, f), (ct, L), ((sc, pf, bf), y0), y1, (nw, x), (o0, o1)))) sz) := by
  refine MthL (cc := cL_press) (maxL := 4) (hh := [(0, 9, 12, 28)]) (by decide) rfl (Nat.le_of_ble_eq_true rfl) ?_
  intro p e s m args below meth c Q ls A hAe hsz hX0 hT hF hK hP hD hA hl hret
  rw [← hsz, ← hAe] at hX0
  have hX : Gl A s := hX0
  obtain ⟨hx, hb, hml, hown, hts⟩ := id hF
  have hown : s.vm.findClass RL = some m.cls := hown
  have hl : lv_has ls 4 [(0, .ref (b 0)), (1, .int g), (2, .ref o)] := hl
  suffices key : ∀ (H : Heap) (locs : List Loc), va_P D vwCl (lawW cy o b t pa se th tr (fo, ((z, f), (ct, L), ((sc, pf, bf), y0), y1, (nw, x), (o0, o1)))) H → va_D A (lawW cy o b t pa se th tr (fo, ((z, f), (ct, L), ((sc, pf, bf), y0), y1, (nw, x), (o0, o1)))) → va_S A s.heap H locs → W p l e rm_L_press s m args below meth c H locs 0 0 Q (F0 m 0 ls []) from key s.heap [] hP hD va_S.rf
  intro H locs hP hD hS
  refine lv_aload_n hx hb dL_press_0 rfl (lv_at hl 2 rfl) ?_
  refine lv_iconst (v := 0) hx hb dL_press_1 rfl ?_
  refine lv_aload_n hx hb dL_press_2 rfl (lv_at hl 0 rfl) ?_
  refine lv_iload_n hx hb dL_press_3 rfl (lv_at hl 1 rfl) ?_
  refine th_i (fun u : BS => lawW cy o b t pa se th tr (fo, u)) (vx_runV (As := [.int g]) (rest := [.int 0, .ref o]) hF (c_X7_press l D cy hl0 b t pa se th tr nw z hz f ct L hc1 hc2 sc pf bf y0 y1 x o0 o1 n hn hg hok g H.size) (cwV 1 hts gL_press_X7_press rfl rfl rfl (by decide +kernel) ⟨Nat.le_of_ble_eq_true rfl, Nat.le_of_ble_eq_true rfl⟩) (wrX_preV (Wr := outW cy o fo) hK hP hD List.perm_append_comm 0 4 rfl rfl rfl Xok_x (fun U hU hW => Gx.at hX.1 hS (zz_free hD List.perm_append_comm hS hA) hU hW)) rfl rfl hl.1 rfl (lv_room (Nat.le_of_ble_eq_true rfl)) dL_press_4 ⟨Nat.le_of_ble_eq_true rfl, Nat.le_of_ble_eq_true rfl⟩) hP hD hS hA List.perm_append_comm (fun _ => List.perm_append_comm) (fun E ce q9 H locs hE hKn hP hD hS hc hv hcl => ?_) (fun r1 u H locs hq hP hD hS => ?_)
  · rcases (@k_g (nI n) g : _) with hk | hk
    · exact absurd hk hKn
    · have hE : E = exI := by rw [hE, hk]; rfl
      subst hE
      refine cat1 hown hT rfl (by decide) (hts (.classLink RL 28 exI) (by decide +kernel)) (hX.1.words _ (by decide +kernel)) hc hv hcl ?_
      refine lv_astore_n (lv' := [(3, .ref q9), (0, .ref (b 0)), (1, .int g), (2, .ref o)]) hx hb dL_press_12 rfl hl (by decide) rfl (fun ls2 hl2 => ?_)
      refine lv_iconst (v := 1) hx hb dL_press_13 rfl ?_
      exact hret _ _ H locs _ (fo, ((z, f), (ct, L), ((sc, pf, bf), y0), y1, (nw, x), (o0, o1))) dL_press_14 hP hD hS (Or.inr ⟨hKn, hk.symm, rfl⟩)
  · refine lv_i2l hx hb dL_press_7 rfl ?_
    refine va_last hx hb hK hP hD hS 0 4 rfl rfl (show vp_in (nI 0) 1 from vp_in_nI (by decide) (by decide)) dL_press_8 (fun H locs hP hD hS => ?_)
    refine lv_goto (tgt := 15) hx hb dL_press_9 (by decide) ?_
    refine lv_iconst (v := 0) hx hb dL_press_15 rfl ?_
    exact hret _ _ H locs _ (vp_updL fo 0 r1.toInt64, u) dL_press_16 hP hD hS (Or.inl ⟨hq.1, rfl, r1, rfl, hq.2⟩)
abbrev rm_L_set : Room := { frames := 7, cells := 10, slots := 51, locals := 125 }
theorem c_L_set (l : Launch) (D : va_G) (cy : Nat → ClassId) (hl0 : l.stackTraces = false) (b t pa se th tr nw : Nat → Nat) (z : Nat) (hz : z ≤ 120) (f : Nat → Int32) (ct : Nat) (L : List HQ) (hc1 : ct ≤ L.length) (hc2 : L.length ≤ 14) (sc : Int32) (pf bf : Nat → Int32) (y0 y1 x : HS) (o0 o1 : Option HQ) (n : Nat) (hn : n ≤ 4) (hg : x.1.1 = nI n) (hok : okX n x) (w9 v : Int32) (o : Nat) (fo : Nat → Int64) (sz : Nat) : Met l yL_set wsL_set rm_L_set (wrX D cy [.ref (b 0), .int w9, .int v, .ref o] (lawW cy o b t pa se th tr (fo, ((z, f), (ct, L), ((sc, pf, bf), y0), y1, (nw, x), (o0, o1)))) sz (Gl (va_A (lawW cy o b t pa se th tr (fo, ((z, f), (ct, L), ((sc, pf, bf), y0), y1, (nw, x), (o0, o1)))) sz))) (va_Qi (lawP (kSet w9 v) (fun (r : Int32) (u : BS) => r = hSetR x w9 v ∧ ∃ (c2 : Nat) (L2 : List HQ), (c2 ≤ L2.length ∧ L2.length ≤ 14 ∧ memo c2 L2 = pushM (memo ct L) x) ∧ u = ((z, f), (c2, L2), ((sc, pf, bf), y0), y1, (nw, (hSet w9 v x)), (o0, o1))) fo ((z, f), (ct, L), ((sc, pf, bf), y0), y1, (nw, x), (o0, o1))) (wrB D (va_A (lawW cy o b t pa se th tr (fo, ((z, f), (ct, L), ((sc, pf, bf), y0), y1, (nw, x), (o0, o1)))) sz) (fun u => lawW cy o b t pa se th tr u)) (va_A (lawW cy o b t pa se th tr (fo, ((z, f), (ct, L), ((sc, pf, bf), y0), y1, (nw, x), (o0, o1)))) sz)) 10 51 (va_A (lawW cy o b t pa se th tr (fo, ((z, f), (ct, L), ((sc, pf, bf), y0), y1, (nw, x), (o0, o1)))) sz) := by
  refine MthL (cc := cL_set) (maxL := 5) (hh := [(0, 10, 13, 13)]) (by decide) rfl (Nat.le_of_ble_eq_true rfl) ?_
  intro p e s m args below meth c Q ls A hAe hsz hX0 hT hF hK hP hD hA hl hret
  rw [← hsz, ← hAe] at hX0
  have hX : Gl A s := hX0
  obtain ⟨hx, hb, hml, hown, hts⟩ := id hF
  have hown : s.vm.findClass RL = some m.cls := hown
  have hl : lv_has ls 5 [(0, .ref (b 0)), (1, .int w9), (2, .int v), (3, .ref o)] := hl
  suffices key : ∀ (H : Heap) (locs : List Loc), va_P D vwCl (lawW cy o b t pa se th tr (fo, ((z, f), (ct, L), ((sc, pf, bf), y0), y1, (nw, x), (o0, o1)))) H → va_D A (lawW cy o b t pa se th tr (fo, ((z, f), (ct, L), ((sc, pf, bf), y0), y1, (nw, x), (o0, o1)))) → va_S A s.heap H locs → W p l e rm_L_set s m args below meth c H locs 0 0 Q (F0 m 0 ls []) from key s.heap [] hP hD va_S.rf
  intro H locs hP hD hS
  refine lv_aload_n hx hb dL_set_0 rfl (lv_at hl 3 rfl) ?_
  refine lv_iconst (v := 0) hx hb dL_set_1 rfl ?_
  refine lv_aload_n hx hb dL_set_2 rfl (lv_at hl 0 rfl) ?_
  refine lv_iload_n hx hb dL_set_3 rfl (lv_at hl 1 rfl) ?_
  refine lv_iload_n hx hb dL_set_4 rfl (lv_at hl 2 rfl) ?_
  refine th_i (fun u : BS => lawW cy o b t pa se th tr (fo, u)) (vx_runV (As := [.int w9, .int v]) (rest := [.int 0, .ref o]) hF (c_X7_set l D cy hl0 b t pa se th tr nw z hz f ct L hc1 hc2 sc pf bf y0 y1 x o0 o1 n hn hg hok w9 v H.size) (cwV 2 hts gL_set_X7_set rfl rfl rfl (by decide +kernel) ⟨Nat.le_of_ble_eq_true rfl, Nat.le_of_ble_eq_true rfl⟩) (wrX_preV (Wr := outW cy o fo) hK hP hD List.perm_append_comm 0 4 rfl rfl rfl Xok_x (fun U hU hW => Gx.at hX.1 hS (zz_free hD List.perm_append_comm hS hA) hU hW)) rfl rfl hl.1 rfl (lv_room (Nat.le_of_ble_eq_true rfl)) dL_set_5 ⟨Nat.le_of_ble_eq_true rfl, Nat.le_of_ble_eq_true rfl⟩) hP hD hS hA List.perm_append_comm (fun _ => List.perm_append_comm) (fun E ce q9 H locs hE hKn hP hD hS hc hv hcl => ?_) (fun r1 u H locs hq hP hD hS => ?_)
  · rcases (@k_set w9 v : _) with hk | hk
    · exact absurd hk hKn
    · have hE : E = exA := by rw [hE, hk]; rfl
      subst hE
      refine cat1 hown hT rfl (by decide) (hts (.classLink RL 13 exA) (by decide +kernel)) (hX.1.words _ (by decide +kernel)) hc hv hcl ?_
      refine lv_astore (lv' := [(4, .ref q9), (0, .ref (b 0)), (1, .int w9), (2, .int v), (3, .ref o)]) hx hb dL_set_13 hl (by decide) rfl (fun ls2 hl2 => ?_)
      refine lv_iconst (v := 1) hx hb dL_set_15 rfl ?_
      exact hret _ _ H locs _ (fo, ((z, f), (ct, L), ((sc, pf, bf), y0), y1, (nw, x), (o0, o1))) dL_set_16 hP hD hS (Or.inr ⟨hKn, hk.symm, rfl⟩)
  · refine lv_i2l hx hb dL_set_8 rfl ?_
    refine va_last hx hb hK hP hD hS 0 4 rfl rfl (show vp_in (nI 0) 1 from vp_in_nI (by decide) (by decide)) dL_set_9 (fun H locs hP hD hS => ?_)
    refine lv_goto (tgt := 17) hx hb dL_set_10 (by decide) ?_
    refine lv_iconst (v := 0) hx hb dL_set_17 rfl ?_
    exact hret _ _ H locs _ (vp_updL fo 0 r1.toInt64, u) dL_set_18 hP hD hS (Or.inl ⟨hq.1, rfl, r1, rfl, hq.2⟩)
abbrev rm_L_undo : Room := { frames := 7, cells := 1, slots := 6, locals := 123 }
theorem c_L_undo (l : Launch) (D : va_G) (cy : Nat → ClassId) (hl0 : l.stackTraces = false) (b t pa se th tr nw : Nat → Nat) (z : Nat) (hz : z ≤ 120) (f : Nat → Int32) (ct : Nat) (L : List HQ) (hc1 : ct ≤ L.length) (hc2 : L.length ≤ 14) (sc : Int32) (pf bf : Nat → Int32) (y0 y1 x : HS) (o0 o1 : Option HQ) (n : Nat) (hn : n ≤ 4) (hg : x.1.1 = nI n) (hok : okX n x) (o : Nat) (fo : Nat → Int64) (sz : Nat) : Met l yL_undo wsL_undo rm_L_undo (wrX D cy [.ref (b 0), .ref o] (lawW cy o b t pa se th tr (fo, ((z, f), (ct, L), ((sc, pf, bf), y0), y1, (nw, x), (o0, o1)))) sz (Gl (va_A (lawW cy o b t pa se th tr (fo, ((z, f), (ct, L), ((sc, pf, bf), y0), y1, (nw, x), (o0, o1)))) sz))) (va_Qi (lawP (kUndo ct) (fun (r : Int32) (u : BS) => r = nI (ct - 1) ∧ ∃ y : HS, memo ct L = memo (ct - 1) L ++ [y] ∧ u = ((z, f), (ct - 1, L), ((sc, pf, bf), y0), y1, (nw, y), (o0, o1))) fo ((z, f), (ct, L), ((sc, pf, bf), y0), y1, (nw, x), (o0, o1))) (wrB D (va_A (lawW cy o b t pa se th tr (fo, ((z, f), (ct, L), ((sc, pf, bf), y0), y1, (nw, x), (o0, o1)))) sz) (fun u => lawW cy o b t pa se th tr u)) (va_A (lawW cy o b t pa se th tr (fo, ((z, f), (ct, L), ((sc, pf, bf), y0), y1, (nw, x), (o0, o1)))) sz)) 1 6 (va_A (lawW cy o b t pa se th tr (fo, ((z, f), (ct, L), ((sc, pf, bf), y0), y1, (nw, x), (o0, o1)))) sz) := by
  refine MthL (cc := cL_undo) (maxL := 3) (hh := [(0, 8, 11, 15)]) (by decide) rfl (Nat.le_of_ble_eq_true rfl) ?_
  intro p e s m args below meth c Q ls A hAe hsz hX0 hT hF hK hP hD hA hl hret
  rw [← hsz, ← hAe] at hX0
  have hX : Gl A s := hX0
  obtain ⟨hx, hb, hml, hown, hts⟩ := id hF
  have hown : s.vm.findClass RL = some m.cls := hown
  have hl : lv_has ls 3 [(0, .ref (b 0)), (1, .ref o)] := hl
  suffices key : ∀ (H : Heap) (locs : List Loc), va_P D vwCl (lawW cy o b t pa se th tr (fo, ((z, f), (ct, L), ((sc, pf, bf), y0), y1, (nw, x), (o0, o1)))) H → va_D A (lawW cy o b t pa se th tr (fo, ((z, f), (ct, L), ((sc, pf, bf), y0), y1, (nw, x), (o0, o1)))) → va_S A s.heap H locs → W p l e rm_L_undo s m args below meth c H locs 0 0 Q (F0 m 0 ls []) from key s.heap [] hP hD va_S.rf
  intro H locs hP hD hS
  refine lv_aload_n hx hb dL_undo_0 rfl (lv_at hl 1 rfl) ?_
  refine lv_iconst (v := 0) hx hb dL_undo_1 rfl ?_
  refine lv_aload_n hx hb dL_undo_2 rfl (lv_at hl 0 rfl) ?_
  refine th_i (fun u : BS => lawW cy o b t pa se th tr (fo, u)) (vx_runV (As := []) (rest := [.int 0, .ref o]) hF (c_X7_undo l D cy hl0 b t pa se th tr nw z hz f ct L hc1 hc2 sc pf bf y0 y1 x o0 o1 n hn hg hok H.size) (cwV 0 hts gL_undo_X7_undo rfl rfl rfl (by decide +kernel) ⟨Nat.le_of_ble_eq_true rfl, Nat.le_of_ble_eq_true rfl⟩) (wrX_preV (Wr := outW cy o fo) hK hP hD List.perm_append_comm 0 4 rfl rfl rfl Xok_x (fun U hU hW => Gx.at hX.1 hS (zz_free hD List.perm_append_comm hS hA) hU hW)) rfl rfl hl.1 rfl (lv_room (Nat.le_of_ble_eq_true rfl)) dL_undo_3 ⟨Nat.le_of_ble_eq_true rfl, Nat.le_of_ble_eq_true rfl⟩) hP hD hS hA List.perm_append_comm (fun _ => List.perm_append_comm) (fun E ce q9 H locs hE hKn hP hD hS hc hv hcl => ?_) (fun r1 u H locs hq hP hD hS => ?_)
  · rcases (@k_undo ct : _) with hk | hk
    · exact absurd hk hKn
    · have hE : E = exS := by rw [hE, hk]; rfl
      subst hE
      refine cat1 hown hT rfl (by decide) (hts (.classLink RL 15 exS) (by decide +kernel)) (hX.1.words _ (by decide +kernel)) hc hv hcl ?_
      refine lv_astore_n (lv' := [(2, .ref q9), (0, .ref (b 0)), (1, .ref o)]) hx hb dL_undo_11 rfl hl (by decide) rfl (fun ls2 hl2 => ?_)
      refine lv_iconst (v := 1) hx hb dL_undo_12 rfl ?_
      exact hret _ _ H locs _ (fo, ((z, f), (ct, L), ((sc, pf, bf), y0), y1, (nw, x), (o0, o1))) dL_undo_13 hP hD hS (Or.inr ⟨hKn, hk.symm, rfl⟩)
  · refine lv_i2l hx hb dL_undo_6 rfl ?_
    refine va_last hx hb hK hP hD hS 0 4 rfl rfl (show vp_in (nI 0) 1 from vp_in_nI (by decide) (by decide)) dL_undo_7 (fun H locs hP hD hS => ?_)
    refine lv_goto (tgt := 14) hx hb dL_undo_8 (by decide) ?_
    refine lv_iconst (v := 0) hx hb dL_undo_14 rfl ?_
    exact hret _ _ H locs _ (vp_updL fo 0 r1.toInt64, u) dL_undo_15 hP hD hS (Or.inl ⟨hq.1, rfl, r1, rfl, hq.2⟩)
abbrev rm_L_why : Room := { frames := 8, cells := 1, slots := 6, locals := 132 }
theorem c_L_why (l : Launch) (D : va_G) (cy : Nat → ClassId) (hl0 : l.stackTraces = false) (b t pa se th tr nw : Nat → Nat) (z : Nat) (hz : z ≤ 120) (f : Nat → Int32) (ct : Nat) (L : List HQ) (hc1 : ct ≤ L.length) (hc2 : L.length ≤ 14) (sc : Int32) (pf bf : Nat → Int32) (y0 y1 x : HS) (o0 o1 : Option HQ) (n : Nat) (hn : n ≤ 4) (hg : x.1.1 = nI n) (hok : okX n x) (g : Int32) (o : Nat) (fo : Nat → Int64) (sz : Nat) : Met l yL_why wsL_why rm_L_why (wrX D cy [.ref (b 0), .int g, .ref o] (lawW cy o b t pa se th tr (fo, ((z, f), (ct, L), ((sc, pf, bf), y0), y1, (nw, x), (o0, o1)))) sz (Gl (va_A (lawW cy o b t pa se th tr (fo, ((z, f), (ct, L), ((sc, pf, bf), y0), y1, (nw, x), (o0, o1)))) sz))) (va_Qi (lawP (kG (nI n) g) (fun (r : Int32) (u : BS) => r = hReas x g ∧ u = ((z, f), (ct, L), ((sc, pf, bf), y0), y1, (nw, x), (o0, o1))) fo ((z, f), (ct, L), ((sc, pf, bf), y0), y1, (nw, x), (o0, o1))) (wrB D (va_A (lawW cy o b t pa se th tr (fo, ((z, f), (ct, L), ((sc, pf, bf), y0), y1, (nw, x), (o0, o1)))) sz) (fun u => lawW cy o b t pa se th tr u)) (va_A (lawW cy o b t pa se th tr (fo, ((z, f), (ct, L), ((sc, pf, bf), y0), y1, (nw, x), (o0, o1)))) sz)) 1 6 (va_A (lawW cy o b t pa se th tr (fo, ((z, f), (ct, L), ((sc, pf, bf), y0), y1, (nw, x), (o0, o1)))) sz) := by
  refine MthL (cc := cL_why) (maxL := 4) (hh := [(0, 9, 12, 28)]) (by decide) rfl (Nat.le_of_ble_eq_true rfl) ?_
  intro p e s m args below meth c Q ls A hAe hsz hX0 hT hF hK hP hD hA hl hret
  rw [← hsz, ← hAe] at hX0
  have hX : Gl A s := hX0
  obtain ⟨hx, hb, hml, hown, hts⟩ := id hF
  have hown : s.vm.findClass RL = some m.cls := hown
  have hl : lv_has ls 4 [(0, .ref (b 0)), (1, .int g), (2, .ref o)] := hl
  suffices key : ∀ (H : Heap) (locs : List Loc), va_P D vwCl (lawW cy o b t pa se th tr (fo, ((z, f), (ct, L), ((sc, pf, bf), y0), y1, (nw, x), (o0, o1)))) H → va_D A (lawW cy o b t pa se th tr (fo, ((z, f), (ct, L), ((sc, pf, bf), y0), y1, (nw, x), (o0, o1)))) → va_S A s.heap H locs → W p l e rm_L_why s m args below meth c H locs 0 0 Q (F0 m 0 ls []) from key s.heap [] hP hD va_S.rf
  intro H locs hP hD hS
  refine lv_aload_n hx hb dL_why_0 rfl (lv_at hl 2 rfl) ?_
  refine lv_iconst (v := 0) hx hb dL_why_1 rfl ?_
  refine lv_aload_n hx hb dL_why_2 rfl (lv_at hl 0 rfl) ?_
  refine lv_iload_n hx hb dL_why_3 rfl (lv_at hl 1 rfl) ?_
  refine th_i (fun u : BS => lawW cy o b t pa se th tr (fo, u)) (vx_runV (As := [.int g]) (rest := [.int 0, .ref o]) hF (c_X7_why l D cy hl0 b t pa se th tr nw z hz f ct L hc1 hc2 sc pf bf y0 y1 x o0 o1 n hn hg hok g H.size) (cwV 1 hts gL_why_X7_why rfl rfl rfl (by decide +kernel) ⟨Nat.le_of_ble_eq_true rfl, Nat.le_of_ble_eq_true rfl⟩) (wrX_preV (Wr := outW cy o fo) hK hP hD List.perm_append_comm 0 4 rfl rfl rfl Xok_x (fun U hU hW => Gx.at hX.1 hS (zz_free hD List.perm_append_comm hS hA) hU hW)) rfl rfl hl.1 rfl (lv_room (Nat.le_of_ble_eq_true rfl)) dL_why_4 ⟨Nat.le_of_ble_eq_true rfl, Nat.le_of_ble_eq_true rfl⟩) hP hD hS hA List.perm_append_comm (fun _ => List.perm_append_comm) (fun E ce q9 H locs hE hKn hP hD hS hc hv hcl => ?_) (fun r1 u H locs hq hP hD hS => ?_)
  · rcases (@k_g (nI n) g : _) with hk | hk
    · exact absurd hk hKn
    · have hE : E = exI := by rw [hE, hk]; rfl
      subst hE
      refine cat1 hown hT rfl (by decide) (hts (.classLink RL 28 exI) (by decide +kernel)) (hX.1.words _ (by decide +kernel)) hc hv hcl ?_
      refine lv_astore_n (lv' := [(3, .ref q9), (0, .ref (b 0)), (1, .int g), (2, .ref o)]) hx hb dL_why_12 rfl hl (by decide) rfl (fun ls2 hl2 => ?_)
      refine lv_iconst (v := 1) hx hb dL_why_13 rfl ?_
      exact hret _ _ H locs _ (fo, ((z, f), (ct, L), ((sc, pf, bf), y0), y1, (nw, x), (o0, o1))) dL_why_14 hP hD hS (Or.inr ⟨hKn, hk.symm, rfl⟩)
  · refine lv_i2l hx hb dL_why_7 rfl ?_
    refine va_last hx hb hK hP hD hS 0 4 rfl rfl (show vp_in (nI 0) 1 from vp_in_nI (by decide) (by decide)) dL_why_8 (fun H locs hP hD hS => ?_)
    refine lv_goto (tgt := 15) hx hb dL_why_9 (by decide) ?_
    refine lv_iconst (v := 0) hx hb dL_why_15 rfl ?_
    exact hret _ _ H locs _ (vp_updL fo 0 r1.toInt64, u) dL_why_16 hP hD hS (Or.inl ⟨hq.1, rfl, r1, rfl, hq.2⟩)
abbrev rm_L_fewest : Room := { frames := 12, cells := 1, slots := 6, locals := 271 }
theorem c_L_fewest (l : Launch) (D : va_G) (cy : Nat → ClassId) (hl0 : l.stackTraces = false) (b t pa se th tr nw : Nat → Nat) (z : Nat) (hz : z ≤ 120) (f : Nat → Int32) (ct : Nat) (L : List HQ) (hc1 : ct ≤ L.length) (hc2 : L.length ≤ 14) (sc : Int32) (pf bf : Nat → Int32) (y0 y1 x : HS) (o0 o1 : Option HQ) (n : Nat) (hn : n ≤ 4) (hg : x.1.1 = nI n) (hok : okX n x) (v : Int32) (o : Nat) (fo : Nat → Int64) (sz : Nat) : Met l yL_fewest wsL_fewest rm_L_fewest (wrX D cy [.ref (b 0), .int v, .ref o] (lawW cy o b t pa se th tr (fo, ((z, f), (ct, L), ((sc, pf, bf), y0), y1, (nw, x), (o0, o1)))) sz (Gl (va_A (lawW cy o b t pa se th tr (fo, ((z, f), (ct, L), ((sc, pf, bf), y0), y1, (nw, x), (o0, o1)))) sz))) (va_Qi (lawP (kFew v) (fun (r : Int32) (u : BS) => r = hFew n x ∧ ∃ q9, u = ((z, f), (ct, L), q9, y1, (nw, x), (o0, o1))) fo ((z, f), (ct, L), ((sc, pf, bf), y0), y1, (nw, x), (o0, o1))) (wrB D (va_A (lawW cy o b t pa se th tr (fo, ((z, f), (ct, L), ((sc, pf, bf), y0), y1, (nw, x), (o0, o1)))) sz) (fun u => lawW cy o b t pa se th tr u)) (va_A (lawW cy o b t pa se th tr (fo, ((z, f), (ct, L), ((sc, pf, bf), y0), y1, (nw, x), (o0, o1)))) sz)) 1 6 (va_A (lawW cy o b t pa se th tr (fo, ((z, f), (ct, L), ((sc, pf, bf), y0), y1, (nw, x), (o0, o1)))) sz) := by
  refine MthL (cc := cL_fewest) (maxL := 4) (hh := [(0, 9, 12, 13)]) (by decide) rfl (Nat.le_of_ble_eq_true rfl) ?_
  intro p e s m args below meth c Q ls A hAe hsz hX0 hT hF hK hP hD hA hl hret
  rw [← hsz, ← hAe] at hX0
  have hX : Gl A s := hX0
  obtain ⟨hx, hb, hml, hown, hts⟩ := id hF
  have hown : s.vm.findClass RL = some m.cls := hown
  have hl : lv_has ls 4 [(0, .ref (b 0)), (1, .int v), (2, .ref o)] := hl
  suffices key : ∀ (H : Heap) (locs : List Loc), va_P D vwCl (lawW cy o b t pa se th tr (fo, ((z, f), (ct, L), ((sc, pf, bf), y0), y1, (nw, x), (o0, o1)))) H → va_D A (lawW cy o b t pa se th tr (fo, ((z, f), (ct, L), ((sc, pf, bf), y0), y1, (nw, x), (o0, o1)))) → va_S A s.heap H locs → W p l e rm_L_fewest s m args below meth c H locs 0 0 Q (F0 m 0 ls []) from key s.heap [] hP hD va_S.rf
  intro H locs hP hD hS
  refine lv_aload_n hx hb dL_fewest_0 rfl (lv_at hl 2 rfl) ?_
  refine lv_iconst (v := 0) hx hb dL_fewest_1 rfl ?_
  refine lv_aload_n hx hb dL_fewest_2 rfl (lv_at hl 0 rfl) ?_
  refine lv_iload_n hx hb dL_fewest_3 rfl (lv_at hl 1 rfl) ?_
  refine th_i (fun u : BS => lawW cy o b t pa se th tr (fo, u)) (vx_runV (As := [.int v]) (rest := [.int 0, .ref o]) hF (c_X7_fewest l D cy hl0 b t pa se th tr nw z hz f ct L hc1 hc2 sc pf bf y0 y1 x o0 o1 n hn hg hok v H.size) (cwV 1 hts gL_fewest_X7_fewest rfl rfl rfl (by decide +kernel) ⟨Nat.le_of_ble_eq_true rfl, Nat.le_of_ble_eq_true rfl⟩) (wrX_preV (Wr := outW cy o fo) hK hP hD List.perm_append_comm 0 4 rfl rfl rfl Xok_x (fun U hU hW => Gx.at hX.1 hS (zz_free hD List.perm_append_comm hS hA) hU hW)) rfl rfl hl.1 rfl (lv_room (Nat.le_of_ble_eq_true rfl)) dL_fewest_4 ⟨Nat.le_of_ble_eq_true rfl, Nat.le_of_ble_eq_true rfl⟩) hP hD hS hA List.perm_append_comm (fun _ => List.perm_append_comm) (fun E ce q9 H locs hE hKn hP hD hS hc hv hcl => ?_) (fun r1 u H locs hq hP hD hS => ?_)
  · rcases (@k_few v : _) with hk | hk
    · exact absurd hk hKn
    · have hE : E = exA := by rw [hE, hk]; rfl
      subst hE
      refine cat1 hown hT rfl (by decide) (hts (.classLink RL 13 exA) (by decide +kernel)) (hX.1.words _ (by decide +kernel)) hc hv hcl ?_
      refine lv_astore_n (lv' := [(3, .ref q9), (0, .ref (b 0)), (1, .int v), (2, .ref o)]) hx hb dL_fewest_12 rfl hl (by decide) rfl (fun ls2 hl2 => ?_)
      refine lv_iconst (v := 1) hx hb dL_fewest_13 rfl ?_
      exact hret _ _ H locs _ (fo, ((z, f), (ct, L), ((sc, pf, bf), y0), y1, (nw, x), (o0, o1))) dL_fewest_14 hP hD hS (Or.inr ⟨hKn, hk.symm, rfl⟩)
  · refine lv_i2l hx hb dL_fewest_7 rfl ?_
    refine va_last hx hb hK hP hD hS 0 4 rfl rfl (show vp_in (nI 0) 1 from vp_in_nI (by decide) (by decide)) dL_fewest_8 (fun H locs hP hD hS => ?_)
    refine lv_goto (tgt := 15) hx hb dL_fewest_9 (by decide) ?_
    refine lv_iconst (v := 0) hx hb dL_fewest_15 rfl ?_
    exact hret _ _ H locs _ (vp_updL fo 0 r1.toInt64, u) dL_fewest_16 hP hD hS (Or.inl ⟨hq.1, rfl, r1, rfl, hq.2⟩)
abbrev rm_L_ifPressed : Room := { frames := 7, cells := 1, slots := 6, locals := 114 }
theorem c_L_ifPressed (l : Launch) (D : va_G) (cy : Nat → ClassId) (hl0 : l.stackTraces = false) (b t pa se th tr nw : Nat → Nat) (z : Nat) (hz : z ≤ 120) (f : Nat → Int32) (ct : Nat) (L : List HQ) (hc1 : ct ≤ L.length) (hc2 : L.length ≤ 14) (sc : Int32) (pf bf : Nat → Int32) (y0 y1 x : HS) (o0 o1 : Option HQ) (n : Nat) (hn : n ≤ 4) (hg : x.1.1 = nI n) (hok : okX n x) (v row9 what : Int32) (o : Nat) (fo : Nat → Int64) (sz : Nat) : Met l yL_ifPressed wsL_ifPressed rm_L_ifPressed (wrX D cy [.ref (b 0), .int v, .int row9, .int what, .ref o] (lawW cy o b t pa se th tr (fo, ((z, f), (ct, L), ((sc, pf, bf), y0), y1, (nw, x), (o0, o1)))) sz (Gl (va_A (lawW cy o b t pa se th tr (fo, ((z, f), (ct, L), ((sc, pf, bf), y0), y1, (nw, x), (o0, o1)))) sz))) (va_Qi (lawP (kIfp v row9 what) (fun (r : Int32) (u : BS) => r = vIfp n x (lpN (sPrC n v.toNatClampNeg row9.toNatClampNeg) v.toNatClampNeg 0 x) what ∧ ∃ y9, u = ((z, f), (ct, L), ((sc, pf, bf), y0), y9, (nw, x), (o0, o1))) fo ((z, f), (ct, L), ((sc, pf, bf), y0), y1, (nw, x), (o0, o1))) (wrB D (va_A (lawW cy o b t pa se th tr (fo, ((z, f), (ct, L), ((sc, pf, bf), y0), y1, (nw, x), (o0, o1)))) sz) (fun u => lawW cy o b t pa se th tr u)) (va_A (lawW cy o b t pa se th tr (fo, ((z, f), (ct, L), ((sc, pf, bf), y0), y1, (nw, x), (o0, o1)))) sz)) 1 6 (va_A (lawW cy o b t pa se th tr (fo, ((z, f), (ct, L), ((sc, pf, bf), y0), y1, (nw, x), (o0, o1)))) sz) := by
  refine MthL (cc := cL_ifPressed) (maxL := 6) (hh := [(0, 12, 15, 13)]) (by decide) rfl (Nat.le_of_ble_eq_true rfl) ?_
  intro p e s m args below meth c Q ls A hAe hsz hX0 hT hF hK hP hD hA hl hret
  rw [← hsz, ← hAe] at hX0
  have hX : Gl A s := hX0
  obtain ⟨hx, hb, hml, hown, hts⟩ := id hF
  have hown : s.vm.findClass RL = some m.cls := hown
  have hl : lv_has ls 6 [(0, .ref (b 0)), (1, .int v), (2, .int row9), (3, .int what), (4, .ref o)] := hl
  suffices key : ∀ (H : Heap) (locs : List Loc), va_P D vwCl (lawW cy o b t pa se th tr (fo, ((z, f), (ct, L), ((sc, pf, bf), y0), y1, (nw, x), (o0, o1)))) H → va_D A (lawW cy o b t pa se th tr (fo, ((z, f), (ct, L), ((sc, pf, bf), y0), y1, (nw, x), (o0, o1)))) → va_S A s.heap H locs → W p l e rm_L_ifPressed s m args below meth c H locs 0 0 Q (F0 m 0 ls []) from key s.heap [] hP hD va_S.rf
  intro H locs hP hD hS
  refine lv_aload hx hb dL_ifPressed_0 (lv_at hl 4 rfl) ?_
  refine lv_iconst (v := 0) hx hb dL_ifPressed_2 rfl ?_
  refine lv_aload_n hx hb dL_ifPressed_3 rfl (lv_at hl 0 rfl) ?_
  refine lv_iload_n hx hb dL_ifPressed_4 rfl (lv_at hl 1 rfl) ?_
  refine lv_iload_n hx hb dL_ifPressed_5 rfl (lv_at hl 2 rfl) ?_
  refine lv_iload_n hx hb dL_ifPressed_6 rfl (lv_at hl 3 rfl) ?_
  refine th_i (fun u : BS => lawW cy o b t pa se th tr (fo, u)) (vx_runV (As := [.int v, .int row9, .int what]) (rest := [.int 0, .ref o]) hF (c_X7_ifPressed l D cy hl0 b t pa se th tr nw z hz f ct L hc1 hc2 sc pf bf y0 y1 x o0 o1 n hn hg hok v row9 what H.size) (cwV 3 hts gL_ifPressed_X7_ifPressed rfl rfl rfl (by decide +kernel) ⟨Nat.le_of_ble_eq_true rfl, Nat.le_of_ble_eq_true rfl⟩) (wrX_preV (Wr := outW cy o fo) hK hP hD List.perm_append_comm 0 4 rfl rfl rfl Xok_x (fun U hU hW => Gx.at hX.1 hS (zz_free hD List.perm_append_comm hS hA) hU hW)) rfl rfl hl.1 rfl (lv_room (Nat.le_of_ble_eq_true rfl)) dL_ifPressed_7 ⟨Nat.le_of_ble_eq_true rfl, Nat.le_of_ble_eq_true rfl⟩) hP hD hS hA List.perm_append_comm (fun _ => List.perm_append_comm) (fun E ce q9 H locs hE hKn hP hD hS hc hv hcl => ?_) (fun r1 u H locs hq hP hD hS => ?_)
  · rcases (@k_ifp v row9 what : _) with hk | hk
    · exact absurd hk hKn
    · have hE : E = exA := by rw [hE, hk]; rfl
      subst hE
      refine cat1 hown hT rfl (by decide) (hts (.classLink RL 13 exA) (by decide +kernel)) (hX.1.words _ (by decide +kernel)) hc hv hcl ?_
      refine lv_astore (lv' := [(5, .ref q9), (0, .ref (b 0)), (1, .int v), (2, .int row9), (3, .int what), (4, .ref o)]) hx hb dL_ifPressed_15 hl (by decide) rfl (fun ls2 hl2 => ?_)
      refine lv_iconst (v := 1) hx hb dL_ifPressed_17 rfl ?_
      exact hret _ _ H locs _ (fo, ((z, f), (ct, L), ((sc, pf, bf), y0), y1, (nw, x), (o0, o1))) dL_ifPressed_18 hP hD hS (Or.inr ⟨hKn, hk.symm, rfl⟩)
  · refine lv_i2l hx hb dL_ifPressed_10 rfl ?_
    refine va_last hx hb hK hP hD hS 0 4 rfl rfl (show vp_in (nI 0) 1 from vp_in_nI (by decide) (by decide)) dL_ifPressed_11 (fun H locs hP hD hS => ?_)
    refine lv_goto (tgt := 19) hx hb dL_ifPressed_12 (by decide) ?_
    refine lv_iconst (v := 0) hx hb dL_ifPressed_19 rfl ?_
    exact hret _ _ H locs _ (vp_updL fo 0 r1.toInt64, u) dL_ifPressed_20 hP hD hS (Or.inl ⟨hq.1, rfl, r1, rfl, hq.2⟩)
abbrev rm_L_leftStanding : Room := { frames := 8, cells := 1, slots := 6, locals := 132 }
theorem c_L_leftStanding (l : Launch) (D : va_G) (cy : Nat → ClassId) (hl0 : l.stackTraces = false) (b t pa se th tr nw : Nat → Nat) (z : Nat) (hz : z ≤ 120) (f : Nat → Int32) (ct : Nat) (L : List HQ) (hc1 : ct ≤ L.length) (hc2 : L.length ≤ 14) (sc : Int32) (pf bf : Nat → Int32) (y0 y1 x : HS) (o0 o1 : Option HQ) (n : Nat) (hn : n ≤ 4) (hg : x.1.1 = nI n) (hok : okX n x) (g : Int32) (o : Nat) (fo : Nat → Int64) (sz : Nat) : Met l yL_leftStanding wsL_leftStanding rm_L_leftStanding (wrX D cy [.ref (b 0), .int g, .ref o] (lawW cy o b t pa se th tr (fo, ((z, f), (ct, L), ((sc, pf, bf), y0), y1, (nw, x), (o0, o1)))) sz (Gl (va_A (lawW cy o b t pa se th tr (fo, ((z, f), (ct, L), ((sc, pf, bf), y0), y1, (nw, x), (o0, o1)))) sz))) (va_Qi (lawP (kG (nI n) g) (fun (r : Int32) (u : BS) => r = hStandR n x g ∧ u = ((z, f), (ct, L), ((sc, pf, bf), y0), (hStand n x g), (nw, x), (o0, o1))) fo ((z, f), (ct, L), ((sc, pf, bf), y0), y1, (nw, x), (o0, o1))) (wrB D (va_A (lawW cy o b t pa se th tr (fo, ((z, f), (ct, L), ((sc, pf, bf), y0), y1, (nw, x), (o0, o1)))) sz) (fun u => lawW cy o b t pa se th tr u)) (va_A (lawW cy o b t pa se th tr (fo, ((z, f), (ct, L), ((sc, pf, bf), y0), y1, (nw, x), (o0, o1)))) sz)) 1 6 (va_A (lawW cy o b t pa se th tr (fo, ((z, f), (ct, L), ((sc, pf, bf), y0), y1, (nw, x), (o0, o1)))) sz) := by
  refine MthL (cc := cL_leftStanding) (maxL := 4) (hh := [(0, 9, 12, 28)]) (by decide) rfl (Nat.le_of_ble_eq_true rfl) ?_
  intro p e s m args below meth c Q ls A hAe hsz hX0 hT hF hK hP hD hA hl hret
  rw [← hsz, ← hAe] at hX0
  have hX : Gl A s := hX0
  obtain ⟨hx, hb, hml, hown, hts⟩ := id hF
  have hown : s.vm.findClass RL = some m.cls := hown
  have hl : lv_has ls 4 [(0, .ref (b 0)), (1, .int g), (2, .ref o)] := hl
  suffices key : ∀ (H : Heap) (locs : List Loc), va_P D vwCl (lawW cy o b t pa se th tr (fo, ((z, f), (ct, L), ((sc, pf, bf), y0), y1, (nw, x), (o0, o1)))) H → va_D A (lawW cy o b t pa se th tr (fo, ((z, f), (ct, L), ((sc, pf, bf), y0), y1, (nw, x), (o0, o1)))) → va_S A s.heap H locs → W p l e rm_L_leftStanding s m args below meth c H locs 0 0 Q (F0 m 0 ls []) from key s.heap [] hP hD va_S.rf
  intro H locs hP hD hS
  refine lv_aload_n hx hb dL_leftStanding_0 rfl (lv_at hl 2 rfl) ?_
  refine lv_iconst (v := 0) hx hb dL_leftStanding_1 rfl ?_
  refine lv_aload_n hx hb dL_leftStanding_2 rfl (lv_at hl 0 rfl) ?_
  refine lv_iload_n hx hb dL_leftStanding_3 rfl (lv_at hl 1 rfl) ?_
  refine th_i (fun u : BS => lawW cy o b t pa se th tr (fo, u)) (vx_runV (As := [.int g]) (rest := [.int 0, .ref o]) hF (c_X7_leftStanding l D cy hl0 b t pa se th tr nw z hz f ct L hc1 hc2 sc pf bf y0 y1 x o0 o1 n hn hg hok g H.size) (cwV 1 hts gL_leftStanding_X7_leftStanding rfl rfl rfl (by decide +kernel) ⟨Nat.le_of_ble_eq_true rfl, Nat.le_of_ble_eq_true rfl⟩) (wrX_preV (Wr := outW cy o fo) hK hP hD List.perm_append_comm 0 4 rfl rfl rfl Xok_x (fun U hU hW => Gx.at hX.1 hS (zz_free hD List.perm_append_comm hS hA) hU hW)) rfl rfl hl.1 rfl (lv_room (Nat.le_of_ble_eq_true rfl)) dL_leftStanding_4 ⟨Nat.le_of_ble_eq_true rfl, Nat.le_of_ble_eq_true rfl⟩) hP hD hS hA List.perm_append_comm (fun _ => List.perm_append_comm) (fun E ce q9 H locs hE hKn hP hD hS hc hv hcl => ?_) (fun r1 u H locs hq hP hD hS => ?_)
  · rcases (@k_g (nI n) g : _) with hk | hk
    · exact absurd hk hKn
    · have hE : E = exI := by rw [hE, hk]; rfl
      subst hE
      refine cat1 hown hT rfl (by decide) (hts (.classLink RL 28 exI) (by decide +kernel)) (hX.1.words _ (by decide +kernel)) hc hv hcl ?_
      refine lv_astore_n (lv' := [(3, .ref q9), (0, .ref (b 0)), (1, .int g), (2, .ref o)]) hx hb dL_leftStanding_12 rfl hl (by decide) rfl (fun ls2 hl2 => ?_)
      refine lv_iconst (v := 1) hx hb dL_leftStanding_13 rfl ?_
      exact hret _ _ H locs _ (fo, ((z, f), (ct, L), ((sc, pf, bf), y0), y1, (nw, x), (o0, o1))) dL_leftStanding_14 hP hD hS (Or.inr ⟨hKn, hk.symm, rfl⟩)
  · refine lv_i2l hx hb dL_leftStanding_7 rfl ?_
    refine va_last hx hb hK hP hD hS 0 4 rfl rfl (show vp_in (nI 0) 1 from vp_in_nI (by decide) (by decide)) dL_leftStanding_8 (fun H locs hP hD hS => ?_)
    refine lv_goto (tgt := 15) hx hb dL_leftStanding_9 (by decide) ?_
    refine lv_iconst (v := 0) hx hb dL_leftStanding_15 rfl ?_
    exact hret _ _ H locs _ (vp_updL fo 0 r1.toInt64, u) dL_leftStanding_16 hP hD hS (Or.inl ⟨hq.1, rfl, r1, rfl, hq.2⟩)
abbrev rm_L_runScript : Room := { frames := 7, cells := 1, slots := 6, locals := 140 }
theorem c_L_runScript (l : Launch) (D : va_G) (cy : Nat → ClassId) (hl0 : l.stackTraces = false) (b t pa se th tr nw : Nat → Nat) (z : Nat) (hz : z ≤ 120) (f : Nat → Int32) (ct : Nat) (L : List HQ) (hc1 : ct ≤ L.length) (hc2 : L.length ≤ 14) (sc : Int32) (pf bf : Nat → Int32) (y0 y1 x : HS) (o0 o1 : Option HQ) (n : Nat) (hn : n ≤ 4) (hg : x.1.1 = nI n) (hok : okX n x) (hOkx : OkH x) (v : Int32) (s9 : Int64) (o : Nat) (fo : Nat → Int64) (sz : Nat) : Met l yL_runScript wsL_runScript rm_L_runScript (wrX D cy [.ref (b 0), .int v, .long s9, .ref o] (lawW cy o b t pa se th tr (fo, ((z, f), (ct, L), ((sc, pf, bf), y0), y1, (nw, x), (o0, o1)))) sz (Gl (va_A (lawW cy o b t pa se th tr (fo, ((z, f), (ct, L), ((sc, pf, bf), y0), y1, (nw, x), (o0, o1)))) sz))) (va_Qi (lawP (kRun v s9) (fun (r : Int32) (u : BS) => r = vRun v s9 x ∧ ∃ y9, u = ((z, f), (ct, L), ((sc, pf, bf), y0), y9, (nw, x), (o0, o1))) fo ((z, f), (ct, L), ((sc, pf, bf), y0), y1, (nw, x), (o0, o1))) (wrB D (va_A (lawW cy o b t pa se th tr (fo, ((z, f), (ct, L), ((sc, pf, bf), y0), y1, (nw, x), (o0, o1)))) sz) (fun u => lawW cy o b t pa se th tr u)) (va_A (lawW cy o b t pa se th tr (fo, ((z, f), (ct, L), ((sc, pf, bf), y0), y1, (nw, x), (o0, o1)))) sz)) 1 6 (va_A (lawW cy o b t pa se th tr (fo, ((z, f), (ct, L), ((sc, pf, bf), y0), y1, (nw, x), (o0, o1)))) sz) := by
  refine MthL (cc := cL_runScript) (maxL := 6) (hh := [(0, 11, 14, 13)]) (by decide) rfl (Nat.le_of_ble_eq_true rfl) ?_
  intro p e s m args below meth c Q ls A hAe hsz hX0 hT hF hK hP hD hA hl hret
  rw [← hsz, ← hAe] at hX0
  have hX : Gl A s := hX0
  obtain ⟨hx, hb, hml, hown, hts⟩ := id hF
  have hown : s.vm.findClass RL = some m.cls := hown
  have hl : lv_has ls 6 [(0, .ref (b 0)), (1, .int v), (2, .long s9), (4, .ref o)] := hl
  suffices key : ∀ (H : Heap) (locs : List Loc), va_P D vwCl (lawW cy o b t pa se th tr (fo, ((z, f), (ct, L), ((sc, pf, bf), y0), y1, (nw, x), (o0, o1)))) H → va_D A (lawW cy o b t pa se th tr (fo, ((z, f), (ct, L), ((sc, pf, bf), y0), y1, (nw, x), (o0, o1)))) → va_S A s.heap H locs → W p l e rm_L_runScript s m args below meth c H locs 0 0 Q (F0 m 0 ls []) from key s.heap [] hP hD va_S.rf
  intro H locs hP hD hS
  refine lv_aload hx hb dL_runScript_0 (lv_at hl 3 rfl) ?_
  refine lv_iconst (v := 0) hx hb dL_runScript_2 rfl ?_
  refine lv_aload_n hx hb dL_runScript_3 rfl (lv_at hl 0 rfl) ?_
  refine lv_iload_n hx hb dL_runScript_4 rfl (lv_at hl 1 rfl) ?_
  refine lv_lload_n hx hb dL_runScript_5 rfl (lv_at hl 2 rfl) ?_
  refine th_i (fun u : BS => lawW cy o b t pa se th tr (fo, u)) (vx_runV (As := [.int v, .long s9]) (rest := [.int 0, .ref o]) hF (c_X7_runScript l D cy hl0 b t pa se th tr nw z hz f ct L hc1 hc2 sc pf bf y0 y1 x o0 o1 n hn hg hok hOkx v s9 H.size) (cwV 2 hts gL_runScript_X7_runScript rfl rfl rfl (by decide +kernel) ⟨Nat.le_of_ble_eq_true rfl, Nat.le_of_ble_eq_true rfl⟩) (wrX_preV (Wr := outW cy o fo) hK hP hD List.perm_append_comm 0 4 rfl rfl rfl Xok_x (fun U hU hW => Gx.at hX.1 hS (zz_free hD List.perm_append_comm hS hA) hU hW)) rfl rfl hl.1 rfl (lv_room (Nat.le_of_ble_eq_true rfl)) dL_runScript_6 ⟨Nat.le_of_ble_eq_true rfl, Nat.le_of_ble_eq_true rfl⟩) hP hD hS hA List.perm_append_comm (fun _ => List.perm_append_comm) (fun E ce q9 H locs hE hKn hP hD hS hc hv hcl => ?_) (fun r1 u H locs hq hP hD hS => ?_)
  · rcases (@k_run v s9 : _) with hk | hk
    · exact absurd hk hKn
    · have hE : E = exA := by rw [hE, hk]; rfl
      subst hE
      refine cat1 hown hT rfl (by decide) (hts (.classLink RL 13 exA) (by decide +kernel)) (hX.1.words _ (by decide +kernel)) hc hv hcl ?_
      refine lv_astore (lv' := [(5, .ref q9), (0, .ref (b 0)), (1, .int v), (2, .long s9), (4, .ref o)]) hx hb dL_runScript_14 hl (by decide) rfl (fun ls2 hl2 => ?_)
      refine lv_iconst (v := 1) hx hb dL_runScript_16 rfl ?_
      exact hret _ _ H locs _ (fo, ((z, f), (ct, L), ((sc, pf, bf), y0), y1, (nw, x), (o0, o1))) dL_runScript_17 hP hD hS (Or.inr ⟨hKn, hk.symm, rfl⟩)
  · refine lv_i2l hx hb dL_runScript_9 rfl ?_
    refine va_last hx hb hK hP hD hS 0 4 rfl rfl (show vp_in (nI 0) 1 from vp_in_nI (by decide) (by decide)) dL_runScript_10 (fun H locs hP hD hS => ?_)
    refine lv_goto (tgt := 18) hx hb dL_runScript_11 (by decide) ?_
    refine lv_iconst (v := 0) hx hb dL_runScript_18 rfl ?_
    exact hret _ _ H locs _ (vp_updL fo 0 r1.toInt64, u) dL_runScript_19 hP hD hS (Or.inl ⟨hq.1, rfl, r1, rfl, hq.2⟩)
abbrev rm_L_simulate : Room := { frames := 7, cells := 1, slots := 6, locals := 139 }
theorem c_L_simulate (l : Launch) (D : va_G) (cy : Nat → ClassId) (hl0 : l.stackTraces = false) (b t pa se th tr nw : Nat → Nat) (z : Nat) (hz : z ≤ 120) (f : Nat → Int32) (ct : Nat) (L : List HQ) (hc1 : ct ≤ L.length) (hc2 : L.length ≤ 14) (sc : Int32) (pf bf : Nat → Int32) (y0 y1 x : HS) (o0 o1 : Option HQ) (n : Nat) (hn : n ≤ 4) (hg : x.1.1 = nI n) (hok : okX n x) (hOkx : OkH x) (seed : Int64) (v : Int32) (o : Nat) (fo : Nat → Int64) (sz : Nat) : Met l yL_simulate wsL_simulate rm_L_simulate (wrX D cy [.ref (b 0), .long seed, .int v, .ref o] (lawW cy o b t pa se th tr (fo, ((z, f), (ct, L), ((sc, pf, bf), y0), y1, (nw, x), (o0, o1)))) sz (Gl (va_A (lawW cy o b t pa se th tr (fo, ((z, f), (ct, L), ((sc, pf, bf), y0), y1, (nw, x), (o0, o1)))) sz))) (va_Qi (lawP (kSim v) (fun (r : Int32) (u : BS) => r = vSim x (lpN sSim v.toNatClampNeg 0 (seed, x)).2 ∧ ∃ y9, u = ((z, f), (ct, L), ((sc, pf, bf), y0), y9, (nw, x), (o0, o1))) fo ((z, f), (ct, L), ((sc, pf, bf), y0), y1, (nw, x), (o0, o1))) (wrB D (va_A (lawW cy o b t pa se th tr (fo, ((z, f), (ct, L), ((sc, pf, bf), y0), y1, (nw, x), (o0, o1)))) sz) (fun u => lawW cy o b t pa se th tr u)) (va_A (lawW cy o b t pa se th tr (fo, ((z, f), (ct, L), ((sc, pf, bf), y0), y1, (nw, x), (o0, o1)))) sz)) 1 6 (va_A (lawW cy o b t pa se th tr (fo, ((z, f), (ct, L), ((sc, pf, bf), y0), y1, (nw, x), (o0, o1)))) sz) := by
  refine MthL (cc := cL_simulate) (maxL := 6) (hh := [(0, 11, 14, 13)]) (by decide) rfl (Nat.le_of_ble_eq_true rfl) ?_
  intro p e s m args below meth c Q ls A hAe hsz hX0 hT hF hK hP hD hA hl hret
  rw [← hsz, ← hAe] at hX0
  have hX : Gl A s := hX0
  obtain ⟨hx, hb, hml, hown, hts⟩ := id hF
  have hown : s.vm.findClass RL = some m.cls := hown
  have hl : lv_has ls 6 [(0, .ref (b 0)), (1, .long seed), (3, .int v), (4, .ref o)] := hl
  suffices key : ∀ (H : Heap) (locs : List Loc), va_P D vwCl (lawW cy o b t pa se th tr (fo, ((z, f), (ct, L), ((sc, pf, bf), y0), y1, (nw, x), (o0, o1)))) H → va_D A (lawW cy o b t pa se th tr (fo, ((z, f), (ct, L), ((sc, pf, bf), y0), y1, (nw, x), (o0, o1)))) → va_S A s.heap H locs → W p l e rm_L_simulate s m args below meth c H locs 0 0 Q (F0 m 0 ls []) from key s.heap [] hP hD va_S.rf
  intro H locs hP hD hS
  refine lv_aload hx hb dL_simulate_0 (lv_at hl 3 rfl) ?_
  refine lv_iconst (v := 0) hx hb dL_simulate_2 rfl ?_
  refine lv_aload_n hx hb dL_simulate_3 rfl (lv_at hl 0 rfl) ?_
  refine lv_lload_n hx hb dL_simulate_4 rfl (lv_at hl 1 rfl) ?_
  refine lv_iload_n hx hb dL_simulate_5 rfl (lv_at hl 2 rfl) ?_
  refine th_i (fun u : BS => lawW cy o b t pa se th tr (fo, u)) (vx_runV (As := [.long seed, .int v]) (rest := [.int 0, .ref o]) hF (c_X7_simulate l D cy hl0 b t pa se th tr nw z hz f ct L hc1 hc2 sc pf bf y0 y1 x o0 o1 n hn hg hok hOkx seed v H.size) (cwV 2 hts gL_simulate_X7_simulate rfl rfl rfl (by decide +kernel) ⟨Nat.le_of_ble_eq_true rfl, Nat.le_of_ble_eq_true rfl⟩) (wrX_preV (Wr := outW cy o fo) hK hP hD List.perm_append_comm 0 4 rfl rfl rfl Xok_x (fun U hU hW => Gx.at hX.1 hS (zz_free hD List.perm_append_comm hS hA) hU hW)) rfl rfl hl.1 rfl (lv_room (Nat.le_of_ble_eq_true rfl)) dL_simulate_6 ⟨Nat.le_of_ble_eq_true rfl, Nat.le_of_ble_eq_true rfl⟩) hP hD hS hA List.perm_append_comm (fun _ => List.perm_append_comm) (fun E ce q9 H locs hE hKn hP hD hS hc hv hcl => ?_) (fun r1 u H locs hq hP hD hS => ?_)
  · rcases (@k_sim v : _) with hk | hk
    · exact absurd hk hKn
    · have hE : E = exA := by rw [hE, hk]; rfl
      subst hE
      refine cat1 hown hT rfl (by decide) (hts (.classLink RL 13 exA) (by decide +kernel)) (hX.1.words _ (by decide +kernel)) hc hv hcl ?_
      refine lv_astore (lv' := [(5, .ref q9), (0, .ref (b 0)), (1, .long seed), (3, .int v), (4, .ref o)]) hx hb dL_simulate_14 hl (by decide) rfl (fun ls2 hl2 => ?_)
      refine lv_iconst (v := 1) hx hb dL_simulate_16 rfl ?_
      exact hret _ _ H locs _ (fo, ((z, f), (ct, L), ((sc, pf, bf), y0), y1, (nw, x), (o0, o1))) dL_simulate_17 hP hD hS (Or.inr ⟨hKn, hk.symm, rfl⟩)
  · refine lv_i2l hx hb dL_simulate_9 rfl ?_
    refine va_last hx hb hK hP hD hS 0 4 rfl rfl (show vp_in (nI 0) 1 from vp_in_nI (by decide) (by decide)) dL_simulate_10 (fun H locs hP hD hS => ?_)
    refine lv_goto (tgt := 18) hx hb dL_simulate_11 (by decide) ?_
    refine lv_iconst (v := 0) hx hb dL_simulate_18 rfl ?_
    exact hret _ _ H locs _ (vp_updL fo 0 r1.toInt64, u) dL_simulate_19 hP hD hS (Or.inl ⟨hq.1, rfl, r1, rfl, hq.2⟩)
abbrev rm_L_save : Room := { frames := 8, cells := 11, slots := 57, locals := 133 }
theorem c_L_save (l : Launch) (D : va_G) (cy : Nat → ClassId) (hl0 : l.stackTraces = false) (b t pa se th tr nw : Nat → Nat) (z : Nat) (hz : z ≤ 120) (f : Nat → Int32) (ct : Nat) (L : List HQ) (hc1 : ct ≤ L.length) (hc2 : L.length ≤ 14) (sc : Int32) (pf bf : Nat → Int32) (y0 y1 x : HS) (o0 o1 : Option HQ) (n : Nat) (hn : n ≤ 4) (hg : x.1.1 = nI n) (hok : okX n x) (v : Int32) (o : Nat) (fo : Nat → Int64) (sz : Nat) : Met l yL_save wsL_save rm_L_save (wrX D cy [.ref (b 0), .int v, .ref o] (lawW cy o b t pa se th tr (fo, ((z, f), (ct, L), ((sc, pf, bf), y0), y1, (nw, x), (o0, o1)))) sz (Gl (va_A (lawW cy o b t pa se th tr (fo, ((z, f), (ct, L), ((sc, pf, bf), y0), y1, (nw, x), (o0, o1)))) sz))) (va_Qi (lawP (kSave v) (fun (r : Int32) (u : BS) => r = x.1.2.2.1 ∧ ∃ qa : Nat → Nat, u.2.2.2.2.2 = (if v = 0 then (some (qa, x), o1) else (o0, some (qa, x))) ∧ u = ((z, f), (ct, L), ((sc, pf, bf), y0), y1, (nw, x), (u.2.2.2.2.2.1, u.2.2.2.2.2.2))) fo ((z, f), (ct, L), ((sc, pf, bf), y0), y1, (nw, x), (o0, o1))) (wrB D (va_A (lawW cy o b t pa se th tr (fo, ((z, f), (ct, L), ((sc, pf, bf), y0), y1, (nw, x), (o0, o1)))) sz) (fun u => lawW cy o b t pa se th tr u)) (va_A (lawW cy o b t pa se th tr (fo, ((z, f), (ct, L), ((sc, pf, bf), y0), y1, (nw, x), (o0, o1)))) sz)) 11 57 (va_A (lawW cy o b t pa se th tr (fo, ((z, f), (ct, L), ((sc, pf, bf), y0), y1, (nw, x), (o0, o1)))) sz) := by
  refine MthL (cc := cL_save) (maxL := 4) (hh := [(0, 9, 12, 28)]) (by decide) rfl (Nat.le_of_ble_eq_true rfl) ?_
  intro p e s m args below meth c Q ls A hAe hsz hX0 hT hF hK hP hD hA hl hret
  rw [← hsz, ← hAe] at hX0
  have hX : Gl A s := hX0
  obtain ⟨hx, hb, hml, hown, hts⟩ := id hF
  have hown : s.vm.findClass RL = some m.cls := hown
  have hl : lv_has ls 4 [(0, .ref (b 0)), (1, .int v), (2, .ref o)] := hl
  suffices key : ∀ (H : Heap) (locs : List Loc), va_P D vwCl (lawW cy o b t pa se th tr (fo, ((z, f), (ct, L), ((sc, pf, bf), y0), y1, (nw, x), (o0, o1)))) H → va_D A (lawW cy o b t pa se th tr (fo, ((z, f), (ct, L), ((sc, pf, bf), y0), y1, (nw, x), (o0, o1)))) → va_S A s.heap H locs → W p l e rm_L_save s m args below meth c H locs 0 0 Q (F0 m 0 ls []) from key s.heap [] hP hD va_S.rf
  intro H locs hP hD hS
  refine lv_aload_n hx hb dL_save_0 rfl (lv_at hl 2 rfl) ?_
  refine lv_iconst (v := 0) hx hb dL_save_1 rfl ?_
  refine lv_aload_n hx hb dL_save_2 rfl (lv_at hl 0 rfl) ?_
  refine lv_iload_n hx hb dL_save_3 rfl (lv_at hl 1 rfl) ?_
  refine th_i (fun u : BS => lawW cy o b t pa se th tr (fo, u)) (vx_runV (As := [.int v]) (rest := [.int 0, .ref o]) hF (c_X7_save l D cy hl0 b t pa se th tr nw z hz f ct L hc1 hc2 sc pf bf y0 y1 x o0 o1 n hn hg hok v H.size) (cwV 1 hts gL_save_X7_save rfl rfl rfl (by decide +kernel) ⟨Nat.le_of_ble_eq_true rfl, Nat.le_of_ble_eq_true rfl⟩) (wrX_preV (Wr := outW cy o fo) hK hP hD List.perm_append_comm 0 4 rfl rfl rfl Xok_x (fun U hU hW => Gx.at hX.1 hS (zz_free hD List.perm_append_comm hS hA) hU hW)) rfl rfl hl.1 rfl (lv_room (Nat.le_of_ble_eq_true rfl)) dL_save_4 ⟨Nat.le_of_ble_eq_true rfl, Nat.le_of_ble_eq_true rfl⟩) hP hD hS hA List.perm_append_comm (fun _ => List.perm_append_comm) (fun E ce q9 H locs hE hKn hP hD hS hc hv hcl => ?_) (fun r1 u H locs hq hP hD hS => ?_)
  · rcases (@k_save v : _) with hk | hk
    · exact absurd hk hKn
    · have hE : E = exI := by rw [hE, hk]; rfl
      subst hE
      refine cat1 hown hT rfl (by decide) (hts (.classLink RL 28 exI) (by decide +kernel)) (hX.1.words _ (by decide +kernel)) hc hv hcl ?_
      refine lv_astore_n (lv' := [(3, .ref q9), (0, .ref (b 0)), (1, .int v), (2, .ref o)]) hx hb dL_save_12 rfl hl (by decide) rfl (fun ls2 hl2 => ?_)
      refine lv_iconst (v := 1) hx hb dL_save_13 rfl ?_
      exact hret _ _ H locs _ (fo, ((z, f), (ct, L), ((sc, pf, bf), y0), y1, (nw, x), (o0, o1))) dL_save_14 hP hD hS (Or.inr ⟨hKn, hk.symm, rfl⟩)
  · refine lv_i2l hx hb dL_save_7 rfl ?_
    refine va_last hx hb hK hP hD hS 0 4 rfl rfl (show vp_in (nI 0) 1 from vp_in_nI (by decide) (by decide)) dL_save_8 (fun H locs hP hD hS => ?_)
    refine lv_goto (tgt := 15) hx hb dL_save_9 (by decide) ?_
    refine lv_iconst (v := 0) hx hb dL_save_15 rfl ?_
    exact hret _ _ H locs _ (vp_updL fo 0 r1.toInt64, u) dL_save_16 hP hD hS (Or.inl ⟨hq.1, rfl, r1, rfl, hq.2⟩)
abbrev rm_L_restore : Room := { frames := 8, cells := 2, slots := 12, locals := 133 }
theorem c_L_restore (l : Launch) (D : va_G) (cy : Nat → ClassId) (hl0 : l.stackTraces = false) (b t pa se th tr nw : Nat → Nat) (z : Nat) (hz : z ≤ 120) (f : Nat → Int32) (ct : Nat) (L : List HQ) (hc1 : ct ≤ L.length) (hc2 : L.length ≤ 14) (sc : Int32) (pf bf : Nat → Int32) (y0 y1 x : HS) (o0 o1 : Option HQ) (n : Nat) (hn : n ≤ 4) (hg : x.1.1 = nI n) (hok : okX n x) (hs0 : ∀ q, o0 = some q → OkH q.2) (hs1 : ∀ q, o1 = some q → OkH q.2) (v : Int32) (o : Nat) (fo : Nat → Int64) (sz : Nat) : Met l yL_restore wsL_restore rm_L_restore (wrX D cy [.ref (b 0), .int v, .ref o] (lawW cy o b t pa se th tr (fo, ((z, f), (ct, L), ((sc, pf, bf), y0), y1, (nw, x), (o0, o1)))) sz (Gl (va_A (lawW cy o b t pa se th tr (fo, ((z, f), (ct, L), ((sc, pf, bf), y0), y1, (nw, x), (o0, o1)))) sz))) (va_Qi (lawP (kRst o0 o1 v) (fun (r : Int32) (u : BS) => ∃ q : HQ, (if v = 0 then o0 else o1) = some q ∧ r = q.2.1.2.2.1 ∧ u = ((z, f), (0, L), ((sc, pf, bf), y0), y1, (nw, q.2), (o0, o1))) fo ((z, f), (ct, L), ((sc, pf, bf), y0), y1, (nw, x), (o0, o1))) (wrB D (va_A (lawW cy o b t pa se th tr (fo, ((z, f), (ct, L), ((sc, pf, bf), y0), y1, (nw, x), (o0, o1)))) sz) (fun u => lawW cy o b t pa se th tr u)) (va_A (lawW cy o b t pa se th tr (fo, ((z, f), (ct, L), ((sc, pf, bf), y0), y1, (nw, x), (o0, o1)))) sz)) 2 12 (va_A (lawW cy o b t pa se th tr (fo, ((z, f), (ct, L), ((sc, pf, bf), y0), y1, (nw, x), (o0, o1)))) sz) := by
  refine MthL (cc := cL_restore) (maxL := 4) (hh := [(0, 9, 12, 28), (0, 9, 15, 15)]) (by decide) rfl (Nat.le_of_ble_eq_true rfl) ?_
  intro p e s m args below meth c Q ls A hAe hsz hX0 hT hF hK hP hD hA hl hret
  rw [← hsz, ← hAe] at hX0
  have hX : Gl A s := hX0
  obtain ⟨hx, hb, hml, hown, hts⟩ := id hF
  have hown : s.vm.findClass RL = some m.cls := hown
  have hl : lv_has ls 4 [(0, .ref (b 0)), (1, .int v), (2, .ref o)] := hl
  suffices key : ∀ (H : Heap) (locs : List Loc), va_P D vwCl (lawW cy o b t pa se th tr (fo, ((z, f), (ct, L), ((sc, pf, bf), y0), y1, (nw, x), (o0, o1)))) H → va_D A (lawW cy o b t pa se th tr (fo, ((z, f), (ct, L), ((sc, pf, bf), y0), y1, (nw, x), (o0, o1)))) → va_S A s.heap H locs → W p l e rm_L_restore s m args below meth c H locs 0 0 Q (F0 m 0 ls []) from key s.heap [] hP hD va_S.rf
  intro H locs hP hD hS
  refine lv_aload_n hx hb dL_restore_0 rfl (lv_at hl 2 rfl) ?_
  refine lv_iconst (v := 0) hx hb dL_restore_1 rfl ?_
  refine lv_aload_n hx hb dL_restore_2 rfl (lv_at hl 0 rfl) ?_
  refine lv_iload_n hx hb dL_restore_3 rfl (lv_at hl 1 rfl) ?_
  refine th_i (fun u : BS => lawW cy o b t pa se th tr (fo, u)) (vx_runV (As := [.int v]) (rest := [.int 0, .ref o]) hF (c_X7_restore l D cy hl0 b t pa se th tr nw z hz f ct L hc1 hc2 sc pf bf y0 y1 x o0 o1 n hn hg hok hs0 hs1 v H.size) (cwV 1 hts gL_restore_X7_restore rfl rfl rfl (by decide +kernel) ⟨Nat.le_of_ble_eq_true rfl, Nat.le_of_ble_eq_true rfl⟩) (wrX_preV (Wr := outW cy o fo) hK hP hD List.perm_append_comm 0 4 rfl rfl rfl Xok_x (fun U hU hW => Gx.at hX.1 hS (zz_free hD List.perm_append_comm hS hA) hU hW)) rfl rfl hl.1 rfl (lv_room (Nat.le_of_ble_eq_true rfl)) dL_restore_4 ⟨Nat.le_of_ble_eq_true rfl, Nat.le_of_ble_eq_true rfl⟩) hP hD hS hA List.perm_append_comm (fun _ => List.perm_append_comm) (fun E ce q9 H locs hE hKn hP hD hS hc hv hcl => ?_) (fun r1 u H locs hq hP hD hS => ?_)
  · rcases (@k_rst o0 o1 v : _) with hk | hk | hk
    · exact absurd hk hKn
    · have hE : E = exI := by rw [hE, hk]; rfl
      subst hE
      refine cat1 hown hT rfl (by decide) (hts (.classLink RL 28 exI) (by decide +kernel)) (hX.1.words _ (by decide +kernel)) hc hv hcl ?_
      refine lv_astore_n (lv' := [(3, .ref q9), (0, .ref (b 0)), (1, .int v), (2, .ref o)]) hx hb dL_restore_12 rfl hl (by decide) rfl (fun ls2 hl2 => ?_)
      refine lv_iconst (v := 1) hx hb dL_restore_13 rfl ?_
      exact hret _ _ H locs _ (fo, ((z, f), (ct, L), ((sc, pf, bf), y0), y1, (nw, x), (o0, o1))) dL_restore_14 hP hD hS (Or.inr ⟨hKn, hk.symm, rfl⟩)
    · have hE : E = exS := by rw [hE, hk]; rfl
      subst hE
      refine cat2 hown hT rfl (by decide) (by decide) (hts (.classLink RL 28 exI) (by decide +kernel)) (hX.2.2.2.2.2.2) (hts (.classLink RL 15 exS) (by decide +kernel)) (hX.1.words _ (by decide +kernel)) hc hv hcl ?_
      refine lv_astore_n (lv' := [(3, .ref q9), (0, .ref (b 0)), (1, .int v), (2, .ref o)]) hx hb dL_restore_15 rfl hl (by decide) rfl (fun ls2 hl2 => ?_)
      refine lv_iconst (v := 2) hx hb dL_restore_16 rfl ?_
      exact hret _ _ H locs _ (fo, ((z, f), (ct, L), ((sc, pf, bf), y0), y1, (nw, x), (o0, o1))) dL_restore_17 hP hD hS (Or.inr ⟨hKn, hk.symm, rfl⟩)
  · refine lv_i2l hx hb dL_restore_7 rfl ?_
    refine va_last hx hb hK hP hD hS 0 4 rfl rfl (show vp_in (nI 0) 1 from vp_in_nI (by decide) (by decide)) dL_restore_8 (fun H locs hP hD hS => ?_)
    refine lv_goto (tgt := 18) hx hb dL_restore_9 (by decide) ?_
    refine lv_iconst (v := 0) hx hb dL_restore_18 rfl ?_
    exact hret _ _ H locs _ (vp_updL fo 0 r1.toInt64, u) dL_restore_19 hP hD hS (Or.inl ⟨hq.1, rfl, r1, rfl, hq.2⟩)
