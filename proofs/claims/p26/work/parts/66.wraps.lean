abbrev rm_L_comes : Room := { frames := 7, cells := 10, slots := 51, locals := 127 }
theorem c_L_comes (l : Launch) (D : va_G) (cy : Nat → ClassId) (hl0 : l.stackTraces = false) (a : AD) (v : AV) (u : BS) (hO : Okv v) (hR : Rep v u) (bb : Int32) (a9 : Int32) (hh : Int32) (w9 : Int32) (sz : Nat) : aMet l yL_comes wsL_comes rm_L_comes D cy a [.int bb, .int a9, .int hh, .int w9] u sz (fun (r : Int32) (w : BS) => r = (aCome v bb a9 hh w9).1 ∧ Rep (aCome v bb a9 hh w9).2 w) 10 51 := by
  obtain ⟨b, t, pa, se, th, tr⟩ := a
  obtain ⟨⟨z, f⟩, ⟨ct, L⟩, ⟨⟨sc, pf, bf⟩, y0⟩, y1, ⟨nw, x⟩, o0, o1⟩ := u
  obtain ⟨xv, M, s0, s1⟩ := v
  obtain ⟨hz, hc1, hc2, hM, hxx, hs0, hs1⟩ := id hR
  obtain rfl : x = xv := hxx
  obtain ⟨hn, hg, hok⟩ := OkH.g hO.1
  have hOkx : OkH x := hO.1
  refine MthL (cc := cL_comes) (maxL := 6) (hh := [(0, 9, 10, 13), (0, 9, 15, 16), (0, 9, 20, 19)]) (by decide) rfl (Nat.le_of_ble_eq_true rfl) ?_
  intro p e s m args below meth c Q ls A hAe hsz hX0 hT hF hK hP hD hA hl hret
  rw [← hsz, ← hAe] at hX0
  have hX : Gl A s := hX0
  obtain ⟨hx, hb, hml, hown, hts⟩ := id hF
  have hown : s.vm.findClass RL = some m.cls := hown
  have hl : lv_has ls 6 [(0, .ref (b 0)), (1, .int bb), (2, .int a9), (3, .int hh), (4, .int w9)] := hl
  suffices key : ∀ (H : Heap) (locs : List Loc), va_P D vwCl (guestsW cy b t pa se th tr ((z, f), (ct, L), ((sc, pf, bf), y0), y1, (nw, x), (o0, o1))) H → va_D A (guestsW cy b t pa se th tr ((z, f), (ct, L), ((sc, pf, bf), y0), y1, (nw, x), (o0, o1))) → va_S A s.heap H locs → W p l e rm_L_comes s m args below meth c H locs 0 0 Q (F0 m 0 ls []) from key s.heap [] hP hD va_S.rf
  intro H locs hP hD hS
  refine lv_aload_n hx hb dL_comes_0 rfl (lv_at hl 0 rfl) ?_
  refine lv_iload_n hx hb dL_comes_1 rfl (lv_at hl 1 rfl) ?_
  refine lv_iload_n hx hb dL_comes_2 rfl (lv_at hl 2 rfl) ?_
  refine lv_iload_n hx hb dL_comes_3 rfl (lv_at hl 3 rfl) ?_
  refine lv_iload hx hb dL_comes_4 (lv_at hl 4 rfl) ?_
  refine th_i (fun w : BS => guestsW cy b t pa se th tr w) (vx_runV (As := [.int bb, .int a9, .int hh, .int w9]) (rest := []) hF (c_X7_come l D cy hl0 b t pa se th tr nw z hz f ct L hc1 hc2 sc pf bf y0 y1 x o0 o1 (hN x) hn hg hok bb a9 hh w9 H.size) (cwV 4 hts gL_comes_X7_come rfl rfl rfl (by decide +kernel) ⟨Nat.le_of_ble_eq_true rfl, Nat.le_of_ble_eq_true rfl⟩) (wrX_preV hK hP hD (zz_all _) 0 4 rfl rfl rfl Xok_x (fun U hU hW => Gx.at hX.1 hS (zz_free hD (zz_all _) hS hA) hU hW)) rfl rfl hl.1 rfl (lv_room (Nat.le_of_ble_eq_true rfl)) dL_comes_6 ⟨Nat.le_of_ble_eq_true rfl, Nat.le_of_ble_eq_true rfl⟩) hP hD hS hA (zz_all _) (fun _ => zz_all _) (fun E ce q9 H locs hE hKn hP hD hS hc hv hcl => ?_) (fun r1 w H locs hq hP hD hS => ?_)
  · rcases (@k_come (hN x) bb a9 hh w9 : _) with hk | hk | hk | hk
    · exact absurd hk hKn
    · have hE : E = exI := by rw [hE, hk]; rfl
      subst hE
      refine cat1 hown hT rfl (by decide) (hts (.classLink RL 13 exI) (by decide +kernel)) (hX.1.words _ (by decide +kernel)) hc hv hcl ?_
      refine lv_astore (lv' := [(5, .ref q9), (0, .ref (b 0)), (1, .int bb), (2, .int a9), (3, .int hh), (4, .int w9)]) hx hb dL_comes_10 hl (by decide) rfl (fun ls2 hl2 => ?_)
      refine lv_ldc (v := (-9999001)) hx hb hown (hts (.constant RL 15 (-9999001)) (by decide +kernel)) dL_comes_12 ?_
      have e9 : aCome (x, M, s0, s1) bb a9 hh w9 = _ := if_neg hKn
      exact hret _ _ H locs _ ((z, f), (ct, L), ((sc, pf, bf), y0), y1, (nw, x), (o0, o1)) dL_comes_14 hP hD hS (by rw [e9]; exact ⟨(if_pos hk).symm, hR⟩)
    · have hE : E = exA := by rw [hE, hk]; rfl
      subst hE
      refine cat2 hown hT rfl (by decide) (by decide) (hts (.classLink RL 13 exI) (by decide +kernel)) (hX.2.1) (hts (.classLink RL 16 exA) (by decide +kernel)) (hX.1.words _ (by decide +kernel)) hc hv hcl ?_
      refine lv_astore (lv' := [(5, .ref q9), (0, .ref (b 0)), (1, .int bb), (2, .int a9), (3, .int hh), (4, .int w9)]) hx hb dL_comes_15 hl (by decide) rfl (fun ls2 hl2 => ?_)
      refine lv_ldc (v := (-9999002)) hx hb hown (hts (.constant RL 18 (-9999002)) (by decide +kernel)) dL_comes_17 ?_
      have e9 : aCome (x, M, s0, s1) bb a9 hh w9 = _ := if_neg hKn
      exact hret _ _ H locs _ ((z, f), (ct, L), ((sc, pf, bf), y0), y1, (nw, x), (o0, o1)) dL_comes_19 hP hD hS (by rw [e9]; exact ⟨((if_neg (by rw [hk]; decide)).trans (if_pos hk)).symm, hR⟩)
    · have hE : E = exS := by rw [hE, hk]; rfl
      subst hE
      refine cat3 hown hT rfl (by decide) (by decide) (hts (.classLink RL 13 exI) (by decide +kernel)) (hX.2.2.2.2.2.2) (by decide) (hts (.classLink RL 16 exA) (by decide +kernel)) (hX.2.2.2.2.2.1) (hts (.classLink RL 19 exS) (by decide +kernel)) (hX.1.words _ (by decide +kernel)) hc hv hcl ?_
      refine lv_astore (lv' := [(5, .ref q9), (0, .ref (b 0)), (1, .int bb), (2, .int a9), (3, .int hh), (4, .int w9)]) hx hb dL_comes_20 hl (by decide) rfl (fun ls2 hl2 => ?_)
      refine lv_ldc (v := (-9999003)) hx hb hown (hts (.constant RL 21 (-9999003)) (by decide +kernel)) dL_comes_22 ?_
      have e9 : aCome (x, M, s0, s1) bb a9 hh w9 = _ := if_neg hKn
      exact hret _ _ H locs _ ((z, f), (ct, L), ((sc, pf, bf), y0), y1, (nw, x), (o0, o1)) dL_comes_24 hP hD hS (by rw [e9]; exact ⟨((if_neg (by rw [hk]; decide)).trans (if_neg (by rw [hk]; decide))).symm, hR⟩)
  · obtain ⟨hk0, hr0, c2, L2, hm, rfl⟩ := hq
    have e9 : aCome (x, M, s0, s1) bb a9 hh w9 = _ := if_pos hk0
    have e8 : hAdm (hN x) bb a9 hh w9 x = hCome (hN x) bb a9 hh w9 x := if_pos (kCome_0 hk0)
    rw [e8] at hP hD
    exact hret _ _ H locs _ _ dL_comes_9 hP hD hS (by rw [e9]; exact ⟨hr0.trans (if_pos (kCome_0 hk0)), rep_push hR hm⟩)
abbrev rm_L_doScript : Room := { frames := 7, cells := 1, slots := 6, locals := 140 }
theorem c_L_doScript (l : Launch) (D : va_G) (cy : Nat → ClassId) (hl0 : l.stackTraces = false) (a : AD) (V9 : AV) (u : BS) (hO : Okv V9) (hR : Rep V9 u) (v : Int32) (s9 : Int64) (sz : Nat) : aMet l yL_doScript wsL_doScript rm_L_doScript D cy a [.int v, .long s9] u sz (fun (r : Int32) (w : BS) => r = qRu V9 v s9 ∧ Rep V9 w) 1 6 := by
  obtain ⟨b, t, pa, se, th, tr⟩ := a
  obtain ⟨⟨z, f⟩, ⟨ct, L⟩, ⟨⟨sc, pf, bf⟩, y0⟩, y1, ⟨nw, x⟩, o0, o1⟩ := u
  obtain ⟨xv, M, s0, s1⟩ := V9
  obtain ⟨hz, hc1, hc2, hM, hxx, hs0, hs1⟩ := id hR
  obtain rfl : x = xv := hxx
  obtain ⟨hn, hg, hok⟩ := OkH.g hO.1
  have hOkx : OkH x := hO.1
  refine MthL (cc := cL_doScript) (maxL := 5) (hh := [(0, 6, 7, 16)]) (by decide) rfl (Nat.le_of_ble_eq_true rfl) ?_
  intro p e s m args below meth c Q ls A hAe hsz hX0 hT hF hK hP hD hA hl hret
  rw [← hsz, ← hAe] at hX0
  have hX : Gl A s := hX0
  obtain ⟨hx, hb, hml, hown, hts⟩ := id hF
  have hown : s.vm.findClass RL = some m.cls := hown
  have hl : lv_has ls 5 [(0, .ref (b 0)), (1, .int v), (2, .long s9)] := hl
  suffices key : ∀ (H : Heap) (locs : List Loc), va_P D vwCl (guestsW cy b t pa se th tr ((z, f), (ct, L), ((sc, pf, bf), y0), y1, (nw, x), (o0, o1))) H → va_D A (guestsW cy b t pa se th tr ((z, f), (ct, L), ((sc, pf, bf), y0), y1, (nw, x), (o0, o1))) → va_S A s.heap H locs → W p l e rm_L_doScript s m args below meth c H locs 0 0 Q (F0 m 0 ls []) from key s.heap [] hP hD va_S.rf
  intro H locs hP hD hS
  refine lv_aload_n hx hb dL_doScript_0 rfl (lv_at hl 0 rfl) ?_
  refine lv_iload_n hx hb dL_doScript_1 rfl (lv_at hl 1 rfl) ?_
  refine lv_lload_n hx hb dL_doScript_2 rfl (lv_at hl 2 rfl) ?_
  refine th_i (fun w : BS => guestsW cy b t pa se th tr w) (vx_runV (As := [.int v, .long s9]) (rest := []) hF (c_X7_runScript l D cy hl0 b t pa se th tr nw z hz f ct L hc1 hc2 sc pf bf y0 y1 x o0 o1 (hN x) hn hg hok hOkx v s9 H.size) (cwV 2 hts gL_doScript_X7_runScript rfl rfl rfl (by decide +kernel) ⟨Nat.le_of_ble_eq_true rfl, Nat.le_of_ble_eq_true rfl⟩) (wrX_preV hK hP hD (zz_all _) 0 4 rfl rfl rfl Xok_x (fun U hU hW => Gx.at hX.1 hS (zz_free hD (zz_all _) hS hA) hU hW)) rfl rfl hl.1 rfl (lv_room (Nat.le_of_ble_eq_true rfl)) dL_doScript_3 ⟨Nat.le_of_ble_eq_true rfl, Nat.le_of_ble_eq_true rfl⟩) hP hD hS hA (zz_all _) (fun _ => zz_all _) (fun E ce q9 H locs hE hKn hP hD hS hc hv hcl => ?_) (fun r1 w H locs hq hP hD hS => ?_)
  · rcases (@k_run v s9 : _) with hk | hk
    · exact absurd hk hKn
    · have hE : E = exA := by rw [hE, hk]; rfl
      subst hE
      refine cat1 hown hT rfl (by decide) (hts (.classLink RL 16 exA) (by decide +kernel)) (hX.1.words _ (by decide +kernel)) hc hv hcl ?_
      refine lv_astore (lv' := [(4, .ref q9), (0, .ref (b 0)), (1, .int v), (2, .long s9)]) hx hb dL_doScript_7 hl (by decide) rfl (fun ls2 hl2 => ?_)
      refine lv_ldc (v := (-9999002)) hx hb hown (hts (.constant RL 18 (-9999002)) (by decide +kernel)) dL_doScript_9 ?_
      exact hret _ _ H locs _ ((z, f), (ct, L), ((sc, pf, bf), y0), y1, (nw, x), (o0, o1)) dL_doScript_11 hP hD hS ⟨by unfold qRu; rw [if_neg hKn], hR⟩
  · obtain ⟨hk0, hr0, q8, rfl⟩ := hq
    exact hret _ _ H locs _ _ dL_doScript_6 hP hD hS ⟨by unfold qRu; rw [if_pos hk0]; exact hr0, rep_rd hR⟩
abbrev rm_L_doSimulate : Room := { frames := 7, cells := 1, slots := 6, locals := 139 }
theorem c_L_doSimulate (l : Launch) (D : va_G) (cy : Nat → ClassId) (hl0 : l.stackTraces = false) (a : AD) (V9 : AV) (u : BS) (hO : Okv V9) (hR : Rep V9 u) (seed : Int64) (v : Int32) (sz : Nat) : aMet l yL_doSimulate wsL_doSimulate rm_L_doSimulate D cy a [.long seed, .int v] u sz (fun (r : Int32) (w : BS) => r = qSi V9 seed v ∧ Rep V9 w) 1 6 := by
  obtain ⟨b, t, pa, se, th, tr⟩ := a
  obtain ⟨⟨z, f⟩, ⟨ct, L⟩, ⟨⟨sc, pf, bf⟩, y0⟩, y1, ⟨nw, x⟩, o0, o1⟩ := u
  obtain ⟨xv, M, s0, s1⟩ := V9
  obtain ⟨hz, hc1, hc2, hM, hxx, hs0, hs1⟩ := id hR
  obtain rfl : x = xv := hxx
  obtain ⟨hn, hg, hok⟩ := OkH.g hO.1
  have hOkx : OkH x := hO.1
  refine MthL (cc := cL_doSimulate) (maxL := 5) (hh := [(0, 6, 7, 16)]) (by decide) rfl (Nat.le_of_ble_eq_true rfl) ?_
  intro p e s m args below meth c Q ls A hAe hsz hX0 hT hF hK hP hD hA hl hret
  rw [← hsz, ← hAe] at hX0
  have hX : Gl A s := hX0
  obtain ⟨hx, hb, hml, hown, hts⟩ := id hF
  have hown : s.vm.findClass RL = some m.cls := hown
  have hl : lv_has ls 5 [(0, .ref (b 0)), (1, .long seed), (3, .int v)] := hl
  suffices key : ∀ (H : Heap) (locs : List Loc), va_P D vwCl (guestsW cy b t pa se th tr ((z, f), (ct, L), ((sc, pf, bf), y0), y1, (nw, x), (o0, o1))) H → va_D A (guestsW cy b t pa se th tr ((z, f), (ct, L), ((sc, pf, bf), y0), y1, (nw, x), (o0, o1))) → va_S A s.heap H locs → W p l e rm_L_doSimulate s m args below meth c H locs 0 0 Q (F0 m 0 ls []) from key s.heap [] hP hD va_S.rf
  intro H locs hP hD hS
  refine lv_aload_n hx hb dL_doSimulate_0 rfl (lv_at hl 0 rfl) ?_
  refine lv_lload_n hx hb dL_doSimulate_1 rfl (lv_at hl 1 rfl) ?_
  refine lv_iload_n hx hb dL_doSimulate_2 rfl (lv_at hl 2 rfl) ?_
  refine th_i (fun w : BS => guestsW cy b t pa se th tr w) (vx_runV (As := [.long seed, .int v]) (rest := []) hF (c_X7_simulate l D cy hl0 b t pa se th tr nw z hz f ct L hc1 hc2 sc pf bf y0 y1 x o0 o1 (hN x) hn hg hok hOkx seed v H.size) (cwV 2 hts gL_doSimulate_X7_simulate rfl rfl rfl (by decide +kernel) ⟨Nat.le_of_ble_eq_true rfl, Nat.le_of_ble_eq_true rfl⟩) (wrX_preV hK hP hD (zz_all _) 0 4 rfl rfl rfl Xok_x (fun U hU hW => Gx.at hX.1 hS (zz_free hD (zz_all _) hS hA) hU hW)) rfl rfl hl.1 rfl (lv_room (Nat.le_of_ble_eq_true rfl)) dL_doSimulate_3 ⟨Nat.le_of_ble_eq_true rfl, Nat.le_of_ble_eq_true rfl⟩) hP hD hS hA (zz_all _) (fun _ => zz_all _) (fun E ce q9 H locs hE hKn hP hD hS hc hv hcl => ?_) (fun r1 w H locs hq hP hD hS => ?_)
  · rcases (@k_sim v : _) with hk | hk
    · exact absurd hk hKn
    · have hE : E = exA := by rw [hE, hk]; rfl
      subst hE
      refine cat1 hown hT rfl (by decide) (hts (.classLink RL 16 exA) (by decide +kernel)) (hX.1.words _ (by decide +kernel)) hc hv hcl ?_
      refine lv_astore (lv' := [(4, .ref q9), (0, .ref (b 0)), (1, .long seed), (3, .int v)]) hx hb dL_doSimulate_7 hl (by decide) rfl (fun ls2 hl2 => ?_)
      refine lv_ldc (v := (-9999002)) hx hb hown (hts (.constant RL 18 (-9999002)) (by decide +kernel)) dL_doSimulate_9 ?_
      exact hret _ _ H locs _ ((z, f), (ct, L), ((sc, pf, bf), y0), y1, (nw, x), (o0, o1)) dL_doSimulate_11 hP hD hS ⟨by unfold qSi; rw [if_neg hKn], hR⟩
  · obtain ⟨hk0, hr0, q8, rfl⟩ := hq
    exact hret _ _ H locs _ _ dL_doSimulate_6 hP hD hS ⟨by unfold qSi; rw [if_pos hk0]; exact hr0, rep_rd hR⟩
abbrev rm_L_tryAppend : Room := { frames := 7, cells := 1, slots := 6, locals := 111 }
theorem c_L_tryAppend (l : Launch) (D : va_G) (cy : Nat → ClassId) (hl0 : l.stackTraces = false) (a : AD) (V9 : AV) (u : BS) (hO : Okv V9) (hR : Rep V9 u) (v : Int32) (hne : ¬ inL v.toInt64 0 255) (sz : Nat) : aMet l yL_tryAppend wsL_tryAppend rm_L_tryAppend D cy a [.int v] u sz (fun (r : Int32) (w : BS) => r = cA ∧ Rep V9 w) 1 6 := by
  obtain ⟨b, t, pa, se, th, tr⟩ := a
  obtain ⟨⟨z, f⟩, ⟨ct, L⟩, ⟨⟨sc, pf, bf⟩, y0⟩, y1, ⟨nw, x⟩, o0, o1⟩ := u
  obtain ⟨xv, M, s0, s1⟩ := V9
  obtain ⟨hz, hc1, hc2, hM, hxx, hs0, hs1⟩ := id hR
  obtain rfl : x = xv := hxx
  obtain ⟨hn, hg, hok⟩ := OkH.g hO.1
  have hOkx : OkH x := hO.1
  refine MthL (cc := cL_tryAppend) (maxL := 3) (hh := [(0, 5, 6, 16), (0, 5, 10, 19)]) (by decide) rfl (Nat.le_of_ble_eq_true rfl) ?_
  intro p e s m args below meth c Q ls A hAe hsz hX0 hT hF hK hP hD hA hl hret
  rw [← hsz, ← hAe] at hX0
  have hX : Gl A s := hX0
  obtain ⟨hx, hb, hml, hown, hts⟩ := id hF
  have hown : s.vm.findClass RL = some m.cls := hown
  have hl : lv_has ls 3 [(0, .ref (b 0)), (1, .int v)] := hl
  suffices key : ∀ (H : Heap) (locs : List Loc), va_P D vwCl (guestsW cy b t pa se th tr ((z, f), (ct, L), ((sc, pf, bf), y0), y1, (nw, x), (o0, o1))) H → va_D A (guestsW cy b t pa se th tr ((z, f), (ct, L), ((sc, pf, bf), y0), y1, (nw, x), (o0, o1))) → va_S A s.heap H locs → W p l e rm_L_tryAppend s m args below meth c H locs 0 0 Q (F0 m 0 ls []) from key s.heap [] hP hD va_S.rf
  intro H locs hP hD hS
  refine lv_aload_n hx hb dL_tryAppend_0 rfl (lv_at hl 0 rfl) ?_
  refine lv_iload_n hx hb dL_tryAppend_1 rfl (lv_at hl 1 rfl) ?_
  refine th_i (fun w : BS => guestsW cy b t pa se th tr w) (vx_runV (As := [.int v]) (rest := []) hF (c_X7_append l D cy hl0 b t pa se th tr nw z hz f ct L hc1 hc2 sc pf bf y0 y1 x o0 o1 (hN x) hn hg hok v H.size) (cwV 1 hts gL_tryAppend_X7_append rfl rfl rfl (by decide +kernel) ⟨Nat.le_of_ble_eq_true rfl, Nat.le_of_ble_eq_true rfl⟩) (wrX_preV hK hP hD (zz_all _) 0 4 rfl rfl rfl Xok_x (fun U hU hW => Gx.at hX.1 hS (zz_free hD (zz_all _) hS hA) hU hW)) rfl rfl hl.1 rfl (lv_room (Nat.le_of_ble_eq_true rfl)) dL_tryAppend_2 ⟨Nat.le_of_ble_eq_true rfl, Nat.le_of_ble_eq_true rfl⟩) hP hD hS hA (zz_all _) (fun _ => zz_all _) (fun E ce q9 H locs hE hKn hP hD hS hc hv hcl => ?_) (fun r1 w H locs hq hP hD hS => ?_)
  · rcases (@k_app z v : _) with hk | hk | hk
    · exact absurd hk hKn
    · have hE : E = exA := by rw [hE, hk]; rfl
      subst hE
      refine cat1 hown hT rfl (by decide) (hts (.classLink RL 16 exA) (by decide +kernel)) (hX.1.words _ (by decide +kernel)) hc hv hcl ?_
      refine lv_astore_n (lv' := [(2, .ref q9), (0, .ref (b 0)), (1, .int v)]) hx hb dL_tryAppend_6 rfl hl (by decide) rfl (fun ls2 hl2 => ?_)
      refine lv_ldc (v := (-9999002)) hx hb hown (hts (.constant RL 18 (-9999002)) (by decide +kernel)) dL_tryAppend_7 ?_
      exact hret _ _ H locs _ ((z, f), (ct, L), ((sc, pf, bf), y0), y1, (nw, x), (o0, o1)) dL_tryAppend_9 hP hD hS ⟨rfl, hR⟩
    · exact absurd (hk.symm.trans (kApp_1 hne)) (by decide)
  · exact absurd (hq.1.symm.trans (kApp_1 hne)) (by decide)
abbrev rm_L_tryAbout : Room := { frames := 7, cells := 1, slots := 6, locals := 111 }
theorem c_L_tryAbout (l : Launch) (D : va_G) (cy : Nat → ClassId) (hl0 : l.stackTraces = false) (a : AD) (V9 : AV) (u : BS) (hO : Okv V9) (hR : Rep V9 u) (v : Int32) (sz : Nat) : aMet l yL_tryAbout wsL_tryAbout rm_L_tryAbout D cy a [.int v] u sz (fun (r : Int32) (w : BS) => r = qAb V9 v ∧ Rep V9 w) 1 6 := by
  obtain ⟨b, t, pa, se, th, tr⟩ := a
  obtain ⟨⟨z, f⟩, ⟨ct, L⟩, ⟨⟨sc, pf, bf⟩, y0⟩, y1, ⟨nw, x⟩, o0, o1⟩ := u
  obtain ⟨xv, M, s0, s1⟩ := V9
  obtain ⟨hz, hc1, hc2, hM, hxx, hs0, hs1⟩ := id hR
  obtain rfl : x = xv := hxx
  obtain ⟨hn, hg, hok⟩ := OkH.g hO.1
  have hOkx : OkH x := hO.1
  refine MthL (cc := cL_tryAbout) (maxL := 3) (hh := [(0, 5, 6, 16)]) (by decide) rfl (Nat.le_of_ble_eq_true rfl) ?_
  intro p e s m args below meth c Q ls A hAe hsz hX0 hT hF hK hP hD hA hl hret
  rw [← hsz, ← hAe] at hX0
  have hX : Gl A s := hX0
  obtain ⟨hx, hb, hml, hown, hts⟩ := id hF
  have hown : s.vm.findClass RL = some m.cls := hown
  have hl : lv_has ls 3 [(0, .ref (b 0)), (1, .int v)] := hl
  suffices key : ∀ (H : Heap) (locs : List Loc), va_P D vwCl (guestsW cy b t pa se th tr ((z, f), (ct, L), ((sc, pf, bf), y0), y1, (nw, x), (o0, o1))) H → va_D A (guestsW cy b t pa se th tr ((z, f), (ct, L), ((sc, pf, bf), y0), y1, (nw, x), (o0, o1))) → va_S A s.heap H locs → W p l e rm_L_tryAbout s m args below meth c H locs 0 0 Q (F0 m 0 ls []) from key s.heap [] hP hD va_S.rf
  intro H locs hP hD hS
  refine lv_aload_n hx hb dL_tryAbout_0 rfl (lv_at hl 0 rfl) ?_
  refine lv_iload_n hx hb dL_tryAbout_1 rfl (lv_at hl 1 rfl) ?_
  refine th_i (fun w : BS => guestsW cy b t pa se th tr w) (vx_runV (As := [.int v]) (rest := []) hF (c_X7_about l D cy hl0 b t pa se th tr nw z hz f ct L hc1 hc2 sc pf bf y0 y1 x o0 o1 (hN x) hn hg hok v H.size) (cwV 1 hts gL_tryAbout_X7_about rfl rfl rfl (by decide +kernel) ⟨Nat.le_of_ble_eq_true rfl, Nat.le_of_ble_eq_true rfl⟩) (wrX_preV hK hP hD (zz_all _) 0 4 rfl rfl rfl Xok_x (fun U hU hW => Gx.at hX.1 hS (zz_free hD (zz_all _) hS hA) hU hW)) rfl rfl hl.1 rfl (lv_room (Nat.le_of_ble_eq_true rfl)) dL_tryAbout_2 ⟨Nat.le_of_ble_eq_true rfl, Nat.le_of_ble_eq_true rfl⟩) hP hD hS hA (zz_all _) (fun _ => zz_all _) (fun E ce q9 H locs hE hKn hP hD hS hc hv hcl => ?_) (fun r1 w H locs hq hP hD hS => ?_)
  · rcases (@k_about v : _) with hk | hk
    · exact absurd hk hKn
    · have hE : E = exA := by rw [hE, hk]; rfl
      subst hE
      refine cat1 hown hT rfl (by decide) (hts (.classLink RL 16 exA) (by decide +kernel)) (hX.1.words _ (by decide +kernel)) hc hv hcl ?_
      refine lv_astore_n (lv' := [(2, .ref q9), (0, .ref (b 0)), (1, .int v)]) hx hb dL_tryAbout_6 rfl hl (by decide) rfl (fun ls2 hl2 => ?_)
      refine lv_ldc (v := (-9999002)) hx hb hown (hts (.constant RL 18 (-9999002)) (by decide +kernel)) dL_tryAbout_7 ?_
      exact hret _ _ H locs _ ((z, f), (ct, L), ((sc, pf, bf), y0), y1, (nw, x), (o0, o1)) dL_tryAbout_9 hP hD hS ⟨by unfold qAb; rw [if_neg hKn], hR⟩
  · obtain ⟨hk0, hr0, rfl⟩ := hq
    exact hret _ _ H locs _ _ dL_tryAbout_5 hP hD hS ⟨by unfold qAb; rw [if_pos hk0]; exact hr0, rep_rd hR⟩
abbrev rm_L_tryGuest : Room := { frames := 8, cells := 2, slots := 12, locals := 133 }
theorem c_L_tryGuest (l : Launch) (D : va_G) (cy : Nat → ClassId) (hl0 : l.stackTraces = false) (a : AD) (V9 : AV) (u : BS) (hO : Okv V9) (hR : Rep V9 u) (g : Int32) (v : Int32) (sz : Nat) : aMet l yL_tryGuest wsL_tryGuest rm_L_tryGuest D cy a [.int g, .int v] u sz (fun (r : Int32) (w : BS) => r = qGu V9 g v ∧ Rep V9 w) 2 12 := by
  obtain ⟨b, t, pa, se, th, tr⟩ := a
  obtain ⟨⟨z, f⟩, ⟨ct, L⟩, ⟨⟨sc, pf, bf⟩, y0⟩, y1, ⟨nw, x⟩, o0, o1⟩ := u
  obtain ⟨xv, M, s0, s1⟩ := V9
  obtain ⟨hz, hc1, hc2, hM, hxx, hs0, hs1⟩ := id hR
  obtain rfl : x = xv := hxx
  obtain ⟨hn, hg, hok⟩ := OkH.g hO.1
  have hOkx : OkH x := hO.1
  refine MthL (cc := cL_tryGuest) (maxL := 4) (hh := [(0, 6, 7, 13), (0, 6, 11, 16)]) (by decide) rfl (Nat.le_of_ble_eq_true rfl) ?_
  intro p e s m args below meth c Q ls A hAe hsz hX0 hT hF hK hP hD hA hl hret
  rw [← hsz, ← hAe] at hX0
  have hX : Gl A s := hX0
  obtain ⟨hx, hb, hml, hown, hts⟩ := id hF
  have hown : s.vm.findClass RL = some m.cls := hown
  have hl : lv_has ls 4 [(0, .ref (b 0)), (1, .int g), (2, .int v)] := hl
  suffices key : ∀ (H : Heap) (locs : List Loc), va_P D vwCl (guestsW cy b t pa se th tr ((z, f), (ct, L), ((sc, pf, bf), y0), y1, (nw, x), (o0, o1))) H → va_D A (guestsW cy b t pa se th tr ((z, f), (ct, L), ((sc, pf, bf), y0), y1, (nw, x), (o0, o1))) → va_S A s.heap H locs → W p l e rm_L_tryGuest s m args below meth c H locs 0 0 Q (F0 m 0 ls []) from key s.heap [] hP hD va_S.rf
  intro H locs hP hD hS
  refine lv_aload_n hx hb dL_tryGuest_0 rfl (lv_at hl 0 rfl) ?_
  refine lv_iload_n hx hb dL_tryGuest_1 rfl (lv_at hl 1 rfl) ?_
  refine lv_iload_n hx hb dL_tryGuest_2 rfl (lv_at hl 2 rfl) ?_
  refine th_i (fun w : BS => guestsW cy b t pa se th tr w) (vx_runV (As := [.int g, .int v]) (rest := []) hF (c_X7_guestOf l D cy hl0 b t pa se th tr nw z hz f ct L hc1 hc2 sc pf bf y0 y1 x o0 o1 (hN x) hn hg hok g v H.size) (cwV 2 hts gL_tryGuest_X7_guestOf rfl rfl rfl (by decide +kernel) ⟨Nat.le_of_ble_eq_true rfl, Nat.le_of_ble_eq_true rfl⟩) (wrX_preV hK hP hD (zz_all _) 0 4 rfl rfl rfl Xok_x (fun U hU hW => Gx.at hX.1 hS (zz_free hD (zz_all _) hS hA) hU hW)) rfl rfl hl.1 rfl (lv_room (Nat.le_of_ble_eq_true rfl)) dL_tryGuest_3 ⟨Nat.le_of_ble_eq_true rfl, Nat.le_of_ble_eq_true rfl⟩) hP hD hS hA (zz_all _) (fun _ => zz_all _) (fun E ce q9 H locs hE hKn hP hD hS hc hv hcl => ?_) (fun r1 w H locs hq hP hD hS => ?_)
  · rcases (@k_guest (nI (hN x)) g v : _) with hk | hk | hk
    · exact absurd hk hKn
    · have hE : E = exI := by rw [hE, hk]; rfl
      subst hE
      refine cat1 hown hT rfl (by decide) (hts (.classLink RL 13 exI) (by decide +kernel)) (hX.1.words _ (by decide +kernel)) hc hv hcl ?_
      refine lv_astore_n (lv' := [(3, .ref q9), (0, .ref (b 0)), (1, .int g), (2, .int v)]) hx hb dL_tryGuest_7 rfl hl (by decide) rfl (fun ls2 hl2 => ?_)
      refine lv_ldc (v := (-9999001)) hx hb hown (hts (.constant RL 15 (-9999001)) (by decide +kernel)) dL_tryGuest_8 ?_
      exact hret _ _ H locs _ ((z, f), (ct, L), ((sc, pf, bf), y0), y1, (nw, x), (o0, o1)) dL_tryGuest_10 hP hD hS ⟨by unfold qGu; rw [if_neg hKn, if_pos hk], hR⟩
    · have hE : E = exA := by rw [hE, hk]; rfl
      subst hE
      refine cat2 hown hT rfl (by decide) (by decide) (hts (.classLink RL 13 exI) (by decide +kernel)) (hX.2.1) (hts (.classLink RL 16 exA) (by decide +kernel)) (hX.1.words _ (by decide +kernel)) hc hv hcl ?_
      refine lv_astore_n (lv' := [(3, .ref q9), (0, .ref (b 0)), (1, .int g), (2, .int v)]) hx hb dL_tryGuest_11 rfl hl (by decide) rfl (fun ls2 hl2 => ?_)
      refine lv_ldc (v := (-9999002)) hx hb hown (hts (.constant RL 18 (-9999002)) (by decide +kernel)) dL_tryGuest_12 ?_
      exact hret _ _ H locs _ ((z, f), (ct, L), ((sc, pf, bf), y0), y1, (nw, x), (o0, o1)) dL_tryGuest_14 hP hD hS ⟨by unfold qGu; rw [if_neg hKn, if_neg (show ¬ kGuest (nI (hN x)) g v = 1 by rw [hk]; decide)], hR⟩
  · obtain ⟨hk0, hr0, rfl⟩ := hq
    exact hret _ _ H locs _ _ dL_tryGuest_6 hP hD hS ⟨by unfold qGu; rw [if_pos hk0]; exact hr0, rep_rd hR⟩
abbrev rm_L_tryFloor : Room := { frames := 7, cells := 1, slots := 6, locals := 112 }
theorem c_L_tryFloor (l : Launch) (D : va_G) (cy : Nat → ClassId) (hl0 : l.stackTraces = false) (a : AD) (V9 : AV) (u : BS) (hO : Okv V9) (hR : Rep V9 u) (f9 : Int32) (v : Int32) (sz : Nat) : aMet l yL_tryFloor wsL_tryFloor rm_L_tryFloor D cy a [.int f9, .int v] u sz (fun (r : Int32) (w : BS) => r = qFl V9 f9 v ∧ Rep V9 w) 1 6 := by
  obtain ⟨b, t, pa, se, th, tr⟩ := a
  obtain ⟨⟨z, f⟩, ⟨ct, L⟩, ⟨⟨sc, pf, bf⟩, y0⟩, y1, ⟨nw, x⟩, o0, o1⟩ := u
  obtain ⟨xv, M, s0, s1⟩ := V9
  obtain ⟨hz, hc1, hc2, hM, hxx, hs0, hs1⟩ := id hR
  obtain rfl : x = xv := hxx
  obtain ⟨hn, hg, hok⟩ := OkH.g hO.1
  have hOkx : OkH x := hO.1
  refine MthL (cc := cL_tryFloor) (maxL := 4) (hh := [(0, 6, 7, 13), (0, 6, 11, 16)]) (by decide) rfl (Nat.le_of_ble_eq_true rfl) ?_
  intro p e s m args below meth c Q ls A hAe hsz hX0 hT hF hK hP hD hA hl hret
  rw [← hsz, ← hAe] at hX0
  have hX : Gl A s := hX0
  obtain ⟨hx, hb, hml, hown, hts⟩ := id hF
  have hown : s.vm.findClass RL = some m.cls := hown
  have hl : lv_has ls 4 [(0, .ref (b 0)), (1, .int f9), (2, .int v)] := hl
  suffices key : ∀ (H : Heap) (locs : List Loc), va_P D vwCl (guestsW cy b t pa se th tr ((z, f), (ct, L), ((sc, pf, bf), y0), y1, (nw, x), (o0, o1))) H → va_D A (guestsW cy b t pa se th tr ((z, f), (ct, L), ((sc, pf, bf), y0), y1, (nw, x), (o0, o1))) → va_S A s.heap H locs → W p l e rm_L_tryFloor s m args below meth c H locs 0 0 Q (F0 m 0 ls []) from key s.heap [] hP hD va_S.rf
  intro H locs hP hD hS
  refine lv_aload_n hx hb dL_tryFloor_0 rfl (lv_at hl 0 rfl) ?_
  refine lv_iload_n hx hb dL_tryFloor_1 rfl (lv_at hl 1 rfl) ?_
  refine lv_iload_n hx hb dL_tryFloor_2 rfl (lv_at hl 2 rfl) ?_
  refine th_i (fun w : BS => guestsW cy b t pa se th tr w) (vx_runV (As := [.int f9, .int v]) (rest := []) hF (c_X7_floorOf l D cy hl0 b t pa se th tr nw z hz f ct L hc1 hc2 sc pf bf y0 y1 x o0 o1 (hN x) hn hg hok f9 v H.size) (cwV 2 hts gL_tryFloor_X7_floorOf rfl rfl rfl (by decide +kernel) ⟨Nat.le_of_ble_eq_true rfl, Nat.le_of_ble_eq_true rfl⟩) (wrX_preV hK hP hD (zz_all _) 0 4 rfl rfl rfl Xok_x (fun U hU hW => Gx.at hX.1 hS (zz_free hD (zz_all _) hS hA) hU hW)) rfl rfl hl.1 rfl (lv_room (Nat.le_of_ble_eq_true rfl)) dL_tryFloor_3 ⟨Nat.le_of_ble_eq_true rfl, Nat.le_of_ble_eq_true rfl⟩) hP hD hS hA (zz_all _) (fun _ => zz_all _) (fun E ce q9 H locs hE hKn hP hD hS hc hv hcl => ?_) (fun r1 w H locs hq hP hD hS => ?_)
  · rcases (@k_floor f9 v : _) with hk | hk | hk
    · exact absurd hk hKn
    · have hE : E = exI := by rw [hE, hk]; rfl
      subst hE
      refine cat1 hown hT rfl (by decide) (hts (.classLink RL 13 exI) (by decide +kernel)) (hX.1.words _ (by decide +kernel)) hc hv hcl ?_
      refine lv_astore_n (lv' := [(3, .ref q9), (0, .ref (b 0)), (1, .int f9), (2, .int v)]) hx hb dL_tryFloor_7 rfl hl (by decide) rfl (fun ls2 hl2 => ?_)
      refine lv_ldc (v := (-9999001)) hx hb hown (hts (.constant RL 15 (-9999001)) (by decide +kernel)) dL_tryFloor_8 ?_
      exact hret _ _ H locs _ ((z, f), (ct, L), ((sc, pf, bf), y0), y1, (nw, x), (o0, o1)) dL_tryFloor_10 hP hD hS ⟨by unfold qFl; rw [if_neg hKn, if_pos hk], hR⟩
    · have hE : E = exA := by rw [hE, hk]; rfl
      subst hE
      refine cat2 hown hT rfl (by decide) (by decide) (hts (.classLink RL 13 exI) (by decide +kernel)) (hX.2.1) (hts (.classLink RL 16 exA) (by decide +kernel)) (hX.1.words _ (by decide +kernel)) hc hv hcl ?_
      refine lv_astore_n (lv' := [(3, .ref q9), (0, .ref (b 0)), (1, .int f9), (2, .int v)]) hx hb dL_tryFloor_11 rfl hl (by decide) rfl (fun ls2 hl2 => ?_)
      refine lv_ldc (v := (-9999002)) hx hb hown (hts (.constant RL 18 (-9999002)) (by decide +kernel)) dL_tryFloor_12 ?_
      exact hret _ _ H locs _ ((z, f), (ct, L), ((sc, pf, bf), y0), y1, (nw, x), (o0, o1)) dL_tryFloor_14 hP hD hS ⟨by unfold qFl; rw [if_neg hKn, if_neg (show ¬ kFloor f9 v = 1 by rw [hk]; decide)], hR⟩
  · obtain ⟨hk0, hr0, rfl⟩ := hq
    exact hret _ _ H locs _ _ dL_tryFloor_6 hP hD hS ⟨by unfold qFl; rw [if_pos hk0]; exact hr0, rep_rd hR⟩
abbrev rm_L_trySetting : Room := { frames := 7, cells := 1, slots := 6, locals := 111 }
theorem c_L_trySetting (l : Launch) (D : va_G) (cy : Nat → ClassId) (hl0 : l.stackTraces = false) (a : AD) (V9 : AV) (u : BS) (hO : Okv V9) (hR : Rep V9 u) (v : Int32) (sz : Nat) : aMet l yL_trySetting wsL_trySetting rm_L_trySetting D cy a [.int v] u sz (fun (r : Int32) (w : BS) => r = qSe V9 v ∧ Rep V9 w) 1 6 := by
  obtain ⟨b, t, pa, se, th, tr⟩ := a
  obtain ⟨⟨z, f⟩, ⟨ct, L⟩, ⟨⟨sc, pf, bf⟩, y0⟩, y1, ⟨nw, x⟩, o0, o1⟩ := u
  obtain ⟨xv, M, s0, s1⟩ := V9
  obtain ⟨hz, hc1, hc2, hM, hxx, hs0, hs1⟩ := id hR
  obtain rfl : x = xv := hxx
  obtain ⟨hn, hg, hok⟩ := OkH.g hO.1
  have hOkx : OkH x := hO.1
  refine MthL (cc := cL_trySetting) (maxL := 3) (hh := [(0, 5, 6, 16)]) (by decide) rfl (Nat.le_of_ble_eq_true rfl) ?_
  intro p e s m args below meth c Q ls A hAe hsz hX0 hT hF hK hP hD hA hl hret
  rw [← hsz, ← hAe] at hX0
  have hX : Gl A s := hX0
  obtain ⟨hx, hb, hml, hown, hts⟩ := id hF
  have hown : s.vm.findClass RL = some m.cls := hown
  have hl : lv_has ls 3 [(0, .ref (b 0)), (1, .int v)] := hl
  suffices key : ∀ (H : Heap) (locs : List Loc), va_P D vwCl (guestsW cy b t pa se th tr ((z, f), (ct, L), ((sc, pf, bf), y0), y1, (nw, x), (o0, o1))) H → va_D A (guestsW cy b t pa se th tr ((z, f), (ct, L), ((sc, pf, bf), y0), y1, (nw, x), (o0, o1))) → va_S A s.heap H locs → W p l e rm_L_trySetting s m args below meth c H locs 0 0 Q (F0 m 0 ls []) from key s.heap [] hP hD va_S.rf
  intro H locs hP hD hS
  refine lv_aload_n hx hb dL_trySetting_0 rfl (lv_at hl 0 rfl) ?_
  refine lv_iload_n hx hb dL_trySetting_1 rfl (lv_at hl 1 rfl) ?_
  refine th_i (fun w : BS => guestsW cy b t pa se th tr w) (vx_runV (As := [.int v]) (rest := []) hF (c_X7_setting l D cy hl0 b t pa se th tr nw z hz f ct L hc1 hc2 sc pf bf y0 y1 x o0 o1 (hN x) hn hg hok v H.size) (cwV 1 hts gL_trySetting_X7_setting rfl rfl rfl (by decide +kernel) ⟨Nat.le_of_ble_eq_true rfl, Nat.le_of_ble_eq_true rfl⟩) (wrX_preV hK hP hD (zz_all _) 0 4 rfl rfl rfl Xok_x (fun U hU hW => Gx.at hX.1 hS (zz_free hD (zz_all _) hS hA) hU hW)) rfl rfl hl.1 rfl (lv_room (Nat.le_of_ble_eq_true rfl)) dL_trySetting_2 ⟨Nat.le_of_ble_eq_true rfl, Nat.le_of_ble_eq_true rfl⟩) hP hD hS hA (zz_all _) (fun _ => zz_all _) (fun E ce q9 H locs hE hKn hP hD hS hc hv hcl => ?_) (fun r1 w H locs hq hP hD hS => ?_)
  · rcases (@k_setg v : _) with hk | hk
    · exact absurd hk hKn
    · have hE : E = exA := by rw [hE, hk]; rfl
      subst hE
      refine cat1 hown hT rfl (by decide) (hts (.classLink RL 16 exA) (by decide +kernel)) (hX.1.words _ (by decide +kernel)) hc hv hcl ?_
      refine lv_astore_n (lv' := [(2, .ref q9), (0, .ref (b 0)), (1, .int v)]) hx hb dL_trySetting_6 rfl hl (by decide) rfl (fun ls2 hl2 => ?_)
      refine lv_ldc (v := (-9999002)) hx hb hown (hts (.constant RL 18 (-9999002)) (by decide +kernel)) dL_trySetting_7 ?_
      exact hret _ _ H locs _ ((z, f), (ct, L), ((sc, pf, bf), y0), y1, (nw, x), (o0, o1)) dL_trySetting_9 hP hD hS ⟨by unfold qSe; rw [if_neg hKn], hR⟩
  · obtain ⟨hk0, hr0, rfl⟩ := hq
    exact hret _ _ H locs _ _ dL_trySetting_5 hP hD hS ⟨by unfold qSe; rw [if_pos hk0]; exact hr0, rep_rd hR⟩
abbrev rm_L_tryLeave : Room := { frames := 8, cells := 11, slots := 57, locals := 132 }
theorem c_L_tryLeave (l : Launch) (D : va_G) (cy : Nat → ClassId) (hl0 : l.stackTraces = false) (a : AD) (v : AV) (u : BS) (hO : Okv v) (hR : Rep v u) (g : Int32) (sz : Nat) : aMet l yL_tryLeave wsL_tryLeave rm_L_tryLeave D cy a [.int g] u sz (fun (r : Int32) (w : BS) => r = (aLeave v g).1 ∧ Rep (aLeave v g).2 w) 11 57 := by
  obtain ⟨b, t, pa, se, th, tr⟩ := a
  obtain ⟨⟨z, f⟩, ⟨ct, L⟩, ⟨⟨sc, pf, bf⟩, y0⟩, y1, ⟨nw, x⟩, o0, o1⟩ := u
  obtain ⟨xv, M, s0, s1⟩ := v
  obtain ⟨hz, hc1, hc2, hM, hxx, hs0, hs1⟩ := id hR
  obtain rfl : x = xv := hxx
  obtain ⟨hn, hg, hok⟩ := OkH.g hO.1
  have hOkx : OkH x := hO.1
  refine MthL (cc := cL_tryLeave) (maxL := 3) (hh := [(0, 5, 6, 13)]) (by decide) rfl (Nat.le_of_ble_eq_true rfl) ?_
  intro p e s m args below meth c Q ls A hAe hsz hX0 hT hF hK hP hD hA hl hret
  rw [← hsz, ← hAe] at hX0
  have hX : Gl A s := hX0
  obtain ⟨hx, hb, hml, hown, hts⟩ := id hF
  have hown : s.vm.findClass RL = some m.cls := hown
  have hl : lv_has ls 3 [(0, .ref (b 0)), (1, .int g)] := hl
  suffices key : ∀ (H : Heap) (locs : List Loc), va_P D vwCl (guestsW cy b t pa se th tr ((z, f), (ct, L), ((sc, pf, bf), y0), y1, (nw, x), (o0, o1))) H → va_D A (guestsW cy b t pa se th tr ((z, f), (ct, L), ((sc, pf, bf), y0), y1, (nw, x), (o0, o1))) → va_S A s.heap H locs → W p l e rm_L_tryLeave s m args below meth c H locs 0 0 Q (F0 m 0 ls []) from key s.heap [] hP hD va_S.rf
  intro H locs hP hD hS
  refine lv_aload_n hx hb dL_tryLeave_0 rfl (lv_at hl 0 rfl) ?_
  refine lv_iload_n hx hb dL_tryLeave_1 rfl (lv_at hl 1 rfl) ?_
  refine th_i (fun w : BS => guestsW cy b t pa se th tr w) (vx_runV (As := [.int g]) (rest := []) hF (c_X7_leave l D cy hl0 b t pa se th tr nw z hz f ct L hc1 hc2 sc pf bf y0 y1 x o0 o1 (hN x) hn hg hok g H.size) (cwV 1 hts gL_tryLeave_X7_leave rfl rfl rfl (by decide +kernel) ⟨Nat.le_of_ble_eq_true rfl, Nat.le_of_ble_eq_true rfl⟩) (wrX_preV hK hP hD (zz_all _) 0 4 rfl rfl rfl Xok_x (fun U hU hW => Gx.at hX.1 hS (zz_free hD (zz_all _) hS hA) hU hW)) rfl rfl hl.1 rfl (lv_room (Nat.le_of_ble_eq_true rfl)) dL_tryLeave_2 ⟨Nat.le_of_ble_eq_true rfl, Nat.le_of_ble_eq_true rfl⟩) hP hD hS hA (zz_all _) (fun _ => zz_all _) (fun E ce q9 H locs hE hKn hP hD hS hc hv hcl => ?_) (fun r1 w H locs hq hP hD hS => ?_)
  · rcases (@k_g (nI (hN x)) g : _) with hk | hk
    · exact absurd hk hKn
    · have hE : E = exI := by rw [hE, hk]; rfl
      subst hE
      refine cat1 hown hT rfl (by decide) (hts (.classLink RL 13 exI) (by decide +kernel)) (hX.1.words _ (by decide +kernel)) hc hv hcl ?_
      refine lv_astore_n (lv' := [(2, .ref q9), (0, .ref (b 0)), (1, .int g)]) hx hb dL_tryLeave_6 rfl hl (by decide) rfl (fun ls2 hl2 => ?_)
      refine lv_ldc (v := (-9999001)) hx hb hown (hts (.constant RL 15 (-9999001)) (by decide +kernel)) dL_tryLeave_7 ?_
      have e9 : aLeave (x, M, s0, s1) g = _ := if_neg hKn
      exact hret _ _ H locs _ ((z, f), (ct, L), ((sc, pf, bf), y0), y1, (nw, x), (o0, o1)) dL_tryLeave_9 hP hD hS (by rw [e9]; exact ⟨rfl, hR⟩)
  · obtain ⟨hk0, hr0, c2, L2, hm, rfl⟩ := hq
    have e9 : aLeave (x, M, s0, s1) g = _ := if_pos hk0
    exact hret _ _ H locs _ _ dL_tryLeave_5 hP hD hS (by rw [e9]; exact ⟨hr0, rep_push hR hm⟩)
abbrev rm_L_tryPress : Room := { frames := 8, cells := 11, slots := 57, locals := 132 }
theorem c_L_tryPress (l : Launch) (D : va_G) (cy : Nat → ClassId) (hl0 : l.stackTraces = false) (a : AD) (v : AV) (u : BS) (hO : Okv v) (hR : Rep v u) (g : Int32) (sz : Nat) : aMet l yL_tryPress wsL_tryPress rm_L_tryPress D cy a [.int g] u sz (fun (r : Int32) (w : BS) => r = (aPress v g).1 ∧ Rep (aPress v g).2 w) 11 57 := by
  obtain ⟨b, t, pa, se, th, tr⟩ := a
  obtain ⟨⟨z, f⟩, ⟨ct, L⟩, ⟨⟨sc, pf, bf⟩, y0⟩, y1, ⟨nw, x⟩, o0, o1⟩ := u
  obtain ⟨xv, M, s0, s1⟩ := v
  obtain ⟨hz, hc1, hc2, hM, hxx, hs0, hs1⟩ := id hR
  obtain rfl : x = xv := hxx
  obtain ⟨hn, hg, hok⟩ := OkH.g hO.1
  have hOkx : OkH x := hO.1
  refine MthL (cc := cL_tryPress) (maxL := 3) (hh := [(0, 5, 6, 13)]) (by decide) rfl (Nat.le_of_ble_eq_true rfl) ?_
  intro p e s m args below meth c Q ls A hAe hsz hX0 hT hF hK hP hD hA hl hret
  rw [← hsz, ← hAe] at hX0
  have hX : Gl A s := hX0
  obtain ⟨hx, hb, hml, hown, hts⟩ := id hF
  have hown : s.vm.findClass RL = some m.cls := hown
  have hl : lv_has ls 3 [(0, .ref (b 0)), (1, .int g)] := hl
  suffices key : ∀ (H : Heap) (locs : List Loc), va_P D vwCl (guestsW cy b t pa se th tr ((z, f), (ct, L), ((sc, pf, bf), y0), y1, (nw, x), (o0, o1))) H → va_D A (guestsW cy b t pa se th tr ((z, f), (ct, L), ((sc, pf, bf), y0), y1, (nw, x), (o0, o1))) → va_S A s.heap H locs → W p l e rm_L_tryPress s m args below meth c H locs 0 0 Q (F0 m 0 ls []) from key s.heap [] hP hD va_S.rf
  intro H locs hP hD hS
  refine lv_aload_n hx hb dL_tryPress_0 rfl (lv_at hl 0 rfl) ?_
  refine lv_iload_n hx hb dL_tryPress_1 rfl (lv_at hl 1 rfl) ?_
  refine th_i (fun w : BS => guestsW cy b t pa se th tr w) (vx_runV (As := [.int g]) (rest := []) hF (c_X7_press l D cy hl0 b t pa se th tr nw z hz f ct L hc1 hc2 sc pf bf y0 y1 x o0 o1 (hN x) hn hg hok g H.size) (cwV 1 hts gL_tryPress_X7_press rfl rfl rfl (by decide +kernel) ⟨Nat.le_of_ble_eq_true rfl, Nat.le_of_ble_eq_true rfl⟩) (wrX_preV hK hP hD (zz_all _) 0 4 rfl rfl rfl Xok_x (fun U hU hW => Gx.at hX.1 hS (zz_free hD (zz_all _) hS hA) hU hW)) rfl rfl hl.1 rfl (lv_room (Nat.le_of_ble_eq_true rfl)) dL_tryPress_2 ⟨Nat.le_of_ble_eq_true rfl, Nat.le_of_ble_eq_true rfl⟩) hP hD hS hA (zz_all _) (fun _ => zz_all _) (fun E ce q9 H locs hE hKn hP hD hS hc hv hcl => ?_) (fun r1 w H locs hq hP hD hS => ?_)
  · rcases (@k_g (nI (hN x)) g : _) with hk | hk
    · exact absurd hk hKn
    · have hE : E = exI := by rw [hE, hk]; rfl
      subst hE
      refine cat1 hown hT rfl (by decide) (hts (.classLink RL 13 exI) (by decide +kernel)) (hX.1.words _ (by decide +kernel)) hc hv hcl ?_
      refine lv_astore_n (lv' := [(2, .ref q9), (0, .ref (b 0)), (1, .int g)]) hx hb dL_tryPress_6 rfl hl (by decide) rfl (fun ls2 hl2 => ?_)
      refine lv_ldc (v := (-9999001)) hx hb hown (hts (.constant RL 15 (-9999001)) (by decide +kernel)) dL_tryPress_7 ?_
      have e9 : aPress (x, M, s0, s1) g = _ := if_neg hKn
      exact hret _ _ H locs _ ((z, f), (ct, L), ((sc, pf, bf), y0), y1, (nw, x), (o0, o1)) dL_tryPress_9 hP hD hS (by rw [e9]; exact ⟨rfl, hR⟩)
  · obtain ⟨hk0, hr0, c2, L2, hm, rfl⟩ := hq
    have e9 : aPress (x, M, s0, s1) g = _ := if_pos hk0
    exact hret _ _ H locs _ _ dL_tryPress_5 hP hD hS (by rw [e9]; exact ⟨hr0, rep_push hR hm⟩)
abbrev rm_L_tryLay : Room := { frames := 7, cells := 10, slots := 51, locals := 125 }
theorem c_L_tryLay (l : Launch) (D : va_G) (cy : Nat → ClassId) (hl0 : l.stackTraces = false) (a : AD) (V9 : AV) (u : BS) (hO : Okv V9) (hR : Rep V9 u) (w9 : Int32) (v : Int32) (sz : Nat) : aMet l yL_tryLay wsL_tryLay rm_L_tryLay D cy a [.int w9, .int v] u sz (fun (r : Int32) (w : BS) => r = (aLay V9 w9 v).1 ∧ Rep (aLay V9 w9 v).2 w) 10 51 := by
  obtain ⟨b, t, pa, se, th, tr⟩ := a
  obtain ⟨⟨z, f⟩, ⟨ct, L⟩, ⟨⟨sc, pf, bf⟩, y0⟩, y1, ⟨nw, x⟩, o0, o1⟩ := u
  obtain ⟨xv, M, s0, s1⟩ := V9
  obtain ⟨hz, hc1, hc2, hM, hxx, hs0, hs1⟩ := id hR
  obtain rfl : x = xv := hxx
  obtain ⟨hn, hg, hok⟩ := OkH.g hO.1
  have hOkx : OkH x := hO.1
  refine MthL (cc := cL_tryLay) (maxL := 4) (hh := [(0, 6, 7, 16)]) (by decide) rfl (Nat.le_of_ble_eq_true rfl) ?_
  intro p e s m args below meth c Q ls A hAe hsz hX0 hT hF hK hP hD hA hl hret
  rw [← hsz, ← hAe] at hX0
  have hX : Gl A s := hX0
  obtain ⟨hx, hb, hml, hown, hts⟩ := id hF
  have hown : s.vm.findClass RL = some m.cls := hown
  have hl : lv_has ls 4 [(0, .ref (b 0)), (1, .int w9), (2, .int v)] := hl
  suffices key : ∀ (H : Heap) (locs : List Loc), va_P D vwCl (guestsW cy b t pa se th tr ((z, f), (ct, L), ((sc, pf, bf), y0), y1, (nw, x), (o0, o1))) H → va_D A (guestsW cy b t pa se th tr ((z, f), (ct, L), ((sc, pf, bf), y0), y1, (nw, x), (o0, o1))) → va_S A s.heap H locs → W p l e rm_L_tryLay s m args below meth c H locs 0 0 Q (F0 m 0 ls []) from key s.heap [] hP hD va_S.rf
  intro H locs hP hD hS
  refine lv_aload_n hx hb dL_tryLay_0 rfl (lv_at hl 0 rfl) ?_
  refine lv_iload_n hx hb dL_tryLay_1 rfl (lv_at hl 1 rfl) ?_
  refine lv_iload_n hx hb dL_tryLay_2 rfl (lv_at hl 2 rfl) ?_
  refine th_i (fun w : BS => guestsW cy b t pa se th tr w) (vx_runV (As := [.int w9, .int v]) (rest := []) hF (c_X7_set l D cy hl0 b t pa se th tr nw z hz f ct L hc1 hc2 sc pf bf y0 y1 x o0 o1 (hN x) hn hg hok w9 v H.size) (cwV 2 hts gL_tryLay_X7_set rfl rfl rfl (by decide +kernel) ⟨Nat.le_of_ble_eq_true rfl, Nat.le_of_ble_eq_true rfl⟩) (wrX_preV hK hP hD (zz_all _) 0 4 rfl rfl rfl Xok_x (fun U hU hW => Gx.at hX.1 hS (zz_free hD (zz_all _) hS hA) hU hW)) rfl rfl hl.1 rfl (lv_room (Nat.le_of_ble_eq_true rfl)) dL_tryLay_3 ⟨Nat.le_of_ble_eq_true rfl, Nat.le_of_ble_eq_true rfl⟩) hP hD hS hA (zz_all _) (fun _ => zz_all _) (fun E ce q9 H locs hE hKn hP hD hS hc hv hcl => ?_) (fun r1 w H locs hq hP hD hS => ?_)
  · rcases (@k_set w9 v : _) with hk | hk
    · exact absurd hk hKn
    · have hE : E = exA := by rw [hE, hk]; rfl
      subst hE
      refine cat1 hown hT rfl (by decide) (hts (.classLink RL 16 exA) (by decide +kernel)) (hX.1.words _ (by decide +kernel)) hc hv hcl ?_
      refine lv_astore_n (lv' := [(3, .ref q9), (0, .ref (b 0)), (1, .int w9), (2, .int v)]) hx hb dL_tryLay_7 rfl hl (by decide) rfl (fun ls2 hl2 => ?_)
      refine lv_ldc (v := (-9999002)) hx hb hown (hts (.constant RL 18 (-9999002)) (by decide +kernel)) dL_tryLay_8 ?_
      have e9 : aLay (x, M, s0, s1) w9 v = _ := if_neg hKn
      exact hret _ _ H locs _ ((z, f), (ct, L), ((sc, pf, bf), y0), y1, (nw, x), (o0, o1)) dL_tryLay_10 hP hD hS (by rw [e9]; exact ⟨rfl, hR⟩)
  · obtain ⟨hk0, hr0, c2, L2, hm, rfl⟩ := hq
    have e9 : aLay (x, M, s0, s1) w9 v = _ := if_pos hk0
    exact hret _ _ H locs _ _ dL_tryLay_6 hP hD hS (by rw [e9]; exact ⟨hr0, rep_push hR hm⟩)
abbrev rm_L_tryUndo : Room := { frames := 7, cells := 1, slots := 6, locals := 123 }
theorem c_L_tryUndo (l : Launch) (D : va_G) (cy : Nat → ClassId) (hl0 : l.stackTraces = false) (a : AD) (v : AV) (u : BS) (hO : Okv v) (hR : Rep v u) (sz : Nat) : aMet l yL_tryUndo wsL_tryUndo rm_L_tryUndo D cy a [] u sz (fun (r : Int32) (w : BS) => r = (aUndo v).1 ∧ Rep (aUndo v).2 w) 1 6 := by
  obtain ⟨b, t, pa, se, th, tr⟩ := a
  obtain ⟨⟨z, f⟩, ⟨ct, L⟩, ⟨⟨sc, pf, bf⟩, y0⟩, y1, ⟨nw, x⟩, o0, o1⟩ := u
  obtain ⟨xv, M, s0, s1⟩ := v
  obtain ⟨hz, hc1, hc2, hM, hxx, hs0, hs1⟩ := id hR
  obtain rfl : x = xv := hxx
  obtain ⟨hn, hg, hok⟩ := OkH.g hO.1
  have hOkx : OkH x := hO.1
  refine MthL (cc := cL_tryUndo) (maxL := 2) (hh := [(0, 4, 5, 19)]) (by decide) rfl (Nat.le_of_ble_eq_true rfl) ?_
  intro p e s m args below meth c Q ls A hAe hsz hX0 hT hF hK hP hD hA hl hret
  rw [← hsz, ← hAe] at hX0
  have hX : Gl A s := hX0
  obtain ⟨hx, hb, hml, hown, hts⟩ := id hF
  have hown : s.vm.findClass RL = some m.cls := hown
  have hl : lv_has ls 2 [(0, .ref (b 0))] := hl
  suffices key : ∀ (H : Heap) (locs : List Loc), va_P D vwCl (guestsW cy b t pa se th tr ((z, f), (ct, L), ((sc, pf, bf), y0), y1, (nw, x), (o0, o1))) H → va_D A (guestsW cy b t pa se th tr ((z, f), (ct, L), ((sc, pf, bf), y0), y1, (nw, x), (o0, o1))) → va_S A s.heap H locs → W p l e rm_L_tryUndo s m args below meth c H locs 0 0 Q (F0 m 0 ls []) from key s.heap [] hP hD va_S.rf
  intro H locs hP hD hS
  refine lv_aload_n hx hb dL_tryUndo_0 rfl (lv_at hl 0 rfl) ?_
  refine th_i (fun w : BS => guestsW cy b t pa se th tr w) (vx_runV (As := []) (rest := []) hF (c_X7_undo l D cy hl0 b t pa se th tr nw z hz f ct L hc1 hc2 sc pf bf y0 y1 x o0 o1 (hN x) hn hg hok H.size) (cwV 0 hts gL_tryUndo_X7_undo rfl rfl rfl (by decide +kernel) ⟨Nat.le_of_ble_eq_true rfl, Nat.le_of_ble_eq_true rfl⟩) (wrX_preV hK hP hD (zz_all _) 0 4 rfl rfl rfl Xok_x (fun U hU hW => Gx.at hX.1 hS (zz_free hD (zz_all _) hS hA) hU hW)) rfl rfl hl.1 rfl (lv_room (Nat.le_of_ble_eq_true rfl)) dL_tryUndo_1 ⟨Nat.le_of_ble_eq_true rfl, Nat.le_of_ble_eq_true rfl⟩) hP hD hS hA (zz_all _) (fun _ => zz_all _) (fun E ce q9 H locs hE hKn hP hD hS hc hv hcl => ?_) (fun r1 w H locs hq hP hD hS => ?_)
  · rcases (@k_undo ct : _) with hk | hk
    · exact absurd hk hKn
    · have hE : E = exS := by rw [hE, hk]; rfl
      subst hE
      refine cat1 hown hT rfl (by decide) (hts (.classLink RL 19 exS) (by decide +kernel)) (hX.1.words _ (by decide +kernel)) hc hv hcl ?_
      refine lv_astore_n (lv' := [(1, .ref q9), (0, .ref (b 0))]) hx hb dL_tryUndo_5 rfl hl (by decide) rfl (fun ls2 hl2 => ?_)
      refine lv_ldc (v := (-9999003)) hx hb hown (hts (.constant RL 21 (-9999003)) (by decide +kernel)) dL_tryUndo_6 ?_
      exact hret _ _ H locs _ ((z, f), (ct, L), ((sc, pf, bf), y0), y1, (nw, x), (o0, o1)) dL_tryUndo_8 hP hD hS (by rw [rep_undo0 hR hk]; exact ⟨rfl, hR⟩)
  · obtain ⟨hk0, hr0, y9, hy, rfl⟩ := hq
    obtain ⟨e1, e2⟩ := rep_undo hR hk0 hy
    exact hret _ _ H locs _ _ dL_tryUndo_4 hP hD hS ⟨hr0.trans e1, e2⟩
abbrev rm_L_tryWhy : Room := { frames := 8, cells := 1, slots := 6, locals := 132 }
theorem c_L_tryWhy (l : Launch) (D : va_G) (cy : Nat → ClassId) (hl0 : l.stackTraces = false) (a : AD) (v : AV) (u : BS) (hO : Okv v) (hR : Rep v u) (g : Int32) (sz : Nat) : aMet l yL_tryWhy wsL_tryWhy rm_L_tryWhy D cy a [.int g] u sz (fun (r : Int32) (w : BS) => r = qWh v g ∧ Rep v w) 1 6 := by
  obtain ⟨b, t, pa, se, th, tr⟩ := a
  obtain ⟨⟨z, f⟩, ⟨ct, L⟩, ⟨⟨sc, pf, bf⟩, y0⟩, y1, ⟨nw, x⟩, o0, o1⟩ := u
  obtain ⟨xv, M, s0, s1⟩ := v
  obtain ⟨hz, hc1, hc2, hM, hxx, hs0, hs1⟩ := id hR
  obtain rfl : x = xv := hxx
  obtain ⟨hn, hg, hok⟩ := OkH.g hO.1
  have hOkx : OkH x := hO.1
  refine MthL (cc := cL_tryWhy) (maxL := 3) (hh := [(0, 5, 6, 13)]) (by decide) rfl (Nat.le_of_ble_eq_true rfl) ?_
  intro p e s m args below meth c Q ls A hAe hsz hX0 hT hF hK hP hD hA hl hret
  rw [← hsz, ← hAe] at hX0
  have hX : Gl A s := hX0
  obtain ⟨hx, hb, hml, hown, hts⟩ := id hF
  have hown : s.vm.findClass RL = some m.cls := hown
  have hl : lv_has ls 3 [(0, .ref (b 0)), (1, .int g)] := hl
  suffices key : ∀ (H : Heap) (locs : List Loc), va_P D vwCl (guestsW cy b t pa se th tr ((z, f), (ct, L), ((sc, pf, bf), y0), y1, (nw, x), (o0, o1))) H → va_D A (guestsW cy b t pa se th tr ((z, f), (ct, L), ((sc, pf, bf), y0), y1, (nw, x), (o0, o1))) → va_S A s.heap H locs → W p l e rm_L_tryWhy s m args below meth c H locs 0 0 Q (F0 m 0 ls []) from key s.heap [] hP hD va_S.rf
  intro H locs hP hD hS
  refine lv_aload_n hx hb dL_tryWhy_0 rfl (lv_at hl 0 rfl) ?_
  refine lv_iload_n hx hb dL_tryWhy_1 rfl (lv_at hl 1 rfl) ?_
  refine th_i (fun w : BS => guestsW cy b t pa se th tr w) (vx_runV (As := [.int g]) (rest := []) hF (c_X7_why l D cy hl0 b t pa se th tr nw z hz f ct L hc1 hc2 sc pf bf y0 y1 x o0 o1 (hN x) hn hg hok g H.size) (cwV 1 hts gL_tryWhy_X7_why rfl rfl rfl (by decide +kernel) ⟨Nat.le_of_ble_eq_true rfl, Nat.le_of_ble_eq_true rfl⟩) (wrX_preV hK hP hD (zz_all _) 0 4 rfl rfl rfl Xok_x (fun U hU hW => Gx.at hX.1 hS (zz_free hD (zz_all _) hS hA) hU hW)) rfl rfl hl.1 rfl (lv_room (Nat.le_of_ble_eq_true rfl)) dL_tryWhy_2 ⟨Nat.le_of_ble_eq_true rfl, Nat.le_of_ble_eq_true rfl⟩) hP hD hS hA (zz_all _) (fun _ => zz_all _) (fun E ce q9 H locs hE hKn hP hD hS hc hv hcl => ?_) (fun r1 w H locs hq hP hD hS => ?_)
  · rcases (@k_g (nI (hN x)) g : _) with hk | hk
    · exact absurd hk hKn
    · have hE : E = exI := by rw [hE, hk]; rfl
      subst hE
      refine cat1 hown hT rfl (by decide) (hts (.classLink RL 13 exI) (by decide +kernel)) (hX.1.words _ (by decide +kernel)) hc hv hcl ?_
      refine lv_astore_n (lv' := [(2, .ref q9), (0, .ref (b 0)), (1, .int g)]) hx hb dL_tryWhy_6 rfl hl (by decide) rfl (fun ls2 hl2 => ?_)
      refine lv_ldc (v := (-9999001)) hx hb hown (hts (.constant RL 15 (-9999001)) (by decide +kernel)) dL_tryWhy_7 ?_
      exact hret _ _ H locs _ ((z, f), (ct, L), ((sc, pf, bf), y0), y1, (nw, x), (o0, o1)) dL_tryWhy_9 hP hD hS ⟨by unfold qWh; rw [if_neg hKn], hR⟩
  · obtain ⟨hk0, hr0, rfl⟩ := hq
    exact hret _ _ H locs _ _ dL_tryWhy_5 hP hD hS ⟨by unfold qWh; rw [if_pos hk0]; exact hr0, rep_rd hR⟩
abbrev rm_L_tryFewest : Room := { frames := 12, cells := 1, slots := 6, locals := 271 }
theorem c_L_tryFewest (l : Launch) (D : va_G) (cy : Nat → ClassId) (hl0 : l.stackTraces = false) (a : AD) (V9 : AV) (u : BS) (hO : Okv V9) (hR : Rep V9 u) (v : Int32) (sz : Nat) : aMet l yL_tryFewest wsL_tryFewest rm_L_tryFewest D cy a [.int v] u sz (fun (r : Int32) (w : BS) => r = qFe V9 v ∧ Rep V9 w) 1 6 := by
  obtain ⟨b, t, pa, se, th, tr⟩ := a
  obtain ⟨⟨z, f⟩, ⟨ct, L⟩, ⟨⟨sc, pf, bf⟩, y0⟩, y1, ⟨nw, x⟩, o0, o1⟩ := u
  obtain ⟨xv, M, s0, s1⟩ := V9
  obtain ⟨hz, hc1, hc2, hM, hxx, hs0, hs1⟩ := id hR
  obtain rfl : x = xv := hxx
  obtain ⟨hn, hg, hok⟩ := OkH.g hO.1
  have hOkx : OkH x := hO.1
  refine MthL (cc := cL_tryFewest) (maxL := 3) (hh := [(0, 5, 6, 16)]) (by decide) rfl (Nat.le_of_ble_eq_true rfl) ?_
  intro p e s m args below meth c Q ls A hAe hsz hX0 hT hF hK hP hD hA hl hret
  rw [← hsz, ← hAe] at hX0
  have hX : Gl A s := hX0
  obtain ⟨hx, hb, hml, hown, hts⟩ := id hF
  have hown : s.vm.findClass RL = some m.cls := hown
  have hl : lv_has ls 3 [(0, .ref (b 0)), (1, .int v)] := hl
  suffices key : ∀ (H : Heap) (locs : List Loc), va_P D vwCl (guestsW cy b t pa se th tr ((z, f), (ct, L), ((sc, pf, bf), y0), y1, (nw, x), (o0, o1))) H → va_D A (guestsW cy b t pa se th tr ((z, f), (ct, L), ((sc, pf, bf), y0), y1, (nw, x), (o0, o1))) → va_S A s.heap H locs → W p l e rm_L_tryFewest s m args below meth c H locs 0 0 Q (F0 m 0 ls []) from key s.heap [] hP hD va_S.rf
  intro H locs hP hD hS
  refine lv_aload_n hx hb dL_tryFewest_0 rfl (lv_at hl 0 rfl) ?_
  refine lv_iload_n hx hb dL_tryFewest_1 rfl (lv_at hl 1 rfl) ?_
  refine th_i (fun w : BS => guestsW cy b t pa se th tr w) (vx_runV (As := [.int v]) (rest := []) hF (c_X7_fewest l D cy hl0 b t pa se th tr nw z hz f ct L hc1 hc2 sc pf bf y0 y1 x o0 o1 (hN x) hn hg hok v H.size) (cwV 1 hts gL_tryFewest_X7_fewest rfl rfl rfl (by decide +kernel) ⟨Nat.le_of_ble_eq_true rfl, Nat.le_of_ble_eq_true rfl⟩) (wrX_preV hK hP hD (zz_all _) 0 4 rfl rfl rfl Xok_x (fun U hU hW => Gx.at hX.1 hS (zz_free hD (zz_all _) hS hA) hU hW)) rfl rfl hl.1 rfl (lv_room (Nat.le_of_ble_eq_true rfl)) dL_tryFewest_2 ⟨Nat.le_of_ble_eq_true rfl, Nat.le_of_ble_eq_true rfl⟩) hP hD hS hA (zz_all _) (fun _ => zz_all _) (fun E ce q9 H locs hE hKn hP hD hS hc hv hcl => ?_) (fun r1 w H locs hq hP hD hS => ?_)
  · rcases (@k_few v : _) with hk | hk
    · exact absurd hk hKn
    · have hE : E = exA := by rw [hE, hk]; rfl
      subst hE
      refine cat1 hown hT rfl (by decide) (hts (.classLink RL 16 exA) (by decide +kernel)) (hX.1.words _ (by decide +kernel)) hc hv hcl ?_
      refine lv_astore_n (lv' := [(2, .ref q9), (0, .ref (b 0)), (1, .int v)]) hx hb dL_tryFewest_6 rfl hl (by decide) rfl (fun ls2 hl2 => ?_)
      refine lv_ldc (v := (-9999002)) hx hb hown (hts (.constant RL 18 (-9999002)) (by decide +kernel)) dL_tryFewest_7 ?_
      exact hret _ _ H locs _ ((z, f), (ct, L), ((sc, pf, bf), y0), y1, (nw, x), (o0, o1)) dL_tryFewest_9 hP hD hS ⟨by unfold qFe; rw [if_neg hKn], hR⟩
  · obtain ⟨hk0, hr0, q8, rfl⟩ := hq
    exact hret _ _ H locs _ _ dL_tryFewest_5 hP hD hS ⟨by unfold qFe; rw [if_pos hk0]; exact hr0, rep_rd hR⟩
abbrev rm_L_tryIf : Room := { frames := 7, cells := 1, slots := 6, locals := 114 }
theorem c_L_tryIf (l : Launch) (D : va_G) (cy : Nat → ClassId) (hl0 : l.stackTraces = false) (a : AD) (V9 : AV) (u : BS) (hO : Okv V9) (hR : Rep V9 u) (v : Int32) (row9 : Int32) (what : Int32) (sz : Nat) : aMet l yL_tryIf wsL_tryIf rm_L_tryIf D cy a [.int v, .int row9, .int what] u sz (fun (r : Int32) (w : BS) => r = qIf V9 v row9 what ∧ Rep V9 w) 1 6 := by
  obtain ⟨b, t, pa, se, th, tr⟩ := a
  obtain ⟨⟨z, f⟩, ⟨ct, L⟩, ⟨⟨sc, pf, bf⟩, y0⟩, y1, ⟨nw, x⟩, o0, o1⟩ := u
  obtain ⟨xv, M, s0, s1⟩ := V9
  obtain ⟨hz, hc1, hc2, hM, hxx, hs0, hs1⟩ := id hR
  obtain rfl : x = xv := hxx
  obtain ⟨hn, hg, hok⟩ := OkH.g hO.1
  have hOkx : OkH x := hO.1
  refine MthL (cc := cL_tryIf) (maxL := 5) (hh := [(0, 7, 8, 16)]) (by decide) rfl (Nat.le_of_ble_eq_true rfl) ?_
  intro p e s m args below meth c Q ls A hAe hsz hX0 hT hF hK hP hD hA hl hret
  rw [← hsz, ← hAe] at hX0
  have hX : Gl A s := hX0
  obtain ⟨hx, hb, hml, hown, hts⟩ := id hF
  have hown : s.vm.findClass RL = some m.cls := hown
  have hl : lv_has ls 5 [(0, .ref (b 0)), (1, .int v), (2, .int row9), (3, .int what)] := hl
  suffices key : ∀ (H : Heap) (locs : List Loc), va_P D vwCl (guestsW cy b t pa se th tr ((z, f), (ct, L), ((sc, pf, bf), y0), y1, (nw, x), (o0, o1))) H → va_D A (guestsW cy b t pa se th tr ((z, f), (ct, L), ((sc, pf, bf), y0), y1, (nw, x), (o0, o1))) → va_S A s.heap H locs → W p l e rm_L_tryIf s m args below meth c H locs 0 0 Q (F0 m 0 ls []) from key s.heap [] hP hD va_S.rf
  intro H locs hP hD hS
  refine lv_aload_n hx hb dL_tryIf_0 rfl (lv_at hl 0 rfl) ?_
  refine lv_iload_n hx hb dL_tryIf_1 rfl (lv_at hl 1 rfl) ?_
  refine lv_iload_n hx hb dL_tryIf_2 rfl (lv_at hl 2 rfl) ?_
  refine lv_iload_n hx hb dL_tryIf_3 rfl (lv_at hl 3 rfl) ?_
  refine th_i (fun w : BS => guestsW cy b t pa se th tr w) (vx_runV (As := [.int v, .int row9, .int what]) (rest := []) hF (c_X7_ifPressed l D cy hl0 b t pa se th tr nw z hz f ct L hc1 hc2 sc pf bf y0 y1 x o0 o1 (hN x) hn hg hok v row9 what H.size) (cwV 3 hts gL_tryIf_X7_ifPressed rfl rfl rfl (by decide +kernel) ⟨Nat.le_of_ble_eq_true rfl, Nat.le_of_ble_eq_true rfl⟩) (wrX_preV hK hP hD (zz_all _) 0 4 rfl rfl rfl Xok_x (fun U hU hW => Gx.at hX.1 hS (zz_free hD (zz_all _) hS hA) hU hW)) rfl rfl hl.1 rfl (lv_room (Nat.le_of_ble_eq_true rfl)) dL_tryIf_4 ⟨Nat.le_of_ble_eq_true rfl, Nat.le_of_ble_eq_true rfl⟩) hP hD hS hA (zz_all _) (fun _ => zz_all _) (fun E ce q9 H locs hE hKn hP hD hS hc hv hcl => ?_) (fun r1 w H locs hq hP hD hS => ?_)
  · rcases (@k_ifp v row9 what : _) with hk | hk
    · exact absurd hk hKn
    · have hE : E = exA := by rw [hE, hk]; rfl
      subst hE
      refine cat1 hown hT rfl (by decide) (hts (.classLink RL 16 exA) (by decide +kernel)) (hX.1.words _ (by decide +kernel)) hc hv hcl ?_
      refine lv_astore (lv' := [(4, .ref q9), (0, .ref (b 0)), (1, .int v), (2, .int row9), (3, .int what)]) hx hb dL_tryIf_8 hl (by decide) rfl (fun ls2 hl2 => ?_)
      refine lv_ldc (v := (-9999002)) hx hb hown (hts (.constant RL 18 (-9999002)) (by decide +kernel)) dL_tryIf_10 ?_
      exact hret _ _ H locs _ ((z, f), (ct, L), ((sc, pf, bf), y0), y1, (nw, x), (o0, o1)) dL_tryIf_12 hP hD hS ⟨by unfold qIf; rw [if_neg hKn], hR⟩
  · obtain ⟨hk0, hr0, q8, rfl⟩ := hq
    exact hret _ _ H locs _ _ dL_tryIf_7 hP hD hS ⟨by unfold qIf; rw [if_pos hk0]; exact hr0, rep_rd hR⟩
abbrev rm_L_tryLeft : Room := { frames := 8, cells := 1, slots := 6, locals := 132 }
theorem c_L_tryLeft (l : Launch) (D : va_G) (cy : Nat → ClassId) (hl0 : l.stackTraces = false) (a : AD) (v : AV) (u : BS) (hO : Okv v) (hR : Rep v u) (g : Int32) (sz : Nat) : aMet l yL_tryLeft wsL_tryLeft rm_L_tryLeft D cy a [.int g] u sz (fun (r : Int32) (w : BS) => r = qLe v g ∧ Rep v w) 1 6 := by
  obtain ⟨b, t, pa, se, th, tr⟩ := a
  obtain ⟨⟨z, f⟩, ⟨ct, L⟩, ⟨⟨sc, pf, bf⟩, y0⟩, y1, ⟨nw, x⟩, o0, o1⟩ := u
  obtain ⟨xv, M, s0, s1⟩ := v
  obtain ⟨hz, hc1, hc2, hM, hxx, hs0, hs1⟩ := id hR
  obtain rfl : x = xv := hxx
  obtain ⟨hn, hg, hok⟩ := OkH.g hO.1
  have hOkx : OkH x := hO.1
  refine MthL (cc := cL_tryLeft) (maxL := 3) (hh := [(0, 5, 6, 13)]) (by decide) rfl (Nat.le_of_ble_eq_true rfl) ?_
  intro p e s m args below meth c Q ls A hAe hsz hX0 hT hF hK hP hD hA hl hret
  rw [← hsz, ← hAe] at hX0
  have hX : Gl A s := hX0
  obtain ⟨hx, hb, hml, hown, hts⟩ := id hF
  have hown : s.vm.findClass RL = some m.cls := hown
  have hl : lv_has ls 3 [(0, .ref (b 0)), (1, .int g)] := hl
  suffices key : ∀ (H : Heap) (locs : List Loc), va_P D vwCl (guestsW cy b t pa se th tr ((z, f), (ct, L), ((sc, pf, bf), y0), y1, (nw, x), (o0, o1))) H → va_D A (guestsW cy b t pa se th tr ((z, f), (ct, L), ((sc, pf, bf), y0), y1, (nw, x), (o0, o1))) → va_S A s.heap H locs → W p l e rm_L_tryLeft s m args below meth c H locs 0 0 Q (F0 m 0 ls []) from key s.heap [] hP hD va_S.rf
  intro H locs hP hD hS
  refine lv_aload_n hx hb dL_tryLeft_0 rfl (lv_at hl 0 rfl) ?_
  refine lv_iload_n hx hb dL_tryLeft_1 rfl (lv_at hl 1 rfl) ?_
  refine th_i (fun w : BS => guestsW cy b t pa se th tr w) (vx_runV (As := [.int g]) (rest := []) hF (c_X7_leftStanding l D cy hl0 b t pa se th tr nw z hz f ct L hc1 hc2 sc pf bf y0 y1 x o0 o1 (hN x) hn hg hok g H.size) (cwV 1 hts gL_tryLeft_X7_leftStanding rfl rfl rfl (by decide +kernel) ⟨Nat.le_of_ble_eq_true rfl, Nat.le_of_ble_eq_true rfl⟩) (wrX_preV hK hP hD (zz_all _) 0 4 rfl rfl rfl Xok_x (fun U hU hW => Gx.at hX.1 hS (zz_free hD (zz_all _) hS hA) hU hW)) rfl rfl hl.1 rfl (lv_room (Nat.le_of_ble_eq_true rfl)) dL_tryLeft_2 ⟨Nat.le_of_ble_eq_true rfl, Nat.le_of_ble_eq_true rfl⟩) hP hD hS hA (zz_all _) (fun _ => zz_all _) (fun E ce q9 H locs hE hKn hP hD hS hc hv hcl => ?_) (fun r1 w H locs hq hP hD hS => ?_)
  · rcases (@k_g (nI (hN x)) g : _) with hk | hk
    · exact absurd hk hKn
    · have hE : E = exI := by rw [hE, hk]; rfl
      subst hE
      refine cat1 hown hT rfl (by decide) (hts (.classLink RL 13 exI) (by decide +kernel)) (hX.1.words _ (by decide +kernel)) hc hv hcl ?_
      refine lv_astore_n (lv' := [(2, .ref q9), (0, .ref (b 0)), (1, .int g)]) hx hb dL_tryLeft_6 rfl hl (by decide) rfl (fun ls2 hl2 => ?_)
      refine lv_ldc (v := (-9999001)) hx hb hown (hts (.constant RL 15 (-9999001)) (by decide +kernel)) dL_tryLeft_7 ?_
      exact hret _ _ H locs _ ((z, f), (ct, L), ((sc, pf, bf), y0), y1, (nw, x), (o0, o1)) dL_tryLeft_9 hP hD hS ⟨by unfold qLe; rw [if_neg hKn], hR⟩
  · obtain ⟨hk0, hr0, rfl⟩ := hq
    exact hret _ _ H locs _ _ dL_tryLeft_5 hP hD hS ⟨by unfold qLe; rw [if_pos hk0]; exact hr0, rep_rd hR⟩
abbrev rm_L_tryKeep : Room := { frames := 8, cells := 11, slots := 57, locals := 133 }
theorem c_L_tryKeep (l : Launch) (D : va_G) (cy : Nat → ClassId) (hl0 : l.stackTraces = false) (a : AD) (V9 : AV) (u : BS) (hO : Okv V9) (hR : Rep V9 u) (v : Int32) (sz : Nat) : aMet l yL_tryKeep wsL_tryKeep rm_L_tryKeep D cy a [.int v] u sz (fun (r : Int32) (w : BS) => r = (aKeep V9 v).1 ∧ Rep (aKeep V9 v).2 w) 11 57 := by
  obtain ⟨b, t, pa, se, th, tr⟩ := a
  obtain ⟨⟨z, f⟩, ⟨ct, L⟩, ⟨⟨sc, pf, bf⟩, y0⟩, y1, ⟨nw, x⟩, o0, o1⟩ := u
  obtain ⟨xv, M, s0, s1⟩ := V9
  obtain ⟨hz, hc1, hc2, hM, hxx, hs0, hs1⟩ := id hR
  obtain rfl : x = xv := hxx
  obtain ⟨hn, hg, hok⟩ := OkH.g hO.1
  have hOkx : OkH x := hO.1
  refine MthL (cc := cL_tryKeep) (maxL := 3) (hh := [(0, 5, 6, 13)]) (by decide) rfl (Nat.le_of_ble_eq_true rfl) ?_
  intro p e s m args below meth c Q ls A hAe hsz hX0 hT hF hK hP hD hA hl hret
  rw [← hsz, ← hAe] at hX0
  have hX : Gl A s := hX0
  obtain ⟨hx, hb, hml, hown, hts⟩ := id hF
  have hown : s.vm.findClass RL = some m.cls := hown
  have hl : lv_has ls 3 [(0, .ref (b 0)), (1, .int v)] := hl
  suffices key : ∀ (H : Heap) (locs : List Loc), va_P D vwCl (guestsW cy b t pa se th tr ((z, f), (ct, L), ((sc, pf, bf), y0), y1, (nw, x), (o0, o1))) H → va_D A (guestsW cy b t pa se th tr ((z, f), (ct, L), ((sc, pf, bf), y0), y1, (nw, x), (o0, o1))) → va_S A s.heap H locs → W p l e rm_L_tryKeep s m args below meth c H locs 0 0 Q (F0 m 0 ls []) from key s.heap [] hP hD va_S.rf
  intro H locs hP hD hS
  refine lv_aload_n hx hb dL_tryKeep_0 rfl (lv_at hl 0 rfl) ?_
  refine lv_iload_n hx hb dL_tryKeep_1 rfl (lv_at hl 1 rfl) ?_
  refine th_i (fun w : BS => guestsW cy b t pa se th tr w) (vx_runV (As := [.int v]) (rest := []) hF (c_X7_save l D cy hl0 b t pa se th tr nw z hz f ct L hc1 hc2 sc pf bf y0 y1 x o0 o1 (hN x) hn hg hok v H.size) (cwV 1 hts gL_tryKeep_X7_save rfl rfl rfl (by decide +kernel) ⟨Nat.le_of_ble_eq_true rfl, Nat.le_of_ble_eq_true rfl⟩) (wrX_preV hK hP hD (zz_all _) 0 4 rfl rfl rfl Xok_x (fun U hU hW => Gx.at hX.1 hS (zz_free hD (zz_all _) hS hA) hU hW)) rfl rfl hl.1 rfl (lv_room (Nat.le_of_ble_eq_true rfl)) dL_tryKeep_2 ⟨Nat.le_of_ble_eq_true rfl, Nat.le_of_ble_eq_true rfl⟩) hP hD hS hA (zz_all _) (fun _ => zz_all _) (fun E ce q9 H locs hE hKn hP hD hS hc hv hcl => ?_) (fun r1 w H locs hq hP hD hS => ?_)
  · rcases (@k_save v : _) with hk | hk
    · exact absurd hk hKn
    · have hE : E = exI := by rw [hE, hk]; rfl
      subst hE
      refine cat1 hown hT rfl (by decide) (hts (.classLink RL 13 exI) (by decide +kernel)) (hX.1.words _ (by decide +kernel)) hc hv hcl ?_
      refine lv_astore_n (lv' := [(2, .ref q9), (0, .ref (b 0)), (1, .int v)]) hx hb dL_tryKeep_6 rfl hl (by decide) rfl (fun ls2 hl2 => ?_)
      refine lv_ldc (v := (-9999001)) hx hb hown (hts (.constant RL 15 (-9999001)) (by decide +kernel)) dL_tryKeep_7 ?_
      have e9 : aKeep (x, M, s0, s1) v = _ := if_neg hKn
      exact hret _ _ H locs _ ((z, f), (ct, L), ((sc, pf, bf), y0), y1, (nw, x), (o0, o1)) dL_tryKeep_9 hP hD hS (by rw [e9]; exact ⟨rfl, hR⟩)
  · obtain ⟨hk0, hr0, qa, hqa, hw⟩ := hq
    obtain ⟨e1, e2⟩ := rep_save hR hk0 hqa
    exact hret _ _ H locs _ _ dL_tryKeep_5 hP hD hS ⟨hr0.trans e1, by rw [hw]; exact e2⟩
abbrev rm_L_tryBack : Room := { frames := 8, cells := 2, slots := 12, locals := 133 }
theorem c_L_tryBack (l : Launch) (D : va_G) (cy : Nat → ClassId) (hl0 : l.stackTraces = false) (a : AD) (V9 : AV) (u : BS) (hO : Okv V9) (hR : Rep V9 u) (v : Int32) (sz : Nat) : aMet l yL_tryBack wsL_tryBack rm_L_tryBack D cy a [.int v] u sz (fun (r : Int32) (w : BS) => r = (aBack V9 v).1 ∧ Rep (aBack V9 v).2 w) 2 12 := by
  obtain ⟨b, t, pa, se, th, tr⟩ := a
  obtain ⟨⟨z, f⟩, ⟨ct, L⟩, ⟨⟨sc, pf, bf⟩, y0⟩, y1, ⟨nw, x⟩, o0, o1⟩ := u
  obtain ⟨xv, M, s0, s1⟩ := V9
  obtain ⟨hz, hc1, hc2, hM, hxx, hs0, hs1⟩ := id hR
  obtain rfl : x = xv := hxx
  obtain ⟨hn, hg, hok⟩ := OkH.g hO.1
  have hOkx : OkH x := hO.1
  have hs0 : ∀ q, o0 = some q → OkH q.2 := fun q h => hO.2.1 q.2 (by rw [← (show o0.map (fun q => q.2) = s0 from hs0), h]; rfl)
  have hs1 : ∀ q, o1 = some q → OkH q.2 := fun q h => hO.2.2 q.2 (by rw [← (show o1.map (fun q => q.2) = s1 from hs1), h]; rfl)
  refine MthL (cc := cL_tryBack) (maxL := 3) (hh := [(0, 5, 6, 13), (0, 5, 10, 19)]) (by decide) rfl (Nat.le_of_ble_eq_true rfl) ?_
  intro p e s m args below meth c Q ls A hAe hsz hX0 hT hF hK hP hD hA hl hret
  rw [← hsz, ← hAe] at hX0
  have hX : Gl A s := hX0
  obtain ⟨hx, hb, hml, hown, hts⟩ := id hF
  have hown : s.vm.findClass RL = some m.cls := hown
  have hl : lv_has ls 3 [(0, .ref (b 0)), (1, .int v)] := hl
  suffices key : ∀ (H : Heap) (locs : List Loc), va_P D vwCl (guestsW cy b t pa se th tr ((z, f), (ct, L), ((sc, pf, bf), y0), y1, (nw, x), (o0, o1))) H → va_D A (guestsW cy b t pa se th tr ((z, f), (ct, L), ((sc, pf, bf), y0), y1, (nw, x), (o0, o1))) → va_S A s.heap H locs → W p l e rm_L_tryBack s m args below meth c H locs 0 0 Q (F0 m 0 ls []) from key s.heap [] hP hD va_S.rf
  intro H locs hP hD hS
  refine lv_aload_n hx hb dL_tryBack_0 rfl (lv_at hl 0 rfl) ?_
  refine lv_iload_n hx hb dL_tryBack_1 rfl (lv_at hl 1 rfl) ?_
  refine th_i (fun w : BS => guestsW cy b t pa se th tr w) (vx_runV (As := [.int v]) (rest := []) hF (c_X7_restore l D cy hl0 b t pa se th tr nw z hz f ct L hc1 hc2 sc pf bf y0 y1 x o0 o1 (hN x) hn hg hok hs0 hs1 v H.size) (cwV 1 hts gL_tryBack_X7_restore rfl rfl rfl (by decide +kernel) ⟨Nat.le_of_ble_eq_true rfl, Nat.le_of_ble_eq_true rfl⟩) (wrX_preV hK hP hD (zz_all _) 0 4 rfl rfl rfl Xok_x (fun U hU hW => Gx.at hX.1 hS (zz_free hD (zz_all _) hS hA) hU hW)) rfl rfl hl.1 rfl (lv_room (Nat.le_of_ble_eq_true rfl)) dL_tryBack_2 ⟨Nat.le_of_ble_eq_true rfl, Nat.le_of_ble_eq_true rfl⟩) hP hD hS hA (zz_all _) (fun _ => zz_all _) (fun E ce q9 H locs hE hKn hP hD hS hc hv hcl => ?_) (fun r1 w H locs hq hP hD hS => ?_)
  · rcases (@k_rst o0 o1 v : _) with hk | hk | hk
    · exact absurd hk hKn
    · have hE : E = exI := by rw [hE, hk]; rfl
      subst hE
      refine cat1 hown hT rfl (by decide) (hts (.classLink RL 13 exI) (by decide +kernel)) (hX.1.words _ (by decide +kernel)) hc hv hcl ?_
      refine lv_astore_n (lv' := [(2, .ref q9), (0, .ref (b 0)), (1, .int v)]) hx hb dL_tryBack_6 rfl hl (by decide) rfl (fun ls2 hl2 => ?_)
      refine lv_ldc (v := (-9999001)) hx hb hown (hts (.constant RL 15 (-9999001)) (by decide +kernel)) dL_tryBack_7 ?_
      exact hret _ _ H locs _ ((z, f), (ct, L), ((sc, pf, bf), y0), y1, (nw, x), (o0, o1)) dL_tryBack_9 hP hD hS (by rw [rep_back1 hk]; exact ⟨rfl, hR⟩)
    · have hE : E = exS := by rw [hE, hk]; rfl
      subst hE
      refine cat2 hown hT rfl (by decide) (by decide) (hts (.classLink RL 13 exI) (by decide +kernel)) (hX.2.2.2.2.2.2) (hts (.classLink RL 19 exS) (by decide +kernel)) (hX.1.words _ (by decide +kernel)) hc hv hcl ?_
      refine lv_astore_n (lv' := [(2, .ref q9), (0, .ref (b 0)), (1, .int v)]) hx hb dL_tryBack_10 rfl hl (by decide) rfl (fun ls2 hl2 => ?_)
      refine lv_ldc (v := (-9999003)) hx hb hown (hts (.constant RL 21 (-9999003)) (by decide +kernel)) dL_tryBack_11 ?_
      exact hret _ _ H locs _ ((z, f), (ct, L), ((sc, pf, bf), y0), y1, (nw, x), (o0, o1)) dL_tryBack_13 hP hD hS (by rw [rep_back2 hR hk]; exact ⟨rfl, hR⟩)
  · obtain ⟨hk0, q8, hq9, hr0, rfl⟩ := hq
    obtain ⟨e1, e2⟩ := rep_back hR hk0 hq9
    exact hret _ _ H locs _ _ dL_tryBack_5 hP hD hS ⟨hr0.trans e1, e2⟩
