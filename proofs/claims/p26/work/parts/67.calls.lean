abbrev rm_L_call : Room := { frames := 13, cells := 11, slots := 57, locals := 293 }
abbrev rm_L_call0 : Room := { frames := 13, cells := 1, slots := 6, locals := 293 }
theorem c_L_call_0 (l : Launch) (D : va_G) (cy : Nat → ClassId) (hl0 : l.stackTraces = false) (a : AD) (v : AV) (u : BS) (hO : Okv v) (hR : Rep v u) (q1 q2 q3 : Int32) (hne : ¬ inL q1.toInt64 0 255) (sz : Nat) : aMet l yL_call wsL_call rm_L_call0 D cy a [.int 0, .int q1, .int q2, .int q3] u sz (fun (r : Int32) (w : BS) => r = cA ∧ Rep v w) 1 6 := by
  refine MwiX (cc := cL_call) (maxL := 5) (ty := .int) (by decide) rfl (Nat.le_of_ble_eq_true rfl) (fun _ _ _ => rfl) ?_
  intro p e s m args below meth c Q ls A hAe hsz hX0 hF hK hP hD hA hl hret
  rw [← hsz, ← hAe] at hX0
  have hX : Gl A s := hX0
  obtain ⟨hx, hb, hml, hown, hts⟩ := id hF
  have hl : lv_has ls 5 [(0, .ref (aO a)), (1, .int 0), (2, .int q1), (3, .int q2), (4, .int q3)] := hl
  suffices key : ∀ (H : Heap) (locs : List Loc), va_P D vwCl (gW cy a u) H → va_D A (gW cy a u) → va_S A s.heap H locs → W p l e rm_L_call0 s m args below meth c H locs 0 0 Q (F0 m 0 ls []) from key s.heap [] hP hD va_S.rf
  intro H locs hP hD hS
  refine lv_iload_n hx hb dL_call_0 rfl (lv_at hl 1 rfl) ?_
  refine lv_tableIn (x := 0) (off := 75) (tgt := 76) hx hb dL_call_1 (by decide) (by decide) (by decide) (by decide) ?_
  refine lv_aload_n hx hb dL_call_76 rfl (lv_at hl 0 rfl) ?_
  refine lv_iload_n hx hb dL_call_77 rfl (lv_at hl 2 rfl) ?_
  refine wr_i (fun w : BS => gW cy a w) (vx_runSW (As := [.ref (aO a), .int q1]) (rest := []) hF (c_L_tryAppend l D cy hl0 a v u hO hR q1 hne H.size) (vx_cwSW 2 hts gL_call_L_tryAppend rfl rfl rfl (by decide +kernel) ⟨Nat.le_of_ble_eq_true rfl, Nat.le_of_ble_eq_true rfl⟩) (wrX_preS hK hP hD (zz_all _) Xok_l (fun U hU hW => Gl.at hX hS (zz_free hD (zz_all _) hS hA) hU hW)) rfl rfl hl.1 rfl (lv_room (Nat.le_of_ble_eq_true rfl)) dL_call_78 ⟨Nat.le_of_ble_eq_true rfl, Nat.le_of_ble_eq_true rfl⟩) hP hD hS hA (zz_all _) (fun _ => zz_all _) (fun r w H locs hq hP hD hS => ?_)
  exact hret _ _ H locs r w dL_call_81 hP hD hS hq
abbrev rm_L_call2 : Room := { frames := 13, cells := 1, slots := 6, locals := 293 }
theorem c_L_call_2 (l : Launch) (D : va_G) (cy : Nat → ClassId) (hl0 : l.stackTraces = false) (a : AD) (v : AV) (u : BS) (hO : Okv v) (hR : Rep v u) (q1 q2 q3 : Int32) (sz : Nat) : aMet l yL_call wsL_call rm_L_call2 D cy a [.int 2, .int q1, .int q2, .int q3] u sz (fun (r : Int32) (w : BS) => r = qAb v q1 ∧ Rep v w) 1 6 := by
  refine MwiX (cc := cL_call) (maxL := 5) (ty := .int) (by decide) rfl (Nat.le_of_ble_eq_true rfl) (fun _ _ _ => rfl) ?_
  intro p e s m args below meth c Q ls A hAe hsz hX0 hF hK hP hD hA hl hret
  rw [← hsz, ← hAe] at hX0
  have hX : Gl A s := hX0
  obtain ⟨hx, hb, hml, hown, hts⟩ := id hF
  have hl : lv_has ls 5 [(0, .ref (aO a)), (1, .int 2), (2, .int q1), (3, .int q2), (4, .int q3)] := hl
  suffices key : ∀ (H : Heap) (locs : List Loc), va_P D vwCl (gW cy a u) H → va_D A (gW cy a u) → va_S A s.heap H locs → W p l e rm_L_call2 s m args below meth c H locs 0 0 Q (F0 m 0 ls []) from key s.heap [] hP hD va_S.rf
  intro H locs hP hD hS
  refine lv_iload_n hx hb dL_call_0 rfl (lv_at hl 1 rfl) ?_
  refine lv_tableIn (x := 2) (off := 86) (tgt := 87) hx hb dL_call_1 (by decide) (by decide) (by decide) (by decide) ?_
  refine lv_aload_n hx hb dL_call_87 rfl (lv_at hl 0 rfl) ?_
  refine lv_iload_n hx hb dL_call_88 rfl (lv_at hl 2 rfl) ?_
  refine wr_i (fun w : BS => gW cy a w) (vx_runSW (As := [.ref (aO a), .int q1]) (rest := []) hF (c_L_tryAbout l D cy hl0 a v u hO hR q1 H.size) (vx_cwSW 2 hts gL_call_L_tryAbout rfl rfl rfl (by decide +kernel) ⟨Nat.le_of_ble_eq_true rfl, Nat.le_of_ble_eq_true rfl⟩) (wrX_preS hK hP hD (zz_all _) Xok_l (fun U hU hW => Gl.at hX hS (zz_free hD (zz_all _) hS hA) hU hW)) rfl rfl hl.1 rfl (lv_room (Nat.le_of_ble_eq_true rfl)) dL_call_89 ⟨Nat.le_of_ble_eq_true rfl, Nat.le_of_ble_eq_true rfl⟩) hP hD hS hA (zz_all _) (fun _ => zz_all _) (fun r w H locs hq hP hD hS => ?_)
  exact hret _ _ H locs r w dL_call_92 hP hD hS hq
abbrev rm_L_call3 : Room := { frames := 13, cells := 2, slots := 12, locals := 293 }
theorem c_L_call_3 (l : Launch) (D : va_G) (cy : Nat → ClassId) (hl0 : l.stackTraces = false) (a : AD) (v : AV) (u : BS) (hO : Okv v) (hR : Rep v u) (q1 q2 q3 : Int32) (sz : Nat) : aMet l yL_call wsL_call rm_L_call3 D cy a [.int 3, .int q1, .int q2, .int q3] u sz (fun (r : Int32) (w : BS) => r = qGu v q1 q2 ∧ Rep v w) 2 12 := by
  refine MwiX (cc := cL_call) (maxL := 5) (ty := .int) (by decide) rfl (Nat.le_of_ble_eq_true rfl) (fun _ _ _ => rfl) ?_
  intro p e s m args below meth c Q ls A hAe hsz hX0 hF hK hP hD hA hl hret
  rw [← hsz, ← hAe] at hX0
  have hX : Gl A s := hX0
  obtain ⟨hx, hb, hml, hown, hts⟩ := id hF
  have hl : lv_has ls 5 [(0, .ref (aO a)), (1, .int 3), (2, .int q1), (3, .int q2), (4, .int q3)] := hl
  suffices key : ∀ (H : Heap) (locs : List Loc), va_P D vwCl (gW cy a u) H → va_D A (gW cy a u) → va_S A s.heap H locs → W p l e rm_L_call3 s m args below meth c H locs 0 0 Q (F0 m 0 ls []) from key s.heap [] hP hD va_S.rf
  intro H locs hP hD hS
  refine lv_iload_n hx hb dL_call_0 rfl (lv_at hl 1 rfl) ?_
  refine lv_tableIn (x := 3) (off := 92) (tgt := 93) hx hb dL_call_1 (by decide) (by decide) (by decide) (by decide) ?_
  refine lv_aload_n hx hb dL_call_93 rfl (lv_at hl 0 rfl) ?_
  refine lv_iload_n hx hb dL_call_94 rfl (lv_at hl 2 rfl) ?_
  refine lv_iload_n hx hb dL_call_95 rfl (lv_at hl 3 rfl) ?_
  refine wr_i (fun w : BS => gW cy a w) (vx_runSW (As := [.ref (aO a), .int q1, .int q2]) (rest := []) hF (c_L_tryGuest l D cy hl0 a v u hO hR q1 q2 H.size) (vx_cwSW 3 hts gL_call_L_tryGuest rfl rfl rfl (by decide +kernel) ⟨Nat.le_of_ble_eq_true rfl, Nat.le_of_ble_eq_true rfl⟩) (wrX_preS hK hP hD (zz_all _) Xok_l (fun U hU hW => Gl.at hX hS (zz_free hD (zz_all _) hS hA) hU hW)) rfl rfl hl.1 rfl (lv_room (Nat.le_of_ble_eq_true rfl)) dL_call_96 ⟨Nat.le_of_ble_eq_true rfl, Nat.le_of_ble_eq_true rfl⟩) hP hD hS hA (zz_all _) (fun _ => zz_all _) (fun r w H locs hq hP hD hS => ?_)
  exact hret _ _ H locs r w dL_call_99 hP hD hS hq
abbrev rm_L_call4 : Room := { frames := 13, cells := 1, slots := 6, locals := 293 }
theorem c_L_call_4 (l : Launch) (D : va_G) (cy : Nat → ClassId) (hl0 : l.stackTraces = false) (a : AD) (v : AV) (u : BS) (hO : Okv v) (hR : Rep v u) (q1 q2 q3 : Int32) (sz : Nat) : aMet l yL_call wsL_call rm_L_call4 D cy a [.int 4, .int q1, .int q2, .int q3] u sz (fun (r : Int32) (w : BS) => r = qFl v q1 q2 ∧ Rep v w) 1 6 := by
  refine MwiX (cc := cL_call) (maxL := 5) (ty := .int) (by decide) rfl (Nat.le_of_ble_eq_true rfl) (fun _ _ _ => rfl) ?_
  intro p e s m args below meth c Q ls A hAe hsz hX0 hF hK hP hD hA hl hret
  rw [← hsz, ← hAe] at hX0
  have hX : Gl A s := hX0
  obtain ⟨hx, hb, hml, hown, hts⟩ := id hF
  have hl : lv_has ls 5 [(0, .ref (aO a)), (1, .int 4), (2, .int q1), (3, .int q2), (4, .int q3)] := hl
  suffices key : ∀ (H : Heap) (locs : List Loc), va_P D vwCl (gW cy a u) H → va_D A (gW cy a u) → va_S A s.heap H locs → W p l e rm_L_call4 s m args below meth c H locs 0 0 Q (F0 m 0 ls []) from key s.heap [] hP hD va_S.rf
  intro H locs hP hD hS
  refine lv_iload_n hx hb dL_call_0 rfl (lv_at hl 1 rfl) ?_
  refine lv_tableIn (x := 4) (off := 99) (tgt := 100) hx hb dL_call_1 (by decide) (by decide) (by decide) (by decide) ?_
  refine lv_aload_n hx hb dL_call_100 rfl (lv_at hl 0 rfl) ?_
  refine lv_iload_n hx hb dL_call_101 rfl (lv_at hl 2 rfl) ?_
  refine lv_iload_n hx hb dL_call_102 rfl (lv_at hl 3 rfl) ?_
  refine wr_i (fun w : BS => gW cy a w) (vx_runSW (As := [.ref (aO a), .int q1, .int q2]) (rest := []) hF (c_L_tryFloor l D cy hl0 a v u hO hR q1 q2 H.size) (vx_cwSW 3 hts gL_call_L_tryFloor rfl rfl rfl (by decide +kernel) ⟨Nat.le_of_ble_eq_true rfl, Nat.le_of_ble_eq_true rfl⟩) (wrX_preS hK hP hD (zz_all _) Xok_l (fun U hU hW => Gl.at hX hS (zz_free hD (zz_all _) hS hA) hU hW)) rfl rfl hl.1 rfl (lv_room (Nat.le_of_ble_eq_true rfl)) dL_call_103 ⟨Nat.le_of_ble_eq_true rfl, Nat.le_of_ble_eq_true rfl⟩) hP hD hS hA (zz_all _) (fun _ => zz_all _) (fun r w H locs hq hP hD hS => ?_)
  exact hret _ _ H locs r w dL_call_106 hP hD hS hq
abbrev rm_L_call5 : Room := { frames := 13, cells := 1, slots := 6, locals := 293 }
theorem c_L_call_5 (l : Launch) (D : va_G) (cy : Nat → ClassId) (hl0 : l.stackTraces = false) (a : AD) (v : AV) (u : BS) (hO : Okv v) (hR : Rep v u) (q1 q2 q3 : Int32) (sz : Nat) : aMet l yL_call wsL_call rm_L_call5 D cy a [.int 5, .int q1, .int q2, .int q3] u sz (fun (r : Int32) (w : BS) => r = qSe v q1 ∧ Rep v w) 1 6 := by
  refine MwiX (cc := cL_call) (maxL := 5) (ty := .int) (by decide) rfl (Nat.le_of_ble_eq_true rfl) (fun _ _ _ => rfl) ?_
  intro p e s m args below meth c Q ls A hAe hsz hX0 hF hK hP hD hA hl hret
  rw [← hsz, ← hAe] at hX0
  have hX : Gl A s := hX0
  obtain ⟨hx, hb, hml, hown, hts⟩ := id hF
  have hl : lv_has ls 5 [(0, .ref (aO a)), (1, .int 5), (2, .int q1), (3, .int q2), (4, .int q3)] := hl
  suffices key : ∀ (H : Heap) (locs : List Loc), va_P D vwCl (gW cy a u) H → va_D A (gW cy a u) → va_S A s.heap H locs → W p l e rm_L_call5 s m args below meth c H locs 0 0 Q (F0 m 0 ls []) from key s.heap [] hP hD va_S.rf
  intro H locs hP hD hS
  refine lv_iload_n hx hb dL_call_0 rfl (lv_at hl 1 rfl) ?_
  refine lv_tableIn (x := 5) (off := 106) (tgt := 107) hx hb dL_call_1 (by decide) (by decide) (by decide) (by decide) ?_
  refine lv_aload_n hx hb dL_call_107 rfl (lv_at hl 0 rfl) ?_
  refine lv_iload_n hx hb dL_call_108 rfl (lv_at hl 2 rfl) ?_
  refine wr_i (fun w : BS => gW cy a w) (vx_runSW (As := [.ref (aO a), .int q1]) (rest := []) hF (c_L_trySetting l D cy hl0 a v u hO hR q1 H.size) (vx_cwSW 2 hts gL_call_L_trySetting rfl rfl rfl (by decide +kernel) ⟨Nat.le_of_ble_eq_true rfl, Nat.le_of_ble_eq_true rfl⟩) (wrX_preS hK hP hD (zz_all _) Xok_l (fun U hU hW => Gl.at hX hS (zz_free hD (zz_all _) hS hA) hU hW)) rfl rfl hl.1 rfl (lv_room (Nat.le_of_ble_eq_true rfl)) dL_call_109 ⟨Nat.le_of_ble_eq_true rfl, Nat.le_of_ble_eq_true rfl⟩) hP hD hS hA (zz_all _) (fun _ => zz_all _) (fun r w H locs hq hP hD hS => ?_)
  exact hret _ _ H locs r w dL_call_112 hP hD hS hq
abbrev rm_L_call6 : Room := { frames := 13, cells := 11, slots := 57, locals := 293 }
theorem c_L_call_6 (l : Launch) (D : va_G) (cy : Nat → ClassId) (hl0 : l.stackTraces = false) (a : AD) (v : AV) (u : BS) (hO : Okv v) (hR : Rep v u) (q1 q2 q3 : Int32) (sz : Nat) : aMet l yL_call wsL_call rm_L_call6 D cy a [.int 6, .int q1, .int q2, .int q3] u sz (fun (r : Int32) (w : BS) => r = (aLeave v q1).1 ∧ Rep (aLeave v q1).2 w) 11 57 := by
  refine MwiX (cc := cL_call) (maxL := 5) (ty := .int) (by decide) rfl (Nat.le_of_ble_eq_true rfl) (fun _ _ _ => rfl) ?_
  intro p e s m args below meth c Q ls A hAe hsz hX0 hF hK hP hD hA hl hret
  rw [← hsz, ← hAe] at hX0
  have hX : Gl A s := hX0
  obtain ⟨hx, hb, hml, hown, hts⟩ := id hF
  have hl : lv_has ls 5 [(0, .ref (aO a)), (1, .int 6), (2, .int q1), (3, .int q2), (4, .int q3)] := hl
  suffices key : ∀ (H : Heap) (locs : List Loc), va_P D vwCl (gW cy a u) H → va_D A (gW cy a u) → va_S A s.heap H locs → W p l e rm_L_call6 s m args below meth c H locs 0 0 Q (F0 m 0 ls []) from key s.heap [] hP hD va_S.rf
  intro H locs hP hD hS
  refine lv_iload_n hx hb dL_call_0 rfl (lv_at hl 1 rfl) ?_
  refine lv_tableIn (x := 6) (off := 112) (tgt := 113) hx hb dL_call_1 (by decide) (by decide) (by decide) (by decide) ?_
  refine lv_aload_n hx hb dL_call_113 rfl (lv_at hl 0 rfl) ?_
  refine lv_iload_n hx hb dL_call_114 rfl (lv_at hl 2 rfl) ?_
  refine wr_i (fun w : BS => gW cy a w) (vx_runSW (As := [.ref (aO a), .int q1]) (rest := []) hF (c_L_tryLeave l D cy hl0 a v u hO hR q1 H.size) (vx_cwSW 2 hts gL_call_L_tryLeave rfl rfl rfl (by decide +kernel) ⟨Nat.le_of_ble_eq_true rfl, Nat.le_of_ble_eq_true rfl⟩) (wrX_preS hK hP hD (zz_all _) Xok_l (fun U hU hW => Gl.at hX hS (zz_free hD (zz_all _) hS hA) hU hW)) rfl rfl hl.1 rfl (lv_room (Nat.le_of_ble_eq_true rfl)) dL_call_115 ⟨Nat.le_of_ble_eq_true rfl, Nat.le_of_ble_eq_true rfl⟩) hP hD hS hA (zz_all _) (fun _ => zz_all _) (fun r w H locs hq hP hD hS => ?_)
  exact hret _ _ H locs r w dL_call_118 hP hD hS hq
abbrev rm_L_call7 : Room := { frames := 13, cells := 11, slots := 57, locals := 293 }
theorem c_L_call_7 (l : Launch) (D : va_G) (cy : Nat → ClassId) (hl0 : l.stackTraces = false) (a : AD) (v : AV) (u : BS) (hO : Okv v) (hR : Rep v u) (q1 q2 q3 : Int32) (sz : Nat) : aMet l yL_call wsL_call rm_L_call7 D cy a [.int 7, .int q1, .int q2, .int q3] u sz (fun (r : Int32) (w : BS) => r = (aPress v q1).1 ∧ Rep (aPress v q1).2 w) 11 57 := by
  refine MwiX (cc := cL_call) (maxL := 5) (ty := .int) (by decide) rfl (Nat.le_of_ble_eq_true rfl) (fun _ _ _ => rfl) ?_
  intro p e s m args below meth c Q ls A hAe hsz hX0 hF hK hP hD hA hl hret
  rw [← hsz, ← hAe] at hX0
  have hX : Gl A s := hX0
  obtain ⟨hx, hb, hml, hown, hts⟩ := id hF
  have hl : lv_has ls 5 [(0, .ref (aO a)), (1, .int 7), (2, .int q1), (3, .int q2), (4, .int q3)] := hl
  suffices key : ∀ (H : Heap) (locs : List Loc), va_P D vwCl (gW cy a u) H → va_D A (gW cy a u) → va_S A s.heap H locs → W p l e rm_L_call7 s m args below meth c H locs 0 0 Q (F0 m 0 ls []) from key s.heap [] hP hD va_S.rf
  intro H locs hP hD hS
  refine lv_iload_n hx hb dL_call_0 rfl (lv_at hl 1 rfl) ?_
  refine lv_tableIn (x := 7) (off := 118) (tgt := 119) hx hb dL_call_1 (by decide) (by decide) (by decide) (by decide) ?_
  refine lv_aload_n hx hb dL_call_119 rfl (lv_at hl 0 rfl) ?_
  refine lv_iload_n hx hb dL_call_120 rfl (lv_at hl 2 rfl) ?_
  refine wr_i (fun w : BS => gW cy a w) (vx_runSW (As := [.ref (aO a), .int q1]) (rest := []) hF (c_L_tryPress l D cy hl0 a v u hO hR q1 H.size) (vx_cwSW 2 hts gL_call_L_tryPress rfl rfl rfl (by decide +kernel) ⟨Nat.le_of_ble_eq_true rfl, Nat.le_of_ble_eq_true rfl⟩) (wrX_preS hK hP hD (zz_all _) Xok_l (fun U hU hW => Gl.at hX hS (zz_free hD (zz_all _) hS hA) hU hW)) rfl rfl hl.1 rfl (lv_room (Nat.le_of_ble_eq_true rfl)) dL_call_121 ⟨Nat.le_of_ble_eq_true rfl, Nat.le_of_ble_eq_true rfl⟩) hP hD hS hA (zz_all _) (fun _ => zz_all _) (fun r w H locs hq hP hD hS => ?_)
  exact hret _ _ H locs r w dL_call_124 hP hD hS hq
abbrev rm_L_call8 : Room := { frames := 13, cells := 10, slots := 51, locals := 293 }
theorem c_L_call_8 (l : Launch) (D : va_G) (cy : Nat → ClassId) (hl0 : l.stackTraces = false) (a : AD) (v : AV) (u : BS) (hO : Okv v) (hR : Rep v u) (q1 q2 q3 : Int32) (sz : Nat) : aMet l yL_call wsL_call rm_L_call8 D cy a [.int 8, .int q1, .int q2, .int q3] u sz (fun (r : Int32) (w : BS) => r = (aLay v q1 q2).1 ∧ Rep (aLay v q1 q2).2 w) 10 51 := by
  refine MwiX (cc := cL_call) (maxL := 5) (ty := .int) (by decide) rfl (Nat.le_of_ble_eq_true rfl) (fun _ _ _ => rfl) ?_
  intro p e s m args below meth c Q ls A hAe hsz hX0 hF hK hP hD hA hl hret
  rw [← hsz, ← hAe] at hX0
  have hX : Gl A s := hX0
  obtain ⟨hx, hb, hml, hown, hts⟩ := id hF
  have hl : lv_has ls 5 [(0, .ref (aO a)), (1, .int 8), (2, .int q1), (3, .int q2), (4, .int q3)] := hl
  suffices key : ∀ (H : Heap) (locs : List Loc), va_P D vwCl (gW cy a u) H → va_D A (gW cy a u) → va_S A s.heap H locs → W p l e rm_L_call8 s m args below meth c H locs 0 0 Q (F0 m 0 ls []) from key s.heap [] hP hD va_S.rf
  intro H locs hP hD hS
  refine lv_iload_n hx hb dL_call_0 rfl (lv_at hl 1 rfl) ?_
  refine lv_tableIn (x := 8) (off := 124) (tgt := 125) hx hb dL_call_1 (by decide) (by decide) (by decide) (by decide) ?_
  refine lv_aload_n hx hb dL_call_125 rfl (lv_at hl 0 rfl) ?_
  refine lv_iload_n hx hb dL_call_126 rfl (lv_at hl 2 rfl) ?_
  refine lv_iload_n hx hb dL_call_127 rfl (lv_at hl 3 rfl) ?_
  refine wr_i (fun w : BS => gW cy a w) (vx_runSW (As := [.ref (aO a), .int q1, .int q2]) (rest := []) hF (c_L_tryLay l D cy hl0 a v u hO hR q1 q2 H.size) (vx_cwSW 3 hts gL_call_L_tryLay rfl rfl rfl (by decide +kernel) ⟨Nat.le_of_ble_eq_true rfl, Nat.le_of_ble_eq_true rfl⟩) (wrX_preS hK hP hD (zz_all _) Xok_l (fun U hU hW => Gl.at hX hS (zz_free hD (zz_all _) hS hA) hU hW)) rfl rfl hl.1 rfl (lv_room (Nat.le_of_ble_eq_true rfl)) dL_call_128 ⟨Nat.le_of_ble_eq_true rfl, Nat.le_of_ble_eq_true rfl⟩) hP hD hS hA (zz_all _) (fun _ => zz_all _) (fun r w H locs hq hP hD hS => ?_)
  exact hret _ _ H locs r w dL_call_131 hP hD hS hq
abbrev rm_L_call9 : Room := { frames := 13, cells := 1, slots := 6, locals := 293 }
theorem c_L_call_9 (l : Launch) (D : va_G) (cy : Nat → ClassId) (hl0 : l.stackTraces = false) (a : AD) (v : AV) (u : BS) (hO : Okv v) (hR : Rep v u) (q1 q2 q3 : Int32) (sz : Nat) : aMet l yL_call wsL_call rm_L_call9 D cy a [.int 9, .int q1, .int q2, .int q3] u sz (fun (r : Int32) (w : BS) => r = (aUndo v).1 ∧ Rep (aUndo v).2 w) 1 6 := by
  refine MwiX (cc := cL_call) (maxL := 5) (ty := .int) (by decide) rfl (Nat.le_of_ble_eq_true rfl) (fun _ _ _ => rfl) ?_
  intro p e s m args below meth c Q ls A hAe hsz hX0 hF hK hP hD hA hl hret
  rw [← hsz, ← hAe] at hX0
  have hX : Gl A s := hX0
  obtain ⟨hx, hb, hml, hown, hts⟩ := id hF
  have hl : lv_has ls 5 [(0, .ref (aO a)), (1, .int 9), (2, .int q1), (3, .int q2), (4, .int q3)] := hl
  suffices key : ∀ (H : Heap) (locs : List Loc), va_P D vwCl (gW cy a u) H → va_D A (gW cy a u) → va_S A s.heap H locs → W p l e rm_L_call9 s m args below meth c H locs 0 0 Q (F0 m 0 ls []) from key s.heap [] hP hD va_S.rf
  intro H locs hP hD hS
  refine lv_iload_n hx hb dL_call_0 rfl (lv_at hl 1 rfl) ?_
  refine lv_tableIn (x := 9) (off := 131) (tgt := 132) hx hb dL_call_1 (by decide) (by decide) (by decide) (by decide) ?_
  refine lv_aload_n hx hb dL_call_132 rfl (lv_at hl 0 rfl) ?_
  refine wr_i (fun w : BS => gW cy a w) (vx_runSW (As := [.ref (aO a)]) (rest := []) hF (c_L_tryUndo l D cy hl0 a v u hO hR H.size) (vx_cwSW 1 hts gL_call_L_tryUndo rfl rfl rfl (by decide +kernel) ⟨Nat.le_of_ble_eq_true rfl, Nat.le_of_ble_eq_true rfl⟩) (wrX_preS hK hP hD (zz_all _) Xok_l (fun U hU hW => Gl.at hX hS (zz_free hD (zz_all _) hS hA) hU hW)) rfl rfl hl.1 rfl (lv_room (Nat.le_of_ble_eq_true rfl)) dL_call_133 ⟨Nat.le_of_ble_eq_true rfl, Nat.le_of_ble_eq_true rfl⟩) hP hD hS hA (zz_all _) (fun _ => zz_all _) (fun r w H locs hq hP hD hS => ?_)
  exact hret _ _ H locs r w dL_call_136 hP hD hS hq
abbrev rm_L_call10 : Room := { frames := 13, cells := 1, slots := 6, locals := 293 }
theorem c_L_call_10 (l : Launch) (D : va_G) (cy : Nat → ClassId) (hl0 : l.stackTraces = false) (a : AD) (v : AV) (u : BS) (hO : Okv v) (hR : Rep v u) (q1 q2 q3 : Int32) (sz : Nat) : aMet l yL_call wsL_call rm_L_call10 D cy a [.int 10, .int q1, .int q2, .int q3] u sz (fun (r : Int32) (w : BS) => r = qWh v q1 ∧ Rep v w) 1 6 := by
  refine MwiX (cc := cL_call) (maxL := 5) (ty := .int) (by decide) rfl (Nat.le_of_ble_eq_true rfl) (fun _ _ _ => rfl) ?_
  intro p e s m args below meth c Q ls A hAe hsz hX0 hF hK hP hD hA hl hret
  rw [← hsz, ← hAe] at hX0
  have hX : Gl A s := hX0
  obtain ⟨hx, hb, hml, hown, hts⟩ := id hF
  have hl : lv_has ls 5 [(0, .ref (aO a)), (1, .int 10), (2, .int q1), (3, .int q2), (4, .int q3)] := hl
  suffices key : ∀ (H : Heap) (locs : List Loc), va_P D vwCl (gW cy a u) H → va_D A (gW cy a u) → va_S A s.heap H locs → W p l e rm_L_call10 s m args below meth c H locs 0 0 Q (F0 m 0 ls []) from key s.heap [] hP hD va_S.rf
  intro H locs hP hD hS
  refine lv_iload_n hx hb dL_call_0 rfl (lv_at hl 1 rfl) ?_
  refine lv_tableIn (x := 10) (off := 136) (tgt := 137) hx hb dL_call_1 (by decide) (by decide) (by decide) (by decide) ?_
  refine lv_aload_n hx hb dL_call_137 rfl (lv_at hl 0 rfl) ?_
  refine lv_iload_n hx hb dL_call_138 rfl (lv_at hl 2 rfl) ?_
  refine wr_i (fun w : BS => gW cy a w) (vx_runSW (As := [.ref (aO a), .int q1]) (rest := []) hF (c_L_tryWhy l D cy hl0 a v u hO hR q1 H.size) (vx_cwSW 2 hts gL_call_L_tryWhy rfl rfl rfl (by decide +kernel) ⟨Nat.le_of_ble_eq_true rfl, Nat.le_of_ble_eq_true rfl⟩) (wrX_preS hK hP hD (zz_all _) Xok_l (fun U hU hW => Gl.at hX hS (zz_free hD (zz_all _) hS hA) hU hW)) rfl rfl hl.1 rfl (lv_room (Nat.le_of_ble_eq_true rfl)) dL_call_139 ⟨Nat.le_of_ble_eq_true rfl, Nat.le_of_ble_eq_true rfl⟩) hP hD hS hA (zz_all _) (fun _ => zz_all _) (fun r w H locs hq hP hD hS => ?_)
  exact hret _ _ H locs r w dL_call_142 hP hD hS hq
abbrev rm_L_call11 : Room := { frames := 13, cells := 1, slots := 6, locals := 293 }
theorem c_L_call_11 (l : Launch) (D : va_G) (cy : Nat → ClassId) (hl0 : l.stackTraces = false) (a : AD) (v : AV) (u : BS) (hO : Okv v) (hR : Rep v u) (q1 q2 q3 : Int32) (sz : Nat) : aMet l yL_call wsL_call rm_L_call11 D cy a [.int 11, .int q1, .int q2, .int q3] u sz (fun (r : Int32) (w : BS) => r = qFe v q1 ∧ Rep v w) 1 6 := by
  refine MwiX (cc := cL_call) (maxL := 5) (ty := .int) (by decide) rfl (Nat.le_of_ble_eq_true rfl) (fun _ _ _ => rfl) ?_
  intro p e s m args below meth c Q ls A hAe hsz hX0 hF hK hP hD hA hl hret
  rw [← hsz, ← hAe] at hX0
  have hX : Gl A s := hX0
  obtain ⟨hx, hb, hml, hown, hts⟩ := id hF
  have hl : lv_has ls 5 [(0, .ref (aO a)), (1, .int 11), (2, .int q1), (3, .int q2), (4, .int q3)] := hl
  suffices key : ∀ (H : Heap) (locs : List Loc), va_P D vwCl (gW cy a u) H → va_D A (gW cy a u) → va_S A s.heap H locs → W p l e rm_L_call11 s m args below meth c H locs 0 0 Q (F0 m 0 ls []) from key s.heap [] hP hD va_S.rf
  intro H locs hP hD hS
  refine lv_iload_n hx hb dL_call_0 rfl (lv_at hl 1 rfl) ?_
  refine lv_tableIn (x := 11) (off := 142) (tgt := 143) hx hb dL_call_1 (by decide) (by decide) (by decide) (by decide) ?_
  refine lv_aload_n hx hb dL_call_143 rfl (lv_at hl 0 rfl) ?_
  refine lv_iload_n hx hb dL_call_144 rfl (lv_at hl 2 rfl) ?_
  refine wr_i (fun w : BS => gW cy a w) (vx_runSW (As := [.ref (aO a), .int q1]) (rest := []) hF (c_L_tryFewest l D cy hl0 a v u hO hR q1 H.size) (vx_cwSW 2 hts gL_call_L_tryFewest rfl rfl rfl (by decide +kernel) ⟨Nat.le_of_ble_eq_true rfl, Nat.le_of_ble_eq_true rfl⟩) (wrX_preS hK hP hD (zz_all _) Xok_l (fun U hU hW => Gl.at hX hS (zz_free hD (zz_all _) hS hA) hU hW)) rfl rfl hl.1 rfl (lv_room (Nat.le_of_ble_eq_true rfl)) dL_call_145 ⟨Nat.le_of_ble_eq_true rfl, Nat.le_of_ble_eq_true rfl⟩) hP hD hS hA (zz_all _) (fun _ => zz_all _) (fun r w H locs hq hP hD hS => ?_)
  exact hret _ _ H locs r w dL_call_148 hP hD hS hq
abbrev rm_L_call12 : Room := { frames := 13, cells := 1, slots := 6, locals := 293 }
theorem c_L_call_12 (l : Launch) (D : va_G) (cy : Nat → ClassId) (hl0 : l.stackTraces = false) (a : AD) (v : AV) (u : BS) (hO : Okv v) (hR : Rep v u) (q1 q2 q3 : Int32) (sz : Nat) : aMet l yL_call wsL_call rm_L_call12 D cy a [.int 12, .int q1, .int q2, .int q3] u sz (fun (r : Int32) (w : BS) => r = qIf v q1 q2 q3 ∧ Rep v w) 1 6 := by
  refine MwiX (cc := cL_call) (maxL := 5) (ty := .int) (by decide) rfl (Nat.le_of_ble_eq_true rfl) (fun _ _ _ => rfl) ?_
  intro p e s m args below meth c Q ls A hAe hsz hX0 hF hK hP hD hA hl hret
  rw [← hsz, ← hAe] at hX0
  have hX : Gl A s := hX0
  obtain ⟨hx, hb, hml, hown, hts⟩ := id hF
  have hl : lv_has ls 5 [(0, .ref (aO a)), (1, .int 12), (2, .int q1), (3, .int q2), (4, .int q3)] := hl
  suffices key : ∀ (H : Heap) (locs : List Loc), va_P D vwCl (gW cy a u) H → va_D A (gW cy a u) → va_S A s.heap H locs → W p l e rm_L_call12 s m args below meth c H locs 0 0 Q (F0 m 0 ls []) from key s.heap [] hP hD va_S.rf
  intro H locs hP hD hS
  refine lv_iload_n hx hb dL_call_0 rfl (lv_at hl 1 rfl) ?_
  refine lv_tableIn (x := 12) (off := 148) (tgt := 149) hx hb dL_call_1 (by decide) (by decide) (by decide) (by decide) ?_
  refine lv_aload_n hx hb dL_call_149 rfl (lv_at hl 0 rfl) ?_
  refine lv_iload_n hx hb dL_call_150 rfl (lv_at hl 2 rfl) ?_
  refine lv_iload_n hx hb dL_call_151 rfl (lv_at hl 3 rfl) ?_
  refine lv_iload hx hb dL_call_152 (lv_at hl 4 rfl) ?_
  refine wr_i (fun w : BS => gW cy a w) (vx_runSW (As := [.ref (aO a), .int q1, .int q2, .int q3]) (rest := []) hF (c_L_tryIf l D cy hl0 a v u hO hR q1 q2 q3 H.size) (vx_cwSW 4 hts gL_call_L_tryIf rfl rfl rfl (by decide +kernel) ⟨Nat.le_of_ble_eq_true rfl, Nat.le_of_ble_eq_true rfl⟩) (wrX_preS hK hP hD (zz_all _) Xok_l (fun U hU hW => Gl.at hX hS (zz_free hD (zz_all _) hS hA) hU hW)) rfl rfl hl.1 rfl (lv_room (Nat.le_of_ble_eq_true rfl)) dL_call_154 ⟨Nat.le_of_ble_eq_true rfl, Nat.le_of_ble_eq_true rfl⟩) hP hD hS hA (zz_all _) (fun _ => zz_all _) (fun r w H locs hq hP hD hS => ?_)
  exact hret _ _ H locs r w dL_call_157 hP hD hS hq
abbrev rm_L_call13 : Room := { frames := 13, cells := 1, slots := 6, locals := 293 }
theorem c_L_call_13 (l : Launch) (D : va_G) (cy : Nat → ClassId) (hl0 : l.stackTraces = false) (a : AD) (v : AV) (u : BS) (hO : Okv v) (hR : Rep v u) (q1 q2 q3 : Int32) (sz : Nat) : aMet l yL_call wsL_call rm_L_call13 D cy a [.int 13, .int q1, .int q2, .int q3] u sz (fun (r : Int32) (w : BS) => r = qLe v q1 ∧ Rep v w) 1 6 := by
  refine MwiX (cc := cL_call) (maxL := 5) (ty := .int) (by decide) rfl (Nat.le_of_ble_eq_true rfl) (fun _ _ _ => rfl) ?_
  intro p e s m args below meth c Q ls A hAe hsz hX0 hF hK hP hD hA hl hret
  rw [← hsz, ← hAe] at hX0
  have hX : Gl A s := hX0
  obtain ⟨hx, hb, hml, hown, hts⟩ := id hF
  have hl : lv_has ls 5 [(0, .ref (aO a)), (1, .int 13), (2, .int q1), (3, .int q2), (4, .int q3)] := hl
  suffices key : ∀ (H : Heap) (locs : List Loc), va_P D vwCl (gW cy a u) H → va_D A (gW cy a u) → va_S A s.heap H locs → W p l e rm_L_call13 s m args below meth c H locs 0 0 Q (F0 m 0 ls []) from key s.heap [] hP hD va_S.rf
  intro H locs hP hD hS
  refine lv_iload_n hx hb dL_call_0 rfl (lv_at hl 1 rfl) ?_
  refine lv_tableIn (x := 13) (off := 157) (tgt := 158) hx hb dL_call_1 (by decide) (by decide) (by decide) (by decide) ?_
  refine lv_aload_n hx hb dL_call_158 rfl (lv_at hl 0 rfl) ?_
  refine lv_iload_n hx hb dL_call_159 rfl (lv_at hl 2 rfl) ?_
  refine wr_i (fun w : BS => gW cy a w) (vx_runSW (As := [.ref (aO a), .int q1]) (rest := []) hF (c_L_tryLeft l D cy hl0 a v u hO hR q1 H.size) (vx_cwSW 2 hts gL_call_L_tryLeft rfl rfl rfl (by decide +kernel) ⟨Nat.le_of_ble_eq_true rfl, Nat.le_of_ble_eq_true rfl⟩) (wrX_preS hK hP hD (zz_all _) Xok_l (fun U hU hW => Gl.at hX hS (zz_free hD (zz_all _) hS hA) hU hW)) rfl rfl hl.1 rfl (lv_room (Nat.le_of_ble_eq_true rfl)) dL_call_160 ⟨Nat.le_of_ble_eq_true rfl, Nat.le_of_ble_eq_true rfl⟩) hP hD hS hA (zz_all _) (fun _ => zz_all _) (fun r w H locs hq hP hD hS => ?_)
  exact hret _ _ H locs r w dL_call_163 hP hD hS hq
abbrev rm_L_call14 : Room := { frames := 13, cells := 11, slots := 57, locals := 293 }
theorem c_L_call_14 (l : Launch) (D : va_G) (cy : Nat → ClassId) (hl0 : l.stackTraces = false) (a : AD) (v : AV) (u : BS) (hO : Okv v) (hR : Rep v u) (q1 q2 q3 : Int32) (sz : Nat) : aMet l yL_call wsL_call rm_L_call14 D cy a [.int 14, .int q1, .int q2, .int q3] u sz (fun (r : Int32) (w : BS) => r = (aKeep v q1).1 ∧ Rep (aKeep v q1).2 w) 11 57 := by
  refine MwiX (cc := cL_call) (maxL := 5) (ty := .int) (by decide) rfl (Nat.le_of_ble_eq_true rfl) (fun _ _ _ => rfl) ?_
  intro p e s m args below meth c Q ls A hAe hsz hX0 hF hK hP hD hA hl hret
  rw [← hsz, ← hAe] at hX0
  have hX : Gl A s := hX0
  obtain ⟨hx, hb, hml, hown, hts⟩ := id hF
  have hl : lv_has ls 5 [(0, .ref (aO a)), (1, .int 14), (2, .int q1), (3, .int q2), (4, .int q3)] := hl
  suffices key : ∀ (H : Heap) (locs : List Loc), va_P D vwCl (gW cy a u) H → va_D A (gW cy a u) → va_S A s.heap H locs → W p l e rm_L_call14 s m args below meth c H locs 0 0 Q (F0 m 0 ls []) from key s.heap [] hP hD va_S.rf
  intro H locs hP hD hS
  refine lv_iload_n hx hb dL_call_0 rfl (lv_at hl 1 rfl) ?_
  refine lv_tableIn (x := 14) (off := 163) (tgt := 164) hx hb dL_call_1 (by decide) (by decide) (by decide) (by decide) ?_
  refine lv_aload_n hx hb dL_call_164 rfl (lv_at hl 0 rfl) ?_
  refine lv_iload_n hx hb dL_call_165 rfl (lv_at hl 2 rfl) ?_
  refine wr_i (fun w : BS => gW cy a w) (vx_runSW (As := [.ref (aO a), .int q1]) (rest := []) hF (c_L_tryKeep l D cy hl0 a v u hO hR q1 H.size) (vx_cwSW 2 hts gL_call_L_tryKeep rfl rfl rfl (by decide +kernel) ⟨Nat.le_of_ble_eq_true rfl, Nat.le_of_ble_eq_true rfl⟩) (wrX_preS hK hP hD (zz_all _) Xok_l (fun U hU hW => Gl.at hX hS (zz_free hD (zz_all _) hS hA) hU hW)) rfl rfl hl.1 rfl (lv_room (Nat.le_of_ble_eq_true rfl)) dL_call_166 ⟨Nat.le_of_ble_eq_true rfl, Nat.le_of_ble_eq_true rfl⟩) hP hD hS hA (zz_all _) (fun _ => zz_all _) (fun r w H locs hq hP hD hS => ?_)
  exact hret _ _ H locs r w dL_call_169 hP hD hS hq
abbrev rm_L_call15 : Room := { frames := 13, cells := 2, slots := 12, locals := 293 }
theorem c_L_call_15 (l : Launch) (D : va_G) (cy : Nat → ClassId) (hl0 : l.stackTraces = false) (a : AD) (v : AV) (u : BS) (hO : Okv v) (hR : Rep v u) (q1 q2 q3 : Int32) (sz : Nat) : aMet l yL_call wsL_call rm_L_call15 D cy a [.int 15, .int q1, .int q2, .int q3] u sz (fun (r : Int32) (w : BS) => r = (aBack v q1).1 ∧ Rep (aBack v q1).2 w) 2 12 := by
  refine MwiX (cc := cL_call) (maxL := 5) (ty := .int) (by decide) rfl (Nat.le_of_ble_eq_true rfl) (fun _ _ _ => rfl) ?_
  intro p e s m args below meth c Q ls A hAe hsz hX0 hF hK hP hD hA hl hret
  rw [← hsz, ← hAe] at hX0
  have hX : Gl A s := hX0
  obtain ⟨hx, hb, hml, hown, hts⟩ := id hF
  have hl : lv_has ls 5 [(0, .ref (aO a)), (1, .int 15), (2, .int q1), (3, .int q2), (4, .int q3)] := hl
  suffices key : ∀ (H : Heap) (locs : List Loc), va_P D vwCl (gW cy a u) H → va_D A (gW cy a u) → va_S A s.heap H locs → W p l e rm_L_call15 s m args below meth c H locs 0 0 Q (F0 m 0 ls []) from key s.heap [] hP hD va_S.rf
  intro H locs hP hD hS
  refine lv_iload_n hx hb dL_call_0 rfl (lv_at hl 1 rfl) ?_
  refine lv_tableOut (tgt := 170) hx hb dL_call_1 (Or.inr (by decide)) (by decide) ?_
  refine lv_aload_n hx hb dL_call_170 rfl (lv_at hl 0 rfl) ?_
  refine lv_iload_n hx hb dL_call_171 rfl (lv_at hl 2 rfl) ?_
  refine wr_i (fun w : BS => gW cy a w) (vx_runSW (As := [.ref (aO a), .int q1]) (rest := []) hF (c_L_tryBack l D cy hl0 a v u hO hR q1 H.size) (vx_cwSW 2 hts gL_call_L_tryBack rfl rfl rfl (by decide +kernel) ⟨Nat.le_of_ble_eq_true rfl, Nat.le_of_ble_eq_true rfl⟩) (wrX_preS hK hP hD (zz_all _) Xok_l (fun U hU hW => Gl.at hX hS (zz_free hD (zz_all _) hS hA) hU hW)) rfl rfl hl.1 rfl (lv_room (Nat.le_of_ble_eq_true rfl)) dL_call_172 ⟨Nat.le_of_ble_eq_true rfl, Nat.le_of_ble_eq_true rfl⟩) hP hD hS hA (zz_all _) (fun _ => zz_all _) (fun r w H locs hq hP hD hS => ?_)
  exact hret _ _ H locs r w dL_call_175 hP hD hS hq
theorem m_best (l : Launch) (D : va_G) (cy : Nat → ClassId) (hl0 : l.stackTraces = false) (a : AD) (v : AV) (u : BS) (hO : Okv v) (hR : Rep v u) (sz : Nat) : Met l yX7_best wsX7_best rm_X7_best (wrX D cy [.ref (aO a)] (gW cy a u) sz (Gx (va_A (gW cy a u) sz))) (va_Qi (fun (r : Int32) (w : BS) => r = hBst (hN v.1) v.1 ∧ Rep v w) (wrB D (va_A (gW cy a u) sz) (fun w => gW cy a w)) (va_A (gW cy a u) sz)) 0 0 (va_A (gW cy a u) sz) := by
  obtain ⟨b, t, pa, se, th, tr⟩ := a
  obtain ⟨⟨z, f⟩, ⟨ct, L⟩, ⟨⟨sc, pf, bf⟩, y0⟩, y1, ⟨nw, x⟩, o0, o1⟩ := u
  obtain ⟨xv, M, s0, s1⟩ := v
  obtain ⟨hz, hc1, hc2, hM, hxx, hs0, hs1⟩ := id hR
  obtain rfl : x = xv := hxx
  obtain ⟨hn, hg, hok⟩ := OkH.g hO.1
  refine met_wk (c_X7_best l D cy b t pa se th tr nw z hz f ct L hc1 hc2 sc pf bf y0 y1 x o0 o1 (hN x) hn hg hok sz) (qi_wk (fun r w hq => ?_))
  obtain ⟨hr, q8, rfl⟩ := hq
  exact ⟨hr, rep_rd hR⟩
theorem m_rest (l : Launch) (D : va_G) (cy : Nat → ClassId) (hl0 : l.stackTraces = false) (a : AD) (v : AV) (u : BS) (hO : Okv v) (hR : Rep v u) (sz : Nat) : Met l yX7_rest wsX7_rest rm_X7_rest (wrX D cy [.ref (aO a)] (gW cy a u) sz (Gx (va_A (gW cy a u) sz))) (va_Qi (fun (r : Int32) (w : BS) => r = (aRest v).1 ∧ Rep (aRest v).2 w) (wrB D (va_A (gW cy a u) sz) (fun w => gW cy a w)) (va_A (gW cy a u) sz)) 10 51 (va_A (gW cy a u) sz) := by
  obtain ⟨b, t, pa, se, th, tr⟩ := a
  obtain ⟨⟨z, f⟩, ⟨ct, L⟩, ⟨⟨sc, pf, bf⟩, y0⟩, y1, ⟨nw, x⟩, o0, o1⟩ := u
  obtain ⟨xv, M, s0, s1⟩ := v
  obtain ⟨hz, hc1, hc2, hM, hxx, hs0, hs1⟩ := id hR
  obtain rfl : x = xv := hxx
  obtain ⟨hn, hg, hok⟩ := OkH.g hO.1
  refine met_wk (c_X7_rest l D cy b t pa se th tr nw z hz f ct L hc1 hc2 sc pf bf y0 y1 x o0 o1 (hN x) hn hg hok sz) (qi_wk (fun r w hq => ?_))
  obtain ⟨hr, c2, L2, hm, rfl⟩ := hq
  exact ⟨hr, rep_push hR hm⟩
