/-! worlds by membership and by addresses; calls of readers and of writers -/
theorem zz_P {D : va_G} {cl : List vw_C} {ws : va_W} {H : Heap} : va_P D cl ws H ↔ ∀ q ∈ ws, va_at D cl q H := by
  constructor
  · intro h q hq
    obtain ⟨k, hk⟩ := List.getElem?_of_mem hq
    exact h k q hk
  · intro h k q hk
    exact h q (List.mem_of_getElem? hk)
theorem zz_D {A : Nat → Prop} {ws : va_W} : va_D A ws ↔ (ws.map (fun q => q.1)).Nodup ∧ ∀ q ∈ ws, A q.1 := by
  constructor
  · intro ⟨h1, h2⟩
    refine ⟨List.pairwise_iff_getElem.mpr ?_, fun q hq => ?_⟩
    · intro i j hi hj hij he
      rw [List.getElem_map, List.getElem_map] at he
      have hi' : i < ws.length := by simpa using hi
      have hj' : j < ws.length := by simpa using hj
      have := h1 i j _ _ (List.getElem?_eq_getElem hi') (List.getElem?_eq_getElem hj') he
      omega
    · obtain ⟨k, hk⟩ := List.getElem?_of_mem hq
      exact h2 k q hk
  · intro ⟨h1, h2⟩
    refine ⟨fun i j x y hi hj he => ?_, fun k q hk => h2 q (List.mem_of_getElem? hk)⟩
    obtain ⟨hi', hi2⟩ := List.getElem?_eq_some_iff.mp hi
    obtain ⟨hj', hj2⟩ := List.getElem?_eq_some_iff.mp hj
    have hl : (ws.map (fun q => q.1)).length = ws.length := List.length_map ..
    rcases Nat.lt_trichotomy i j with h | h | h
    · have h9 := List.pairwise_iff_getElem.mp h1 i j (by rw [hl]; exact hi') (by rw [hl]; exact hj') h
      rw [List.getElem_map, List.getElem_map, hi2, hj2] at h9
      exact absurd he h9
    · exact h
    · have h9 := List.pairwise_iff_getElem.mp h1 j i (by rw [hl]; exact hj') (by rw [hl]; exact hi') h
      rw [List.getElem_map, List.getElem_map, hi2, hj2] at h9
      exact absurd he.symm h9
theorem zz_Pp {D : va_G} {cl : List vw_C} {ws ws' : va_W} {H : Heap} (h : va_P D cl ws H) (hp : ws.Perm ws') : va_P D cl ws' H := zz_P.mpr fun q hq => zz_P.mp h q (hp.mem_iff.mpr hq)
theorem zz_Ps {D : va_G} {cl : List vw_C} {ws ws' : va_W} {H : Heap} (h : va_P D cl ws H) (hp : ∀ q ∈ ws', q ∈ ws) : va_P D cl ws' H := zz_P.mpr fun q hq => zz_P.mp h q (hp q hq)
theorem zz_Dp {A : Nat → Prop} {ws ws' : va_W} (h : va_D A ws) (hp : ws.Perm ws') : va_D A ws' := zz_D.mpr ⟨(hp.map _).nodup_iff.mp (zz_D.mp h).1, fun q hq => (zz_D.mp h).2 q (hp.mem_iff.mpr hq)⟩
theorem zz_Pl {D : va_G} {cl : List vw_C} {w1 w2 : va_W} {H : Heap} (h : va_P D cl (w1 ++ w2) H) : va_P D cl w1 H := zz_Ps h fun q hq => List.mem_append_left _ hq
theorem zz_Pr {D : va_G} {cl : List vw_C} {w1 w2 : va_W} {H : Heap} (h : va_P D cl (w1 ++ w2) H) : va_P D cl w2 H := zz_Ps h fun q hq => List.mem_append_right _ hq
theorem zz_Dl {A : Nat → Prop} {w1 w2 : va_W} (h : va_D A (w1 ++ w2)) : va_D A w1 := by
  obtain ⟨h1, h2⟩ := zz_D.mp h
  rw [List.map_append] at h1
  exact zz_D.mpr ⟨(List.pairwise_append.mp h1).1, fun q hq => h2 q (List.mem_append_left _ hq)⟩
theorem zz_Dr {A : Nat → Prop} {w1 w2 : va_W} (h : va_D A (w1 ++ w2)) : va_D A w2 := by
  obtain ⟨h1, h2⟩ := zz_D.mp h
  rw [List.map_append] at h1
  exact zz_D.mpr ⟨(List.pairwise_append.mp h1).2.1, fun q hq => h2 q (List.mem_append_right _ hq)⟩
/-- behind a call: the callee's cells and the others, put in an order of the caller's own -/
theorem zz_join {A : Nat → Prop} {D : va_G} {cl : List vw_C} {ws Wc Wr W1 ws1 : va_W} {H H1 : Heap} (hP : va_P D cl ws H) (hD : va_D A ws) (hsp : ws.Perm (Wc ++ Wr)) (hjo : ws1.Perm (W1 ++ Wr))
    (hF : ∀ q, va_A Wc H.size q → A q) (hk : ∀ q : Nat, q < H.size → ¬ va_A Wc H.size q → H1[q]? = H[q]?) (hP1 : va_P D cl W1 H1) (hD1 : va_D (va_A Wc H.size) W1) : va_P D cl ws1 H1 ∧ va_D A ws1 := by
  have hP2 := zz_Pp hP hsp
  have hD2 := zz_Dp hD hsp
  obtain ⟨n1, n2⟩ := zz_D.mp hD2
  rw [List.map_append] at n1
  obtain ⟨m1, m2, m3⟩ := List.pairwise_append.mp n1
  have apart : ∀ q ∈ Wr, q.1 < H.size ∧ ¬ va_A Wc H.size q.1 := by
    intro q hq
    have hl := (zz_P.mp hP2 q (List.mem_append_right _ hq)).lt
    refine ⟨hl, fun h => ?_⟩
    rcases h with ⟨k2, e, h⟩ | h
    · exact m3 q.1 (List.mem_map.mpr ⟨(q.1, e), List.mem_of_getElem? h, rfl⟩) q.1 (List.mem_map.mpr ⟨q, hq, rfl⟩) rfl
    · omega
  refine ⟨zz_Pp (ws := W1 ++ Wr) (zz_P.mpr fun q hq => ?_) hjo.symm, zz_Dp (ws := W1 ++ Wr) (zz_D.mpr ⟨?_, fun q hq => ?_⟩) hjo.symm⟩
  · rcases List.mem_append.mp hq with h | h
    · exact zz_P.mp hP1 q h
    · obtain ⟨g1, g2⟩ := apart q h
      exact (zz_P.mp hP2 q (List.mem_append_right _ h)).kept (hk q.1 g1 g2)
  · obtain ⟨k1, k2⟩ := zz_D.mp hD1
    rw [List.map_append]
    refine List.pairwise_append.mpr ⟨k1, m2, fun a ha b hb e => ?_⟩
    obtain ⟨x, hx, rfl⟩ := List.mem_map.mp ha
    obtain ⟨y, hy, rfl⟩ := List.mem_map.mp hb
    exact (apart y hy).2 (by rw [← e]; exact k2 x hx)
  · rcases List.mem_append.mp hq with h | h
    · exact hF q.1 ((zz_D.mp hD1).2 q h)
    · exact n2 q (List.mem_append_right _ h)
theorem zz_free {A : Nat → Prop} {ws Wc Wr : va_W} {H0 H : Heap} {locs : List Loc} (hD : va_D A ws) (hsp : ws.Perm (Wc ++ Wr)) (hS : va_S A H0 H locs) (hA : ∀ q, H0.size ≤ q → A q) : ∀ q, va_A Wc H.size q → A q := by
  intro q h
  rcases h with ⟨k, e, h⟩ | h
  · exact (zz_D.mp hD).2 (q, e) (hsp.mem_iff.mpr (List.mem_append_left _ (List.mem_of_getElem? h)))
  · exact hA q (Nat.le_trans hS.1 h)
/-- a world in segments -/
abbrev wj (segs : List va_W) : va_W := segs.flatten
theorem zz_pick (segs : List va_W) (is js : List Nat) (h : (is ++ js).Perm (List.range segs.length)) {a b : List va_W} (ha : is.map (fun i => segs[i]?.getD []) = a) (hb : js.map (fun i => segs[i]?.getD []) = b) : (wj segs).Perm (wj a ++ wj b) := by
  subst ha; subst hb
  have h1 : (List.range segs.length).map (fun i => segs[i]?.getD []) = segs := by
    apply List.ext_getElem?
    intro i
    rw [List.getElem?_map]
    by_cases hi : i < segs.length
    · rw [List.getElem?_range hi]
      show some (segs[i]?.getD []) = segs[i]?
      rw [List.getElem?_eq_getElem hi]
      rfl
    · rw [List.getElem?_eq_none (by simp; omega), List.getElem?_eq_none (by omega)]
      rfl
  have h2 := (h.map (fun i => segs[i]?.getD [])).flatten
  rw [h1, List.map_append, List.flatten_append] at h2
  exact h2.symm
theorem zz_pick1 (segs : List va_W) (i : Nat) (js : List Nat) (h : ([i] ++ js).Perm (List.range segs.length)) {a : va_W} {b : List va_W} (ha : segs[i]?.getD [] = a) (hb : js.map (fun i => segs[i]?.getD []) = b) : (wj segs).Perm (a ++ wj b) := by
  have h1 := zz_pick segs [i] js h rfl hb
  rw [show ([i].map fun i => segs[i]?.getD []) = [a] by rw [← ha]; rfl] at h1
  simpa [wj] using h1
theorem zz_pick2 (segs : List va_W) (i j : Nat) (js : List Nat) (h : ([i, j] ++ js).Perm (List.range segs.length)) {a a2 : va_W} {b : List va_W} (ha : segs[i]?.getD [] = a) (ha2 : segs[j]?.getD [] = a2) (hb : js.map (fun i => segs[i]?.getD []) = b) : (wj segs).Perm ((a ++ a2) ++ wj b) := by
  have h1 := zz_pick segs [i, j] js h rfl hb
  rw [show ([i, j].map fun i => segs[i]?.getD []) = [a, a2] by rw [← ha, ← ha2]; rfl] at h1
  simpa [wj] using h1
theorem zz_all (ws : va_W) : ws.Perm (ws ++ []) := by rw [List.append_nil]
/-- the kinds of arrays -/
abbrev tyL (cy : Nat → ClassId) : List (ClassId × FieldType) := [(cy 0, .int), (cy 1, .char), (cy 2, .object "ButtonGuests$Hotel")]
/-- a reader's start; a writer's start and end -/
abbrev rdP (D : va_G) (cy : Nat → ClassId) (av : List Value) (ws : va_W) : Array Value → State → Prop := va_Pc av (fun U => va_P D vwCl ws U.heap ∧ va_K D vwCl (tyL cy) U)
abbrev wrP (D : va_G) (cy : Nat → ClassId) (av : List Value) (ws : va_W) (sz : Nat) : Array Value → State → Prop := va_Pc av (fun U => U.heap.size = sz ∧ va_P D vwCl ws U.heap ∧ va_K D vwCl (tyL cy) U ∧ va_D (fun _ => True) ws)
abbrev wrB {S : Type} (D : va_G) (A : Nat → Prop) (W1 : S → va_W) : S → State → Prop := fun u t => va_P D vwCl (W1 u) t.heap ∧ va_D A (W1 u)
theorem rdP_blind {D : va_G} {cy : Nat → ClassId} {av : List Value} {ws : va_W} : FrameBlind (rdP D cy av ws) := fun a U g mk q => ⟨q.1, q.2.1, va_K.moved (u := U) (U := U.calling g mk a) (Vm.Alike.refl U.vm) q.2.2⟩
theorem wrP_blind {D : va_G} {cy : Nat → ClassId} {av : List Value} {ws : va_W} {sz : Nat} : FrameBlind (wrP D cy av ws sz) := fun a U g mk q => ⟨q.1, q.2.1, q.2.2.1, va_K.moved (u := U) (U := U.calling g mk a) (Vm.Alike.refl U.vm) q.2.2.2.1, q.2.2.2.2⟩
def QcReadL (r : Int64) : Array Value → State → Outcome → State → Prop := fun _ st o t => o = .returned (some (.long r)) ∧ t.heap = st.heap
section ZZ
variable {p : Program} {l : Launch} {e : Env} {R : Room} {s : State} {m : MethodId} {args : Array Value} {below : List Frame} {meth : Method} {c : Code} {H : Heap} {locs : List Loc} {cells slots : Nat} {Q : State → Prop}
variable {cc bytes : ByteArray} {pc nL maxL n mc ms index : Nat} {ls : Array Slot} {rest st0 : List Value} {Ts ws wsy : List Cond} {own C : String} {y : MethodName} {ret : Option FieldType} {rm : Room} {D : va_G} {cy : Nat → ClassId} {b : Nat} {As : List Value} {Wc : va_W}
theorem rd_V {r : Int32} (hF : CallFix p m c cc nL s args Ts own) (hM : Met l y wsy rm (rdP D cy (.ref b :: As) Wc) (QcRead r) 0 0 (fun _ => False)) (cw : CallW R s args own C index y bytes maxL ret wsy rm 0 0 n)
    (hK : va_K D vwCl (tyL cy) s) (hPc : va_P D vwCl Wc H) (q0 ci : Nat) {q : vw_C} {fs : List Value} (he : Wc[q0]? = some (b, .inr (ci, fs))) (hc : vwCl[ci]? = some q) (hq : q.1 = C)
    (hn : As.length = n) (hl : ls.size = nL) (hst : st0 = As.reverse ++ .ref b :: rest) (hW : (rest.map fun v => v.category).sum ≤ 8) (hdg : decode cc pc = .ok (.invokevirtual index, 3)) (hf : cells + 0 ≤ R.cells ∧ slots + 0 ≤ R.slots)
    (kk : W p l e R s m args below meth c H locs cells slots Q (F0 m (pc + 3) ls (.int r :: rest))) : W p l e R s m args below meth c H locs cells slots Q (F0 m pc ls st0) := by
  subst hst
  exact W.callR (W.runV (As := As) (rest := rest) hF hM cw ⟨rdP_blind, by rw [← hq]; exact va_recv hK hPc hc he, fun U hU hW => ⟨rfl, by rw [hU]; exact hPc, va_K.moved hW.alike hK⟩⟩ rfl hn hl rfl (lv_room hW) hdg hf) kk
theorem rd_S {r : Int32} (hF : CallFix p m c cc nL s args Ts own) (hM : Met l y wsy rm (rdP D cy As Wc) (QcRead r) 0 0 (fun _ => False)) (cw : CallB R s args own index y bytes maxL ret wsy rm 0 0 n ∧ (Cond.static y).before args s = true)
    (hK : va_K D vwCl (tyL cy) s) (hPc : va_P D vwCl Wc H)
    (hn : As.length = n) (hl : ls.size = nL) (hst : st0 = As.reverse ++ rest) (hW : (rest.map fun v => v.category).sum ≤ 8) (hdg : decode cc pc = .ok (.invokestatic index, 3)) (hf : cells + 0 ≤ R.cells ∧ slots + 0 ≤ R.slots)
    (kk : W p l e R s m args below meth c H locs cells slots Q (F0 m (pc + 3) ls (.int r :: rest))) : W p l e R s m args below meth c H locs cells slots Q (F0 m pc ls st0) := by
  subst hst
  exact W.callR (W.runS (As := As) (rest := rest) hF hM cw ⟨rdP_blind, fun U hU hW => ⟨rfl, by rw [hU]; exact hPc, va_K.moved hW.alike hK⟩⟩ rfl hn hl rfl (lv_room hW) hdg hf) kk
theorem rd_SL {r : Int64} (hF : CallFix p m c cc nL s args Ts own) (hM : Met l y wsy rm (rdP D cy As Wc) (QcReadL r) 0 0 (fun _ => False)) (cw : CallB R s args own index y bytes maxL ret wsy rm 0 0 n ∧ (Cond.static y).before args s = true)
    (hK : va_K D vwCl (tyL cy) s) (hPc : va_P D vwCl Wc H)
    (hn : As.length = n) (hl : ls.size = nL) (hst : st0 = As.reverse ++ rest) (hW : (rest.map fun v => v.category).sum ≤ 8) (hdg : decode cc pc = .ok (.invokestatic index, 3)) (hf : cells + 0 ≤ R.cells ∧ slots + 0 ≤ R.slots)
    (kk : W p l e R s m args below meth c H locs cells slots Q (F0 m (pc + 3) ls (.long r :: rest))) : W p l e R s m args below meth c H locs cells slots Q (F0 m pc ls st0) := by
  subst hst
  have hr := W.runS (R := R) (p := p) (e := e) (below := below) (meth := meth) (locs := locs) (g := F0 m pc ls (As.reverse ++ rest)) (As := As) (rest := rest) hF hM cw ⟨rdP_blind, fun U hU hW => ⟨rfl, by rw [hU]; exact hPc, va_K.moved hW.alike hK⟩⟩ rfl hn hl rfl (lv_room hW) hdg hf
  intro T hT X
  obtain ⟨v, st₀, t, T', L, h0, X', hL, e1, ⟨hv, hh⟩, st⟩ := hr T hT X
  cases hv
  obtain ⟨t2, a1, b1⟩ := kk T' (by rw [e1, hh, h0]) (Stand.forget X' (fun q h => (hL q h).elim))
  exact ⟨t2, st t2 a1, b1⟩
variable {A : Nat → Prop} {wsW Wr : va_W} {a : Array Value}
theorem wr_i {S : Type} {post : Int32 → S → Prop} {W1 : S → va_W} (ws1 : S → va_W) (hr : va_Run p l e R s m args below meth c H locs cells slots mc ms (F0 m pc ls st0) rest (va_Qi post (wrB D (va_A Wc H.size) W1) (va_A Wc H.size) a) (va_A Wc H.size))
    (hP : va_P D vwCl wsW H) (hD : va_D A wsW) (hS : va_S A s.heap H locs) (hA : ∀ q, s.heap.size ≤ q → A q) (hsp : wsW.Perm (Wc ++ Wr)) (hjo : ∀ u, (ws1 u).Perm (W1 u ++ Wr))
    (kk : ∀ (r : Int32) (u : S) (H1 : Heap) (locs1 : List Loc), post r u → va_P D vwCl (ws1 u) H1 → va_D A (ws1 u) → va_S A s.heap H1 locs1 → W p l e R s m args below meth c H1 locs1 (cells + mc) (slots + ms) Q (F0 m (pc + 3) ls (.int r :: rest))) : W p l e R s m args below meth c H locs cells slots Q (F0 m pc ls st0) := by
  have hF := zz_free hD hsp hS hA
  refine va_calli hr hS (fun q _ h => hF q h) hF (fun r u t H1 locs1 ht hvm hp hB hz hk hS1 => ?_)
  obtain ⟨hP1, hD1⟩ := hB
  rw [ht] at hP1
  obtain ⟨g1, g2⟩ := zz_join hP hD hsp (hjo u) hF hk hP1 hD1
  exact kk r u H1 locs1 hp g1 g2 hS1
theorem wr_v {S : Type} {post : S → Prop} {W1 : S → va_W} (ws1 : S → va_W) (hr : va_Run p l e R s m args below meth c H locs cells slots mc ms (F0 m pc ls st0) rest (va_Qv post (wrB D (va_A Wc H.size) W1) (va_A Wc H.size) a) (va_A Wc H.size))
    (hP : va_P D vwCl wsW H) (hD : va_D A wsW) (hS : va_S A s.heap H locs) (hA : ∀ q, s.heap.size ≤ q → A q) (hsp : wsW.Perm (Wc ++ Wr)) (hjo : ∀ u, (ws1 u).Perm (W1 u ++ Wr))
    (kk : ∀ (u : S) (H1 : Heap) (locs1 : List Loc), post u → va_P D vwCl (ws1 u) H1 → va_D A (ws1 u) → va_S A s.heap H1 locs1 → W p l e R s m args below meth c H1 locs1 (cells + mc) (slots + ms) Q (F0 m (pc + 3) ls rest)) : W p l e R s m args below meth c H locs cells slots Q (F0 m pc ls st0) := by
  have hF := zz_free hD hsp hS hA
  refine va_callv hr hS (fun q _ h => hF q h) hF (fun u t H1 locs1 ht hvm hp hB hz hk hS1 => ?_)
  obtain ⟨hP1, hD1⟩ := hB
  rw [ht] at hP1
  obtain ⟨g1, g2⟩ := zz_join hP hD hsp (hjo u) hF hk hP1 hD1
  exact kk u H1 locs1 hp g1 g2 hS1
/-- the start of a call of a writer -/
theorem wr_preV (hK : va_K D vwCl (tyL cy) s) (hP : va_P D vwCl wsW H) (hD : va_D A wsW) (hsp : wsW.Perm (Wc ++ Wr)) (q0 ci : Nat) {q : vw_C} {fs : List Value} (he : Wc[q0]? = some (b, .inr (ci, fs))) (hc : vwCl[ci]? = some q) (hq : q.1 = C) : PreV s H C b (wrP D cy (.ref b :: As) Wc H.size) As := by
  have hPc := zz_Pl (zz_Pp hP hsp)
  exact ⟨wrP_blind, by rw [← hq]; exact va_recv hK hPc hc he, fun U hU hW => ⟨rfl, by rw [hU], by rw [hU]; exact hPc, va_K.moved hW.alike hK, (zz_Dl (zz_Dp hD hsp)).weaken (fun _ _ _ _ => trivial)⟩⟩
theorem wr_preS (hK : va_K D vwCl (tyL cy) s) (hP : va_P D vwCl wsW H) (hD : va_D A wsW) (hsp : wsW.Perm (Wc ++ Wr)) : PreS s H (wrP D cy As Wc H.size) As := by
  have hPc := zz_Pl (zz_Pp hP hsp)
  exact ⟨wrP_blind, fun U hU hW => ⟨rfl, by rw [hU], by rw [hU]; exact hPc, va_K.moved hW.alike hK, (zz_Dl (zz_Dp hD hsp)).weaken (fun _ _ _ _ => trivial)⟩⟩
end ZZ
/-- the hotel: numbers (guests, floor, seconds, presses, refusals, floorsGone, cameHome), rows (settings, button, waitingFloor, home, weight, state, grudges, pressesOf, ridden) -/
abbrev HN : Type := Int32 × Int32 × Int32 × Int32 × Int32 × Int32 × Int32
abbrev HR : Type := (Nat → Int32) × (Nat → Int32) × (Nat → Int32) × (Nat → Int32) × (Nat → Int32) × (Nat → Int32) × (Nat → Int32) × (Nat → Int32) × (Nat → Int32)
abbrev HS : Type := HN × HR
abbrev hotelW (cy : Nat → ClassId) (h : Nat → Nat) (x : HS) : va_W := [(h 0, .inr (0, [.ref (h 1), .int x.1.1, .int x.1.2.1, .int x.1.2.2.1, .int x.1.2.2.2.1, .int x.1.2.2.2.2.1, .int x.1.2.2.2.2.2.1, .int x.1.2.2.2.2.2.2, .ref (h 2), .ref (h 3), .ref (h 4), .ref (h 5), .ref (h 6), .ref (h 7), .ref (h 8), .ref (h 9)])), (h 1, .inl (cy 0, 3, .inl x.2.1)), (h 2, .inl (cy 0, 4, .inl x.2.2.1)), (h 3, .inl (cy 0, 4, .inl x.2.2.2.1)), (h 4, .inl (cy 0, 4, .inl x.2.2.2.2.1)), (h 5, .inl (cy 0, 4, .inl x.2.2.2.2.2.1)), (h 6, .inl (cy 0, 4, .inl x.2.2.2.2.2.2.1)), (h 7, .inl (cy 0, 4, .inl x.2.2.2.2.2.2.2.1)), (h 8, .inl (cy 0, 4, .inl x.2.2.2.2.2.2.2.2.1)), (h 9, .inl (cy 0, 4, .inl x.2.2.2.2.2.2.2.2.2))]
