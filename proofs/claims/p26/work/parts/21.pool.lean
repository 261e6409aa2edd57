/-! hotels in a row: the pool of those that are remembered -/
abbrev HQ : Type := (Nat → Nat) × HS
def poolW (cy : Nat → ClassId) (L : List HQ) : va_W := (L.map (fun q => hotelW cy q.1 q.2)).flatten
def rwOf (L : List HQ) : Nat → Option Nat := fun k => (L[k]?).map (fun q => q.1 0)
abbrev pastW (cy : Nat → ClassId) (pa : Nat → Nat) (ct : Nat) (L : List HQ) : va_W := [(pa 0, .inr (2, [.ref (pa 1), .int (nI ct)])), (pa 1, .inl (cy 2, 14, .inr (.inr (.inr (.inr (rwOf L))))))]
theorem pool_get {cy : Nat → ClassId} : ∀ {L : List HQ} {k : Nat} {q : HQ}, L[k]? = some q → (poolW cy L).Perm (hotelW cy q.1 q.2 ++ poolW cy (L.eraseIdx k))
  | [], k, q, h => by simp at h
  | a :: L, 0, q, h => by
    simp only [List.getElem?_cons_zero, Option.some.injEq] at h
    subst h
    exact List.Perm.refl _
  | a :: L, k + 1, q, h => by
    rw [List.getElem?_cons_succ] at h
    have ih := pool_get (cy := cy) h
    show (hotelW cy a.1 a.2 ++ poolW cy L).Perm (hotelW cy q.1 q.2 ++ (hotelW cy a.1 a.2 ++ poolW cy (L.eraseIdx k)))
    refine (List.Perm.append_left _ ih).trans ?_
    rw [← List.append_assoc, ← List.append_assoc]
    exact List.Perm.append_right _ List.perm_append_comm
theorem pool_set {cy : Nat → ClassId} {L : List HQ} {k : Nat} {q q2 : HQ} (h : L[k]? = some q) : (poolW cy (L.set k q2)).Perm (hotelW cy q2.1 q2.2 ++ poolW cy (L.eraseIdx k)) := by
  have hl := (List.getElem?_eq_some_iff.mp h).1
  have h2 := pool_get (cy := cy) (L := L.set k q2) (k := k) (q := q2) (List.getElem?_set_self hl)
  have e : (L.set k q2).eraseIdx k = L.eraseIdx k := by
    apply List.ext_getElem?
    intro i
    rw [List.getElem?_eraseIdx, List.getElem?_eraseIdx]
    split
    · rw [List.getElem?_set_ne (by omega)]
    · rw [List.getElem?_set_ne (by omega)]
  rwa [e] at h2
theorem pool_push {cy : Nat → ClassId} {L : List HQ} {q : HQ} : poolW cy (L ++ [q]) = poolW cy L ++ hotelW cy q.1 q.2 := by
  unfold poolW
  rw [List.map_append, List.flatten_append]
  simp
theorem rwOf_push {L : List HQ} {q : HQ} : va_up (rwOf L) L.length (some (q.1 0)) = rwOf (L ++ [q]) := by
  funext k
  unfold va_up rwOf
  by_cases h : k = L.length
  · subst h
    simp
  · rw [if_neg h]
    by_cases h2 : k < L.length
    · rw [List.getElem?_append_left h2]
    · rw [List.getElem?_eq_none (by omega), List.getElem?_eq_none (by simp; omega)]
theorem rwOf_set {L : List HQ} {k : Nat} {q : HQ} {y : HS} (h : L[k]? = some q) : rwOf (L.set k (q.1, y)) = rwOf L := by
  funext i
  unfold rwOf
  by_cases hi : i = k
  · subst hi
    rw [List.getElem?_set_self (List.getElem?_eq_some_iff.mp h).1, h]
    rfl
  · rw [List.getElem?_set_ne (Ne.symm hi)]
theorem rwOf_at {L : List HQ} {k : Nat} {q : HQ} (h : L[k]? = some q) : rwOf L k = some (q.1 0) := by unfold rwOf; rw [h]; rfl
theorem rwOf_none {L : List HQ} {k : Nat} (h : L.length ≤ k) : rwOf L k = none := by unfold rwOf; rw [List.getElem?_eq_none h]; rfl
theorem pool_mem {cy : Nat → ClassId} {L : List HQ} {k : Nat} {q : HQ} (h : L[k]? = some q) : ∀ z ∈ hotelW cy q.1 q.2, z ∈ poolW cy L := fun z hz => (pool_get h).mem_iff.mpr (List.mem_append_left _ hz)
/-- one of the pool, the hotel that stands beside it, and the others -/
theorem past_split {cy : Nat → ClassId} (P N : va_W) {L : List HQ} {k : Nat} {q : HQ} (h : L[k]? = some q) : (wj [P, poolW cy L, N]).Perm ((hotelW cy q.1 q.2 ++ N) ++ (P ++ poolW cy (L.eraseIdx k))) := by
  have h1 := zz_pick2 [P, poolW cy L, N] 1 2 [0] (show List.Perm ([1, 2] ++ [0]) (List.range 3) by decide) rfl rfl rfl
  refine h1.trans ?_
  show ((poolW cy L ++ N) ++ (P ++ [])).Perm _
  rw [List.append_nil]
  refine (List.Perm.append_right P (List.Perm.append_right N (pool_get h))).trans ?_
  simp only [List.append_assoc]
  refine List.Perm.append_left _ ?_
  rw [← List.append_assoc, ← List.append_assoc]
  refine List.perm_append_comm.trans ?_
  rw [List.append_assoc, ← List.append_assoc (P)]
  exact List.perm_append_comm.trans (List.Perm.refl _)
theorem past_join {cy : Nat → ClassId} (P N : va_W) {L : List HQ} {k : Nat} {q q2 : HQ} (h : L[k]? = some q) : (wj [P, poolW cy (L.set k q2), N]).Perm ((hotelW cy q2.1 q2.2 ++ N) ++ (P ++ poolW cy (L.eraseIdx k))) := by
  have h2 := past_split (cy := cy) P N (L := L.set k q2) (k := k) (q := q2) (List.getElem?_set_self (List.getElem?_eq_some_iff.mp h).1)
  have e : (L.set k q2).eraseIdx k = L.eraseIdx k := by
    apply List.ext_getElem?
    intro i
    rw [List.getElem?_eraseIdx, List.getElem?_eraseIdx]
    split
    · rw [List.getElem?_set_ne (by omega)]
    · rw [List.getElem?_set_ne (by omega)]
  rwa [e] at h2
section ZQ
variable {p : Program} {l : Launch} {e : Env} {R : Room} {s : State} {m : MethodId} {args : Array Value} {below : List Frame} {meth : Method} {c : Code} {H : Heap} {locs : List Loc} {cells slots : Nat} {Q : State → Prop}
variable {cc : ByteArray} {pc a : Nat} {ls : Array Slot} {rest : List Value} {D : va_G} {cl : List vw_C} {tys : List (ClassId × FieldType)} {ws : va_W} {A : Nat → Prop} {H0 : Heap}
theorem zz_aldq (hexec : p.tables.exec = Jvm.exec) (hb : c.code = cc) (hK : va_K D cl tys s) (hP : va_P D cl ws H) (q0 t0 i : Nat) {j : Int32} {cA : ClassId} {C : String} {n : Nat} {f : Nat → Option Nat} {v : Option Nat} (ha : ws[q0]? = some (a, .inl (cA, n, .inr (.inr (.inr (.inr f)))))) (ht : tys[t0]? = some (cA, .object C)) (hj : j = nI i) (hi : i < n ∧ n < 2 ^ 31) (hv : f i = v) (hdg : decode cc pc = .ok (.aaload, 1))
    (kk : W p l e R s m args below meth c H locs cells slots Q (F0 m (pc + 1) ls (va_rf v :: rest))) : W p l e R s m args below meth c H locs cells slots Q (F0 m pc ls (.int j :: .ref a :: rest)) := by
  subst hj
  refine va_aldq hexec hb hK hP q0 t0 ha ht (vp_in_nI hi.1 hi.2) hdg ?_
  rw [nI_clamp (Nat.lt_trans hi.1 hi.2), hv]
  exact kk
theorem zz_astq (hexec : p.tables.exec = Jvm.exec) (hb : c.code = cc) (hK : va_K D cl tys s) (hP : va_P D cl ws H) (hD : va_D A ws) (hS : va_S A H0 H locs) (q0 t0 i ci : Nat) {j : Int32} {cA : ClassId} {r : vw_C} {n v : Nat} {vs : List Value} {f : Nat → Option Nat} (ha : ws[q0]? = some (a, .inl (cA, n, .inr (.inr (.inr (.inr f)))))) (ht : tys[t0]? = some (cA, .object r.1)) (hv : (v, .inr (ci, vs)) ∈ ws) (hc : cl[ci]? = some r) (hj : j = nI i) (hi : i < n ∧ n < 2 ^ 31) (hdg : decode cc pc = .ok (.aastore, 1))
    (kk : ∀ (H1 : Heap) (locs1 : List Loc), va_P D cl (ws.set q0 (a, .inl (cA, n, .inr (.inr (.inr (.inr (va_up f i (some v)))))))) H1 → va_D A (ws.set q0 (a, .inl (cA, n, .inr (.inr (.inr (.inr (va_up f i (some v)))))))) → va_S A H0 H1 locs1 → W p l e R s m args below meth c H1 locs1 cells slots Q (F0 m (pc + 1) ls rest)) : W p l e R s m args below meth c H locs cells slots Q (F0 m pc ls (.ref v :: .int j :: .ref a :: rest)) := by
  subst hj
  obtain ⟨qk, hqk⟩ := List.getElem?_of_mem hv
  refine va_astq hexec hb hK hP hD hS q0 t0 qk ci ha ht hqk hc (vp_in_nI hi.1 hi.2) hdg ?_
  rw [nI_clamp (Nat.lt_trans hi.1 hi.2)]
  exact kk
theorem zz_astqN (hexec : p.tables.exec = Jvm.exec) (hb : c.code = cc) (hK : va_K D cl tys s) (hP : va_P D cl ws H) (hD : va_D A ws) (hS : va_S A H0 H locs) (q0 t0 i : Nat) {j : Int32} {cA : ClassId} {C : String} {n : Nat} {f : Nat → Option Nat} (ha : ws[q0]? = some (a, .inl (cA, n, .inr (.inr (.inr (.inr f)))))) (ht : tys[t0]? = some (cA, .object C)) (hj : j = nI i) (hi : i < n ∧ n < 2 ^ 31) (hdg : decode cc pc = .ok (.aastore, 1))
    (kk : ∀ (H1 : Heap) (locs1 : List Loc), va_P D cl (ws.set q0 (a, .inl (cA, n, .inr (.inr (.inr (.inr (va_up f i none))))))) H1 → va_D A (ws.set q0 (a, .inl (cA, n, .inr (.inr (.inr (.inr (va_up f i none))))))) → va_S A H0 H1 locs1 → W p l e R s m args below meth c H1 locs1 cells slots Q (F0 m (pc + 1) ls rest)) : W p l e R s m args below meth c H locs cells slots Q (F0 m pc ls (.null :: .int j :: .ref a :: rest)) := by
  subst hj
  refine va_astqN hexec hb hK hP hD hS q0 t0 ha ht (vp_in_nI hi.1 hi.2) hdg ?_
  rw [nI_clamp (Nat.lt_trans hi.1 hi.2)]
  exact kk
end ZQ
/-- only the places below its length matter of a row of references -/
theorem zz_rowQ {D : va_G} {cl : List vw_C} {H : Heap} {a n : Nat} {cA : ClassId} {f g : Nat → Option Nat} (h : ∀ j, j < n → f j = g j) (hf : va_at D cl (a, .inl (cA, n, .inr (.inr (.inr (.inr f))))) H) : va_at D cl (a, .inl (cA, n, .inr (.inr (.inr (.inr g))))) H := by
  have e : vp_cell cA (n, .inr (.inr (.inr (.inr f)))) = vp_cell cA (n, .inr (.inr (.inr (.inr g)))) := by
    rw [vp_cell_q, vp_cell_q]
    unfold arrV
    congr 1
    apply Array.ext
    · simp
    · intro i h1 h2
      simp only [Array.getElem_ofFn]
      rw [h i (by simpa using h1)]
  show H[a]? = some (vp_cell cA (n, .inr (.inr (.inr (.inr g)))))
  rw [← e]
  exact hf
theorem zz_rowQP {D : va_G} {cl : List vw_C} {H : Heap} {ws : va_W} {q a n : Nat} {cA : ClassId} {f g : Nat → Option Nat} (hq : q < ws.length) (h : ∀ j, j < n → f j = g j) (hP : va_P D cl (ws.set q (a, .inl (cA, n, .inr (.inr (.inr (.inr f)))))) H) : va_P D cl (ws.set q (a, .inl (cA, n, .inr (.inr (.inr (.inr g)))))) H := by
  intro k x hk
  by_cases hkq : k = q
  · subst hkq
    rw [List.getElem?_set_self hq] at hk
    cases hk
    exact zz_rowQ h (hP k _ (List.getElem?_set_self hq))
  · rw [List.getElem?_set_ne (Ne.symm hkq)] at hk
    exact hP k x (by rw [List.getElem?_set_ne (Ne.symm hkq)]; exact hk)
/-- the states that are remembered, the oldest first, and one more -/
def memo (ct : Nat) (L : List HQ) : List HS := (L.take ct).map (fun q => q.2)
def pushM (l : List HS) (x : HS) : List HS := (if l.length = 14 then l.drop 1 else l) ++ [x]
def rotL (L : List HQ) : List HQ := L.drop 1 ++ L.take 1
/-- the row of addresses while it is moved down by one -/
def rotR (f : Nat → Option Nat) (i : Nat) : Nat → Option Nat := fun k => if k + 1 < i then f (k + 1) else f k
theorem rotR_at {f : Nat → Option Nat} {i : Nat} : rotR f i i = f i := by unfold rotR; rw [if_neg (by omega)]
theorem rotR_1 {f : Nat → Option Nat} : rotR f 1 = f := by funext k; unfold rotR; rw [if_neg (by omega)]
theorem rotR_up {f : Nat → Option Nat} {i : Nat} {v : Option Nat} (h : 1 ≤ i) (hv : f i = v) : va_up (rotR f i) (i - 1) v = rotR f (i + 1) := by
  funext k
  unfold va_up rotR
  by_cases hk : k = i - 1
  · rw [if_pos hk, if_pos (by omega), ← hv]
    congr 1
    omega
  · rw [if_neg hk]
    by_cases h2 : k + 1 < i
    · rw [if_pos h2, if_pos (by omega)]
    · rw [if_neg h2, if_neg (by omega)]
theorem rotR_end {L : List HQ} {q : HQ} (hl : L.length = 14) (hq : L[0]? = some q) (j : Nat) (hj : j < 14) : va_up (rotR (rwOf L) 14) 13 (some (q.1 0)) j = rwOf (rotL L) j := by
  unfold va_up rotR
  have h1 : (L.drop 1).length = 13 := by rw [List.length_drop]; omega
  by_cases h : j = 13
  · subst h
    rw [if_pos rfl]
    unfold rwOf rotL
    rw [List.getElem?_append_right (by omega), h1, List.getElem?_take_of_lt (by omega), show 13 - 13 = 0 from rfl, hq]
    rfl
  · rw [if_neg h, if_pos (by omega)]
    unfold rwOf rotL
    rw [List.getElem?_append_left (by omega), List.getElem?_drop, Nat.add_comm]
theorem pool_app {cy : Nat → ClassId} {L1 L2 : List HQ} : poolW cy (L1 ++ L2) = poolW cy L1 ++ poolW cy L2 := by
  unfold poolW
  rw [List.map_append, List.flatten_append]
theorem pool_rot {cy : Nat → ClassId} {L : List HQ} : (poolW cy L).Perm (poolW cy (rotL L)) := by
  have h : poolW cy L = poolW cy (L.take 1) ++ poolW cy (L.drop 1) := by rw [← pool_app, List.take_append_drop]
  rw [h, rotL, pool_app]
  exact List.perm_append_comm
theorem memo_rot {L : List HQ} (hl : L.length = 14) : memo 13 (rotL L) = (memo 14 L).drop 1 := by
  unfold memo rotL
  have h1 : (L.drop 1).length = 13 := by rw [List.length_drop]; omega
  rw [List.take_append_of_le_length (by omega), List.take_of_length_le (by omega), List.take_of_length_le (by omega), List.map_drop]
theorem memo_len {ct : Nat} {L : List HQ} (h : ct ≤ L.length) : (memo ct L).length = ct := by
  unfold memo
  rw [List.length_map, List.length_take]
  omega
theorem memo_set {ct : Nat} {L : List HQ} {q : HQ} {x : HS} (h : L[ct]? = some q) : memo (ct + 1) (L.set ct (q.1, x)) = memo ct L ++ [x] := by
  have hl := (List.getElem?_eq_some_iff.mp h).1
  unfold memo
  rw [List.take_add_one, List.getElem?_set_self hl, List.map_append, List.take_set_of_le (Nat.le_refl _)]
  rfl
theorem memo_push {ct : Nat} {L : List HQ} {q : HQ} (h : L.length = ct) : memo (ct + 1) (L ++ [q]) = memo ct L ++ [q.2] := by
  subst h
  unfold memo
  rw [List.take_of_length_le (by simp), List.take_of_length_le (by omega), List.map_append]
  rfl
theorem memo_last {ct : Nat} {L : List HQ} {q : HQ} (h : L[ct]? = some q) : memo (ct + 1) L = memo ct L ++ [q.2] := by
  unfold memo
  rw [List.take_add_one, h, List.map_append]
  rfl
theorem past_grow {cy : Nat → ClassId} (P N : va_W) {L : List HQ} {q : HQ} : (wj [P, poolW cy (L ++ [q]), N]).Perm (hotelW cy q.1 q.2 ++ wj [P, poolW cy L, N]) := by
  show (P ++ (poolW cy (L ++ [q]) ++ (N ++ []))).Perm (hotelW cy q.1 q.2 ++ (P ++ (poolW cy L ++ (N ++ []))))
  rw [pool_push, List.append_assoc]
  refine List.Perm.trans (List.Perm.append_left P ?_) (List.perm_append_comm_assoc _ _ _)
  exact List.perm_append_comm_assoc _ _ _
theorem hfs_X1 : ∀ j, j < 16 → defaultValue (tyX1 j) = vp_V [.null, .int 0, .int 0, .int 0, .int 0, .int 0, .int 0, .int 0, .null, .null, .null, .null, .null, .null, .null, .null] j := fun j hj => by
  rcases (show j = 0 ∨ j = 1 ∨ j = 2 ∨ j = 3 ∨ j = 4 ∨ j = 5 ∨ j = 6 ∨ j = 7 ∨ j = 8 ∨ j = 9 ∨ j = 10 ∨ j = 11 ∨ j = 12 ∨ j = 13 ∨ j = 14 ∨ j = 15 by omega) with rfl | rfl | rfl | rfl | rfl | rfl | rfl | rfl | rfl | rfl | rfl | rfl | rfl | rfl | rfl | rfl <;> rfl
abbrev rm_X3_isEmpty : Room := { frames := 0, cells := 0, slots := 0, locals := 0 }
set_option maxHeartbeats 4000000 in
set_option maxRecDepth 100000 in
theorem c_X3_isEmpty (l : Launch) (D : va_G) (cy : Nat → ClassId) (pa : Nat → Nat) (ct : Nat) (L : List HQ) (h1 : ct ≤ L.length) (h2 : L.length ≤ 14) : Met l yX3_isEmpty wsX3_isEmpty rm_X3_isEmpty (rdP D cy [.ref (pa 0)] (pastW cy pa ct L)) (QcRead (zb (ct = 0))) 0 0 (fun _ => False) := by
  refine Mrd (cc := cX3_isEmpty) (maxL := 1) (ty := .boolean) (by decide) rfl (Nat.le_of_ble_eq_true rfl) zb_nar ?_
  intro p e s m args below meth c Q ls hF hK hP hl hret
  obtain ⟨hx, hb, hml, hown, hts⟩ := id hF
  have hown : s.vm.findClass RX3 = some m.cls := hown
  have hin_X3 : ∀ w ∈ u_ws RX3 TX3 2, w ∈ wsX3_isEmpty := by decide +kernel
  have hl : lv_has ls 1 [(0, .ref (pa 0))] := hl
  refine lv_aload_n hx hb dX3_isEmpty_0 rfl (lv_at hl 0 rfl) ?_
  refine va_get (ci := 2) (v := .int (nI ct)) (C := RX3) (T := TX3) (N := 2) hx hb hts hin_X3 hown hK hP 0 rfl rfl 1 (by decide) (hts (.fieldLink RX3 15 "ButtonGuests$Past" "count" "I") (by decide +kernel)) (fun _ h9 => h9) rfl dX3_isEmpty_1 ?_
  refine lv_if_ne (tgt := 11) hx hb dX3_isEmpty_4 (by decide) (fun c_1 => ?_) (fun c_1 => ?_)
  · have c_1 : ¬ ct = 0 := fun q => c_1 ((nI_eq (a := ct) (b := 0) (by omega) (by omega)).mpr q)
    refine lv_iconst (v := 0) hx hb dX3_isEmpty_11 (by decide) ?_
    exact zz_top (zb_f c_1) (hret _ _ dX3_isEmpty_12)
  · have c_1 : ct = 0 := (nI_eq (a := ct) (b := 0) (by omega) (by omega)).mp c_1
    refine lv_iconst (v := 1) hx hb dX3_isEmpty_7 (by decide) ?_
    refine lv_goto (tgt := 12) hx hb dX3_isEmpty_8 (by decide) ?_
    exact zz_top (zb_t c_1) (hret _ _ dX3_isEmpty_12)
abbrev rm_X3_size : Room := { frames := 0, cells := 0, slots := 0, locals := 0 }
set_option maxHeartbeats 4000000 in
set_option maxRecDepth 100000 in
theorem c_X3_size (l : Launch) (D : va_G) (cy : Nat → ClassId) (pa : Nat → Nat) (ct : Nat) (L : List HQ) (h1 : ct ≤ L.length) (h2 : L.length ≤ 14) : Met l yX3_size wsX3_size rm_X3_size (rdP D cy [.ref (pa 0)] (pastW cy pa ct L)) (QcRead (nI ct)) 0 0 (fun _ => False) := by
  refine Mrd (cc := cX3_size) (maxL := 1) (ty := .int) (by decide) rfl (Nat.le_of_ble_eq_true rfl) rfl ?_
  intro p e s m args below meth c Q ls hF hK hP hl hret
  obtain ⟨hx, hb, hml, hown, hts⟩ := id hF
  have hown : s.vm.findClass RX3 = some m.cls := hown
  have hin_X3 : ∀ w ∈ u_ws RX3 TX3 2, w ∈ wsX3_size := by decide +kernel
  have hl : lv_has ls 1 [(0, .ref (pa 0))] := hl
  refine lv_aload_n hx hb dX3_size_0 rfl (lv_at hl 0 rfl) ?_
  refine va_get (ci := 2) (v := .int (nI ct)) (C := RX3) (T := TX3) (N := 2) hx hb hts hin_X3 hown hK hP 0 rfl rfl 1 (by decide) (hts (.fieldLink RX3 15 "ButtonGuests$Past" "count" "I") (by decide +kernel)) (fun _ h9 => h9) rfl dX3_size_1 ?_
  exact hret _ _ dX3_size_4
abbrev rm_X3_forgetAll : Room := { frames := 0, cells := 0, slots := 0, locals := 0 }
set_option maxHeartbeats 4000000 in
set_option maxRecDepth 100000 in
theorem c_X3_forgetAll (l : Launch) (D : va_G) (cy : Nat → ClassId) (pa : Nat → Nat) (ct : Nat) (L : List HQ) (h1 : ct ≤ L.length) (h2 : L.length ≤ 14) (sz : Nat) : Met l yX3_forgetAll wsX3_forgetAll rm_X3_forgetAll (wrP D cy [.ref (pa 0)] (pastW cy pa ct L) sz) (va_Qv (fun u : Unit => True) (wrB D (va_A (pastW cy pa ct L) sz) (fun u => pastW cy pa 0 L)) (va_A (pastW cy pa ct L) sz)) 0 0 (va_A (pastW cy pa ct L) sz) := by
  refine Mwv (cc := cX3_forgetAll) (maxL := 1) (by decide) rfl (Nat.le_of_ble_eq_true rfl) ?_
  intro p e s m args below meth c Q ls A hsz hinit hF hK hP hD hA hl hret
  obtain ⟨hx, hb, hml, hown, hts⟩ := id hF
  have hown : s.vm.findClass RX3 = some m.cls := hown
  have hin_X3 : ∀ w ∈ u_ws RX3 TX3 2, w ∈ wsX3_forgetAll := by decide +kernel
  have hl : lv_has ls 1 [(0, .ref (pa 0))] := hl
  suffices key : ∀ (H : Heap) (locs : List Loc), va_P D vwCl (pastW cy pa ct L) H → va_D A (pastW cy pa ct L) → va_S A s.heap H locs → W p l e rm_X3_forgetAll s m args below meth c H locs 0 0 Q (F0 m 0 ls []) from key s.heap [] hP hD va_S.rf
  intro H locs hP hD hS
  refine lv_aload_n hx hb dX3_forgetAll_0 rfl (lv_at hl 0 rfl) ?_
  refine lv_iconst (v := 0) hx hb dX3_forgetAll_1 (by decide) ?_
  refine va_put (ci := 2) (v := .int 0) (ty := .int) (C := RX3) (T := TX3) (N := 2) hx hb hts hin_X3 tyX3 tyX3_ok nmX3 hown hK hP hD hS 0 rfl rfl 1 (by decide) (hts (.fieldLink RX3 15 "ButtonGuests$Past" "count" "I") (by decide +kernel)) (fun _ h9 => h9) rfl (by decide +kernel) rfl rfl (Nat.le_of_ble_eq_true rfl) dX3_forgetAll_2 (fun H locs hP hD hS => ?_)
  have hP : va_P D vwCl ([(pa 0, .inr (2, [.ref (pa 1), .int 0])), (pa 1, .inl (cy 2, 14, .inr (.inr (.inr (.inr ((rwOf L)))))))]) H := hP
  have hD : va_D A ([(pa 0, .inr (2, [.ref (pa 1), .int 0])), (pa 1, .inl (cy 2, 14, .inr (.inr (.inr (.inr ((rwOf L)))))))]) := hD
  exact hret _ _ H locs () dX3_forgetAll_5 hP hD hS trivial
abbrev rm_X3_forgetOldest : Room := { frames := 0, cells := 0, slots := 0, locals := 0 }
set_option maxHeartbeats 4000000 in
set_option maxRecDepth 100000 in
theorem c_X3_forgetOldest (l : Launch) (D : va_G) (cy : Nat → ClassId) (pa : Nat → Nat) (ct : Nat) (L : List HQ) (hl14 : L.length = 14) (sz : Nat) : Met l yX3_forgetOldest wsX3_forgetOldest rm_X3_forgetOldest (wrP D cy [.ref (pa 0)] (pastW cy pa ct L ++ poolW cy L) sz) (va_Qv (fun u : Unit => True) (wrB D (va_A (pastW cy pa ct L ++ poolW cy L) sz) (fun u => pastW cy pa 13 (rotL L) ++ poolW cy (rotL L))) (va_A (pastW cy pa ct L ++ poolW cy L) sz)) 0 0 (va_A (pastW cy pa ct L ++ poolW cy L) sz) := by
  refine Mwv (cc := cX3_forgetOldest) (maxL := 3) (by decide) rfl (Nat.le_of_ble_eq_true rfl) ?_
  intro p e s m args below meth c Q ls A hsz hinit hF hK hP hD hA hl hret
  obtain ⟨hx, hb, hml, hown, hts⟩ := id hF
  have hown : s.vm.findClass RX3 = some m.cls := hown
  have hin_X3 : ∀ w ∈ u_ws RX3 TX3 2, w ∈ wsX3_forgetOldest := by decide +kernel
  have hl : lv_has ls 3 [(0, .ref (pa 0))] := hl
  suffices key : ∀ (H : Heap) (locs : List Loc), va_P D vwCl (pastW cy pa ct L ++ poolW cy L) H → va_D A (pastW cy pa ct L ++ poolW cy L) → va_S A s.heap H locs → W p l e rm_X3_forgetOldest s m args below meth c H locs 0 0 Q (F0 m 0 ls []) from key s.heap [] hP hD va_S.rf
  intro H locs hP hD hS
  refine lv_aload_n hx hb dX3_forgetOldest_0 rfl (lv_at hl 0 rfl) ?_
  refine va_get (ci := 2) (v := .ref (pa 1)) (C := RX3) (T := TX3) (N := 2) hx hb hts hin_X3 hown hK hP 0 rfl rfl 0 (by decide) (hts (.fieldLink RX3 11 "ButtonGuests$Past" "states" "[LButtonGuests$Hotel;") (by decide +kernel)) (fun _ h9 => h9) rfl dX3_forgetOldest_1 ?_
  refine lv_iconst (v := 0) hx hb dX3_forgetOldest_4 (by decide) ?_
  obtain ⟨q_1, hq_1⟩ : ∃ q, L[0]? = some q := ⟨_, List.getElem?_eq_getElem (by omega)⟩
  refine zz_aldq hx hb hK hP 1 2 0 rfl rfl rfl ⟨by omega, Nat.le_of_ble_eq_true rfl⟩ (v := some (q_1.1 0)) (rwOf_at hq_1) dX3_forgetOldest_5 ?_
  refine lv_astore_n (lv' := [(1, .ref (q_1.1 0)), (0, .ref (pa 0))]) hx hb dX3_forgetOldest_6 rfl hl (by decide) rfl (fun ls hl => ?_)
  have hP : va_P D vwCl ([(pa 0, .inr (2, [.ref (pa 1), .int (nI ct)])), (pa 1, .inl (cy 2, 14, .inr (.inr (.inr (.inr ((rotR (rwOf L) 1)))))))] ++ poolW cy L) H := by rw [rotR_1]; exact hP
  have hD : va_D A ([(pa 0, .inr (2, [.ref (pa 1), .int (nI ct)])), (pa 1, .inl (cy 2, 14, .inr (.inr (.inr (.inr ((rotR (rwOf L) 1)))))))] ++ poolW cy L) := by rw [rotR_1]; exact hD
  refine lv_iconst (v := 1) hx hb dX3_forgetOldest_7 (by decide) ?_
  refine lv_istore_n (lv' := [(2, .int 1), (1, .ref (q_1.1 0)), (0, .ref (pa 0))]) hx hb dX3_forgetOldest_8 rfl hl (by decide) rfl (fun ls hl => ?_)
  have loop : ∀ (k i : Nat), 1 ≤ i ∧ i ≤ 14 → 15 ≤ i + k → ∀ (H : Heap) (locs : List Loc) (ls : Array Slot), va_P D vwCl ([(pa 0, .inr (2, [.ref (pa 1), .int (nI ct)])), (pa 1, .inl (cy 2, 14, .inr (.inr (.inr (.inr ((rotR (rwOf L) i)))))))] ++ poolW cy L) H → va_D A ([(pa 0, .inr (2, [.ref (pa 1), .int (nI ct)])), (pa 1, .inl (cy 2, 14, .inr (.inr (.inr (.inr ((rotR (rwOf L) i)))))))] ++ poolW cy L) → va_S A s.heap H locs → lv_has ls 3 [(2, .int (nI i)), (1, .ref (q_1.1 0)), (0, .ref (pa 0))] → W p l e rm_X3_forgetOldest s m args below meth c H locs 0 0 Q (F0 m 9 ls []) := by
    intro k
    induction k with
    | zero =>
      intro i hi hk
      exact absurd hk (by omega)
    | succ k ih =>
      intro i hi hk H locs ls hP hD hS hl
      refine lv_iload_n hx hb dX3_forgetOldest_9 rfl (lv_at hl 0 rfl) ?_
      refine lv_aload_n hx hb dX3_forgetOldest_10 rfl (lv_at hl 2 rfl) ?_
      refine va_get (ci := 2) (v := .ref (pa 1)) (C := RX3) (T := TX3) (N := 2) hx hb hts hin_X3 hown hK hP 0 rfl rfl 0 (by decide) (hts (.fieldLink RX3 11 "ButtonGuests$Past" "states" "[LButtonGuests$Hotel;") (by decide +kernel)) (fun _ h9 => h9) rfl dX3_forgetOldest_11 ?_
      refine va_alen (v := 14) hx hb hK hP 1 2 rfl rfl rfl dX3_forgetOldest_14 ?_
      refine lv_icmp_ge (tgt := 38) hx hb dX3_forgetOldest_15 (by decide) (fun c_2 => ?_) (fun c_2 => ?_)
      · have c_2 : 14 ≤ i := (nI_leI (a := 14) (b := i) (by omega) (by omega)).mp c_2
        obtain rfl : i = 14 := by omega
        refine lv_aload_n hx hb dX3_forgetOldest_38 rfl (lv_at hl 2 rfl) ?_
        refine va_get (ci := 2) (v := .ref (pa 1)) (C := RX3) (T := TX3) (N := 2) hx hb hts hin_X3 hown hK hP 0 rfl rfl 0 (by decide) (hts (.fieldLink RX3 11 "ButtonGuests$Past" "states" "[LButtonGuests$Hotel;") (by decide +kernel)) (fun _ h9 => h9) rfl dX3_forgetOldest_39 ?_
        refine lv_aload_n hx hb dX3_forgetOldest_42 rfl (lv_at hl 2 rfl) ?_
        refine va_get (ci := 2) (v := .ref (pa 1)) (C := RX3) (T := TX3) (N := 2) hx hb hts hin_X3 hown hK hP 0 rfl rfl 0 (by decide) (hts (.fieldLink RX3 11 "ButtonGuests$Past" "states" "[LButtonGuests$Hotel;") (by decide +kernel)) (fun _ h9 => h9) rfl dX3_forgetOldest_43 ?_
        refine va_alen (v := 14) hx hb hK hP 1 2 rfl rfl rfl dX3_forgetOldest_46 ?_
        refine lv_iconst (v := 1) hx hb dX3_forgetOldest_47 (by decide) ?_
        refine lv_isub hx hb dX3_forgetOldest_48 ?_
        refine zz_top (y := 13) rfl ?_
        refine lv_aload_n hx hb dX3_forgetOldest_49 rfl (lv_at hl 1 rfl) ?_
        refine zz_astq hx hb hK hP hD hS 1 2 13 0 rfl rfl (vs := _) (List.mem_append_right _ (pool_mem hq_1 _ List.mem_cons_self)) rfl rfl ⟨by omega, Nat.le_of_ble_eq_true rfl⟩ dX3_forgetOldest_50 (fun H locs hP hD hS => ?_)
        have hP : va_P D vwCl ([(pa 0, .inr (2, [.ref (pa 1), .int (nI ct)])), (pa 1, .inl (cy 2, 14, .inr (.inr (.inr (.inr ((va_up ((rotR (rwOf L) 14)) 13 (some (q_1.1 0)))))))))] ++ poolW cy L) H := hP
        have hD : va_D A ([(pa 0, .inr (2, [.ref (pa 1), .int (nI ct)])), (pa 1, .inl (cy 2, 14, .inr (.inr (.inr (.inr ((va_up ((rotR (rwOf L) 14)) 13 (some (q_1.1 0)))))))))] ++ poolW cy L) := hD
        refine lv_aload_n hx hb dX3_forgetOldest_51 rfl (lv_at hl 2 rfl) ?_
        refine lv_aload_n hx hb dX3_forgetOldest_52 rfl (lv_at hl 2 rfl) ?_
        refine va_get (ci := 2) (v := .ref (pa 1)) (C := RX3) (T := TX3) (N := 2) hx hb hts hin_X3 hown hK hP 0 rfl rfl 0 (by decide) (hts (.fieldLink RX3 11 "ButtonGuests$Past" "states" "[LButtonGuests$Hotel;") (by decide +kernel)) (fun _ h9 => h9) rfl dX3_forgetOldest_53 ?_
        refine va_alen (v := 14) hx hb hK hP 1 2 rfl rfl rfl dX3_forgetOldest_56 ?_
        refine lv_iconst (v := 1) hx hb dX3_forgetOldest_57 (by decide) ?_
        refine lv_isub hx hb dX3_forgetOldest_58 ?_
        refine zz_top (y := 13) rfl ?_
        refine va_put (ci := 2) (v := .int 13) (ty := .int) (C := RX3) (T := TX3) (N := 2) hx hb hts hin_X3 tyX3 tyX3_ok nmX3 hown hK hP hD hS 0 rfl rfl 1 (by decide) (hts (.fieldLink RX3 15 "ButtonGuests$Past" "count" "I") (by decide +kernel)) (fun _ h9 => h9) rfl (by decide +kernel) rfl rfl (Nat.le_of_ble_eq_true rfl) dX3_forgetOldest_59 (fun H locs hP hD hS => ?_)
        have hP : va_P D vwCl ([(pa 0, .inr (2, [.ref (pa 1), .int 13])), (pa 1, .inl (cy 2, 14, .inr (.inr (.inr (.inr ((va_up ((rotR (rwOf L) 14)) 13 (some (q_1.1 0)))))))))] ++ poolW cy L) H := hP
        have hD : va_D A ([(pa 0, .inr (2, [.ref (pa 1), .int 13])), (pa 1, .inl (cy 2, 14, .inr (.inr (.inr (.inr ((va_up ((rotR (rwOf L) 14)) 13 (some (q_1.1 0)))))))))] ++ poolW cy L) := hD
        have hj := zz_rowQP (ws := [(pa 0, .inr (2, [.ref (pa 1), .int 13])), (pa 1, .inl (cy 2, 14, .inr (.inr (.inr (.inr ((rotR (rwOf L) 14)))))))] ++ poolW cy L) (q := 1) (a := pa 1) (n := 14) (Nat.lt_of_lt_of_le (by decide : 1 < 2) (by simp)) (rotR_end hl14 hq_1) hP
        have hj2 := zz_rowD (q := 1) (ws := [(pa 0, .inr (2, [.ref (pa 1), .int 13])), (pa 1, .inl (cy 2, 14, .inr (.inr (.inr (.inr ((rotR (rwOf L) 14)))))))] ++ poolW cy L) (a := pa 1) (e2 := .inl (cy 2, 14, .inr (.inr (.inr (.inr (rwOf (rotL L))))))) hD
        exact hret _ _ H locs () dX3_forgetOldest_62 (zz_Pp (ws := pastW cy pa 13 (rotL L) ++ poolW cy L) hj (List.Perm.append_left _ pool_rot)) (zz_Dp (ws := pastW cy pa 13 (rotL L) ++ poolW cy L) hj2 (List.Perm.append_left _ pool_rot)) hS trivial
      · have c_2 : ¬ 14 ≤ i := fun q => c_2 ((nI_leI (a := 14) (b := i) (by omega) (by omega)).mpr q)
        refine lv_aload_n hx hb dX3_forgetOldest_18 rfl (lv_at hl 2 rfl) ?_
        refine va_get (ci := 2) (v := .ref (pa 1)) (C := RX3) (T := TX3) (N := 2) hx hb hts hin_X3 hown hK hP 0 rfl rfl 0 (by decide) (hts (.fieldLink RX3 11 "ButtonGuests$Past" "states" "[LButtonGuests$Hotel;") (by decide +kernel)) (fun _ h9 => h9) rfl dX3_forgetOldest_19 ?_
        refine lv_iload_n hx hb dX3_forgetOldest_22 rfl (lv_at hl 0 rfl) ?_
        refine lv_iconst (v := 1) hx hb dX3_forgetOldest_23 (by decide) ?_
        refine lv_isub hx hb dX3_forgetOldest_24 ?_
        refine zz_top (y := nI (i - 1)) (pk_sub (a := i) (b := 1) hi.1) ?_
        refine lv_aload_n hx hb dX3_forgetOldest_25 rfl (lv_at hl 2 rfl) ?_
        refine va_get (ci := 2) (v := .ref (pa 1)) (C := RX3) (T := TX3) (N := 2) hx hb hts hin_X3 hown hK hP 0 rfl rfl 0 (by decide) (hts (.fieldLink RX3 11 "ButtonGuests$Past" "states" "[LButtonGuests$Hotel;") (by decide +kernel)) (fun _ h9 => h9) rfl dX3_forgetOldest_26 ?_
        refine lv_iload_n hx hb dX3_forgetOldest_29 rfl (lv_at hl 0 rfl) ?_
        obtain ⟨q_3, hq_3⟩ : ∃ q, L[i]? = some q := ⟨_, List.getElem?_eq_getElem (by omega)⟩
        refine zz_aldq hx hb hK hP 1 2 i rfl rfl rfl ⟨by omega, Nat.le_of_ble_eq_true rfl⟩ (v := some (q_3.1 0)) ((rotR_at).trans (rwOf_at hq_3)) dX3_forgetOldest_30 ?_
        refine zz_astq hx hb hK hP hD hS 1 2 (i - 1) 0 rfl rfl (vs := _) (List.mem_append_right _ (pool_mem hq_3 _ List.mem_cons_self)) rfl rfl ⟨by omega, Nat.le_of_ble_eq_true rfl⟩ dX3_forgetOldest_31 (fun H locs hP hD hS => ?_)
        rw [rotR_up hi.1 (rwOf_at hq_3)] at hP hD
        have hP : va_P D vwCl ([(pa 0, .inr (2, [.ref (pa 1), .int (nI ct)])), (pa 1, .inl (cy 2, 14, .inr (.inr (.inr (.inr ((rotR (rwOf L) (i + 1))))))))] ++ poolW cy L) H := hP
        have hD : va_D A ([(pa 0, .inr (2, [.ref (pa 1), .int (nI ct)])), (pa 1, .inl (cy 2, 14, .inr (.inr (.inr (.inr ((rotR (rwOf L) (i + 1))))))))] ++ poolW cy L) := hD
        refine lv_iinc (v := nI (i + 1)) (lv' := [(2, .int (nI (i + 1))), (1, .ref (q_1.1 0)), (0, .ref (pa 0))]) hx hb dX3_forgetOldest_32 hl (k := 0) rfl (nI_add (i) 1) (by decide) rfl (fun ls hl => ?_)
        refine lv_goto (tgt := 9) hx hb dX3_forgetOldest_35 (by decide) ?_
        exact ih (i + 1) (by omega) (by omega) _ _ _ hP hD hS (lv_sub hl [0, 1, 2] rfl)
  exact loop 14 1 (by omega) (by omega) _ _ _ hP hD hS (lv_sub hl [0, 1, 2] rfl)
abbrev rm_X3_takeBack : Room := { frames := 2, cells := 0, slots := 0, locals := 81 }
set_option maxHeartbeats 4000000 in
set_option maxRecDepth 100000 in
theorem c_X3_takeBack (l : Launch) (D : va_G) (cy : Nat → ClassId) (pa : Nat → Nat) (ct : Nat) (L : List HQ) (h1 : ct + 1 ≤ L.length) (h2 : L.length ≤ 14) (h : Nat → Nat) (x : HS) (sz : Nat) : Met l yX3_takeBack wsX3_takeBack rm_X3_takeBack (wrP D cy [.ref (pa 0), .ref (h 0)] (wj [pastW cy pa ((ct + 1)) L, poolW cy L, hotelW cy h x]) sz) (va_Qv (fun u : HS => memo (ct + 1) L = memo ct L ++ [u]) (wrB D (va_A (wj [pastW cy pa ((ct + 1)) L, poolW cy L, hotelW cy h x]) sz) (fun u => wj [pastW cy pa ct L, poolW cy L, hotelW cy h u])) (va_A (wj [pastW cy pa ((ct + 1)) L, poolW cy L, hotelW cy h x]) sz)) 0 0 (va_A (wj [pastW cy pa ((ct + 1)) L, poolW cy L, hotelW cy h x]) sz) := by
  refine Mwv (cc := cX3_takeBack) (maxL := 3) (by decide) rfl (Nat.le_of_ble_eq_true rfl) ?_
  intro p e s m args below meth c Q ls A hsz hinit hF hK hP hD hA hl hret
  obtain ⟨hx, hb, hml, hown, hts⟩ := id hF
  have hown : s.vm.findClass RX3 = some m.cls := hown
  have hin_X3 : ∀ w ∈ u_ws RX3 TX3 2, w ∈ wsX3_takeBack := by decide +kernel
  have hl : lv_has ls 3 [(0, .ref (pa 0)), (1, .ref (h 0))] := hl
  suffices key : ∀ (H : Heap) (locs : List Loc), va_P D vwCl (wj [pastW cy pa ((ct + 1)) L, poolW cy L, hotelW cy h x]) H → va_D A (wj [pastW cy pa ((ct + 1)) L, poolW cy L, hotelW cy h x]) → va_S A s.heap H locs → W p l e rm_X3_takeBack s m args below meth c H locs 0 0 Q (F0 m 0 ls []) from key s.heap [] hP hD va_S.rf
  intro H locs hP hD hS
  refine lv_aload_n hx hb dX3_takeBack_0 rfl (lv_at hl 0 rfl) ?_
  refine va_get (ci := 2) (v := .int (nI ((ct + 1)))) (C := RX3) (T := TX3) (N := 2) hx hb hts hin_X3 hown hK hP 0 rfl rfl 1 (by decide) (hts (.fieldLink RX3 15 "ButtonGuests$Past" "count" "I") (by decide +kernel)) (fun _ h9 => h9) rfl dX3_takeBack_1 ?_
  refine lv_if_gt (tgt := 8) hx hb dX3_takeBack_4 (by decide) (fun c_1 => ?_) (fun c_1 => ?_)
  · have c_1 : 0 < (ct + 1) := (nI_ltI (a := 0) (b := (ct + 1)) (by omega) (by omega)).mp c_1
    refine lv_aload_n hx hb dX3_takeBack_8 rfl (lv_at hl 0 rfl) ?_
    refine lv_dup hx hb dX3_takeBack_9 rfl ?_
    refine va_get (ci := 2) (v := .int (nI ((ct + 1)))) (C := RX3) (T := TX3) (N := 2) hx hb hts hin_X3 hown hK hP 0 rfl rfl 1 (by decide) (hts (.fieldLink RX3 15 "ButtonGuests$Past" "count" "I") (by decide +kernel)) (fun _ h9 => h9) rfl dX3_takeBack_10 ?_
    refine lv_iconst (v := 1) hx hb dX3_takeBack_13 (by decide) ?_
    refine lv_isub hx hb dX3_takeBack_14 ?_
    refine zz_top (y := nI ct) (nI_pred ct) ?_
    refine va_put (ci := 2) (v := .int (nI ct)) (ty := .int) (C := RX3) (T := TX3) (N := 2) hx hb hts hin_X3 tyX3 tyX3_ok nmX3 hown hK hP hD hS 0 rfl rfl 1 (by decide) (hts (.fieldLink RX3 15 "ButtonGuests$Past" "count" "I") (by decide +kernel)) (fun _ h9 => h9) rfl (by decide +kernel) rfl rfl (Nat.le_of_ble_eq_true rfl) dX3_takeBack_15 (fun H locs hP hD hS => ?_)
    have hP : va_P D vwCl (wj [pastW cy pa ct L, poolW cy L, hotelW cy h x]) H := hP
    have hD : va_D A (wj [pastW cy pa ct L, poolW cy L, hotelW cy h x]) := hD
    refine lv_aload_n hx hb dX3_takeBack_18 rfl (lv_at hl 0 rfl) ?_
    refine va_get (ci := 2) (v := .ref (pa 1)) (C := RX3) (T := TX3) (N := 2) hx hb hts hin_X3 hown hK hP 0 rfl rfl 0 (by decide) (hts (.fieldLink RX3 11 "ButtonGuests$Past" "states" "[LButtonGuests$Hotel;") (by decide +kernel)) (fun _ h9 => h9) rfl dX3_takeBack_19 ?_
    refine lv_aload_n hx hb dX3_takeBack_22 rfl (lv_at hl 0 rfl) ?_
    refine va_get (ci := 2) (v := .int (nI ct)) (C := RX3) (T := TX3) (N := 2) hx hb hts hin_X3 hown hK hP 0 rfl rfl 1 (by decide) (hts (.fieldLink RX3 15 "ButtonGuests$Past" "count" "I") (by decide +kernel)) (fun _ h9 => h9) rfl dX3_takeBack_23 ?_
    obtain ⟨q_2, hq_2⟩ : ∃ q, L[ct]? = some q := ⟨_, List.getElem?_eq_getElem (by omega)⟩
    refine zz_aldq hx hb hK hP 1 2 ct rfl rfl rfl ⟨by omega, Nat.le_of_ble_eq_true rfl⟩ (v := some (q_2.1 0)) (rwOf_at hq_2) dX3_takeBack_26 ?_
    refine lv_astore_n (lv' := [(2, .ref (q_2.1 0)), (0, .ref (pa 0)), (1, .ref (h 0))]) hx hb dX3_takeBack_27 rfl hl (by decide) rfl (fun ls hl => ?_)
    refine lv_aload_n hx hb dX3_takeBack_28 rfl (lv_at hl 0 rfl) ?_
    refine lv_ifnull hx hb dX3_takeBack_29 ?_
    refine lv_aload_n hx hb dX3_takeBack_32 rfl (lv_at hl 2 rfl) ?_
    refine lv_aload_n hx hb dX3_takeBack_33 rfl (lv_at hl 0 rfl) ?_
    refine wr_v (fun u => wj [pastW cy pa ct L, poolW cy L, hotelW cy h u]) (va_runV (As := [.ref (q_2.1 0)]) (rest := []) hF (c_X1_copyFrom l D cy h q_2.1 x q_2.2 H.size) (cwV 1 hts gX3_takeBack_X1_copyFrom rfl rfl rfl (by decide +kernel) ⟨Nat.le_of_ble_eq_true rfl, Nat.le_of_ble_eq_true rfl⟩) (wr_preV hK hP hD ((past_split (pastW cy pa ct L) (hotelW cy h x) hq_2).trans (List.Perm.append_right _ List.perm_append_comm)) 0 0 rfl rfl rfl) rfl rfl hl.1 rfl (lv_room (Nat.le_of_ble_eq_true rfl)) dX3_takeBack_34 ⟨Nat.le_of_ble_eq_true rfl, Nat.le_of_ble_eq_true rfl⟩) hP hD hS hA ((past_split (pastW cy pa ct L) (hotelW cy h x) hq_2).trans (List.Perm.append_right _ List.perm_append_comm)) (fun u => (past_split (pastW cy pa ct L) (hotelW cy h u) hq_2).trans (List.Perm.append_right _ List.perm_append_comm)) (fun u_3 H locs e_4 hP hD hS => ?_)
    obtain rfl : u_3 = q_2.2 := e_4
    have hP : va_P D vwCl (wj [pastW cy pa ct L, poolW cy L, hotelW cy h q_2.2]) H := hP
    have hD : va_D A (wj [pastW cy pa ct L, poolW cy L, hotelW cy h q_2.2]) := hD
    exact hret _ _ H locs _ dX3_takeBack_37 hP hD hS (memo_last hq_2)
  · exact absurd c_1 (fun q => q (nI_lt (a := 0) (Nat.succ_pos ct) (by omega)))
abbrev rm_X3_remember : Room := { frames := 2, cells := 10, slots := 51, locals := 81 }
set_option maxHeartbeats 4000000 in
set_option maxRecDepth 100000 in
theorem c_X3_remember (l : Launch) (D : va_G) (cy : Nat → ClassId) (pa : Nat → Nat) (ct : Nat) (L : List HQ) (h1 : ct ≤ L.length) (h2 : L.length ≤ 14) (h : Nat → Nat) (x : HS) (sz : Nat) : Met l yX3_remember wsX3_remember rm_X3_remember (wrX D cy [.ref (pa 0), .ref (h 0)] (wj [pastW cy pa ct L, poolW cy L, hotelW cy h x]) sz (Gn)) (va_Qv (fun u : Nat × List HQ => u.1 ≤ u.2.length ∧ u.2.length ≤ 14 ∧ memo u.1 u.2 = pushM (memo ct L) x) (wrB D (va_A (wj [pastW cy pa ct L, poolW cy L, hotelW cy h x]) sz) (fun u => wj [pastW cy pa u.1 u.2, poolW cy u.2, hotelW cy h x])) (va_A (wj [pastW cy pa ct L, poolW cy L, hotelW cy h x]) sz)) 10 51 (va_A (wj [pastW cy pa ct L, poolW cy L, hotelW cy h x]) sz) := by
  refine MwvX (cc := cX3_remember) (maxL := 3) (by decide) rfl (Nat.le_of_ble_eq_true rfl) ?_
  intro p e s m args below meth c Q ls A hAe hsz hinit hX0 hF hK hP hD hA hl hret
  have hGn : Gn s := hX0
  obtain ⟨hx, hb, hml, hown, hts⟩ := id hF
  have hown : s.vm.findClass RX3 = some m.cls := hown
  have hin_X1 : ∀ w ∈ u_ws RX1 TX1 16, w ∈ wsX3_remember := by decide +kernel
  have hin_X3 : ∀ w ∈ u_ws RX3 TX3 2, w ∈ wsX3_remember := by decide +kernel
  have hl : lv_has ls 3 [(0, .ref (pa 0)), (1, .ref (h 0))] := hl
  suffices key : ∀ (H : Heap) (locs : List Loc), va_P D vwCl (wj [pastW cy pa ct L, poolW cy L, hotelW cy h x]) H → va_D A (wj [pastW cy pa ct L, poolW cy L, hotelW cy h x]) → va_S A s.heap H locs → W p l e rm_X3_remember s m args below meth c H locs 0 0 Q (F0 m 0 ls []) from key s.heap [] hP hD va_S.rf
  intro H locs hP hD hS
  have join1 : ∀ (c1 : Nat) (L1 : List HQ), c1 < 14 → c1 ≤ L1.length → L1.length ≤ 14 → memo c1 L1 = (if (memo ct L).length = 14 then (memo ct L).drop 1 else memo ct L) → ∀ (H : Heap) (locs : List Loc) (ls : Array Slot), va_P D vwCl (wj [pastW cy pa c1 L1, poolW cy L1, hotelW cy h x]) H → va_D A (wj [pastW cy pa c1 L1, poolW cy L1, hotelW cy h x]) → va_S A s.heap H locs → lv_has ls 3 [(0, .ref (pa 0)), (1, .ref (h 0))] → W p l e rm_X3_remember s m args below meth c H locs 0 0 Q (F0 m 16 ls []) := by
    intro c1 L1 hc hc2 hc3 hm H locs ls hP hD hS hl
    refine lv_aload_n hx hb dX3_remember_16 rfl (lv_at hl 0 rfl) ?_
    refine va_get (ci := 2) (v := .ref (pa 1)) (C := RX3) (T := TX3) (N := 2) hx hb hts hin_X3 hown hK hP 0 rfl rfl 0 (by decide) (hts (.fieldLink RX3 11 "ButtonGuests$Past" "states" "[LButtonGuests$Hotel;") (by decide +kernel)) (fun _ h9 => h9) rfl dX3_remember_17 ?_
    refine lv_aload_n hx hb dX3_remember_20 rfl (lv_at hl 0 rfl) ?_
    refine va_get (ci := 2) (v := .int (nI c1)) (C := RX3) (T := TX3) (N := 2) hx hb hts hin_X3 hown hK hP 0 rfl rfl 1 (by decide) (hts (.fieldLink RX3 15 "ButtonGuests$Past" "count" "I") (by decide +kernel)) (fun _ h9 => h9) rfl dX3_remember_21 ?_
    by_cases hlt : c1 < L1.length
    · obtain ⟨q_1, hq_1⟩ : ∃ q, L1[c1]? = some q := ⟨_, List.getElem?_eq_getElem (by omega)⟩
      refine zz_aldq hx hb hK hP 1 2 c1 rfl rfl rfl ⟨by omega, Nat.le_of_ble_eq_true rfl⟩ (v := some (q_1.1 0)) (rwOf_at hq_1) dX3_remember_24 ?_
      refine lv_astore_n (lv' := [(2, .ref (q_1.1 0)), (0, .ref (pa 0)), (1, .ref (h 0))]) hx hb dX3_remember_25 rfl hl (by decide) rfl (fun ls hl => ?_)
      refine lv_aload_n hx hb dX3_remember_26 rfl (lv_at hl 0 rfl) ?_
      refine lv_ifnonnull (tgt := 48) hx hb dX3_remember_27 (by decide) ?_
      refine lv_aload_n hx hb dX3_remember_48 rfl (lv_at hl 0 rfl) ?_
      refine lv_aload_n hx hb dX3_remember_49 rfl (lv_at hl 2 rfl) ?_
      refine wr_v (fun u => wj [pastW cy pa c1 L1, poolW cy (L1.set c1 (q_1.1, u)), hotelW cy h x]) (va_runV (As := [.ref (h 0)]) (rest := []) hF (c_X1_copyFrom l D cy q_1.1 h q_1.2 x H.size) (cwV 1 hts gX3_remember_X1_copyFrom rfl rfl rfl (by decide +kernel) ⟨Nat.le_of_ble_eq_true rfl, Nat.le_of_ble_eq_true rfl⟩) (wr_preV hK hP hD (past_split (pastW cy pa c1 L1) (hotelW cy h x) hq_1) 0 0 rfl rfl rfl) rfl rfl hl.1 rfl (lv_room (Nat.le_of_ble_eq_true rfl)) dX3_remember_50 ⟨Nat.le_of_ble_eq_true rfl, Nat.le_of_ble_eq_true rfl⟩) hP hD hS hA (past_split (pastW cy pa c1 L1) (hotelW cy h x) hq_1) (fun u => past_join (q2 := (q_1.1, u)) (pastW cy pa c1 L1) (hotelW cy h x) hq_1) (fun u_2 H locs e_3 hP hD hS => ?_)
      obtain rfl : x = u_2 := e_3.symm
      have hP : va_P D vwCl (wj [pastW cy pa c1 L1, poolW cy (L1.set c1 (q_1.1, x)), hotelW cy h x]) H := hP
      have hD : va_D A (wj [pastW cy pa c1 L1, poolW cy (L1.set c1 (q_1.1, x)), hotelW cy h x]) := hD
      refine lv_aload_n hx hb dX3_remember_53 rfl (lv_at hl 1 rfl) ?_
      refine lv_dup hx hb dX3_remember_54 rfl ?_
      refine va_get (ci := 2) (v := .int (nI c1)) (C := RX3) (T := TX3) (N := 2) hx hb hts hin_X3 hown hK hP 0 rfl rfl 1 (by decide) (hts (.fieldLink RX3 15 "ButtonGuests$Past" "count" "I") (by decide +kernel)) (fun _ h9 => h9) rfl dX3_remember_55 ?_
      refine lv_iconst (v := 1) hx hb dX3_remember_58 (by decide) ?_
      refine lv_iadd hx hb dX3_remember_59 ?_
      refine zz_top (y := nI (c1 + 1)) (nI_1 c1) ?_
      refine va_put (ci := 2) (v := .int (nI (c1 + 1))) (ty := .int) (C := RX3) (T := TX3) (N := 2) hx hb hts hin_X3 tyX3 tyX3_ok nmX3 hown hK hP hD hS 0 rfl rfl 1 (by decide) (hts (.fieldLink RX3 15 "ButtonGuests$Past" "count" "I") (by decide +kernel)) (fun _ h9 => h9) rfl (by decide +kernel) rfl rfl (Nat.le_of_ble_eq_true rfl) dX3_remember_60 (fun H locs hP hD hS => ?_)
      have hP : va_P D vwCl (wj [pastW cy pa (c1 + 1) L1, poolW cy (L1.set c1 (q_1.1, x)), hotelW cy h x]) H := hP
      have hD : va_D A (wj [pastW cy pa (c1 + 1) L1, poolW cy (L1.set c1 (q_1.1, x)), hotelW cy h x]) := hD
      exact W.widen (k := 10) (n := 51) (Nat.le_of_ble_eq_true rfl) (Nat.le_of_ble_eq_true rfl) (hret _ _ H locs (c1 + 1, (L1.set c1 (q_1.1, x))) dX3_remember_63 (show va_P D vwCl (wj [pastW cy pa (c1 + 1) (L1.set c1 (q_1.1, x)), poolW cy (L1.set c1 (q_1.1, x)), hotelW cy h x]) H by unfold pastW; rw [rwOf_set hq_1]; exact hP) (show va_D A (wj [pastW cy pa (c1 + 1) (L1.set c1 (q_1.1, x)), poolW cy (L1.set c1 (q_1.1, x)), hotelW cy h x]) by unfold pastW; rw [rwOf_set hq_1]; exact hD) hS ⟨by simp only [List.length_set]; omega, by simp only [List.length_set]; omega, by rw [memo_set hq_1, hm]; rfl⟩)
    · obtain rfl : c1 = L1.length := by omega
      refine zz_aldq hx hb hK hP 1 2 L1.length rfl rfl rfl ⟨by omega, Nat.le_of_ble_eq_true rfl⟩ (v := none) (rwOf_none (Nat.le_refl _)) dX3_remember_24 ?_
      show W _ _ _ _ _ _ _ _ _ _ _ _ _ _ _ (F0 m 25 ls [.null])
      refine lv_astore_nN (lv' := [(2, .null), (0, .ref (pa 0)), (1, .ref (h 0))]) hx hb dX3_remember_25 rfl hl (by decide) rfl (fun ls hl => ?_)
      refine lv_aload_nN hx hb dX3_remember_26 rfl (lv_at hl 0 rfl) ?_
      refine lv_ifnonnullN hx hb dX3_remember_27 ?_
      refine va_new (ci := 0) (fs := [.null, .int 0, .int 0, .int 0, .int 0, .int 0, .int 0, .int 0, .null, .null, .null, .null, .null, .null, .null, .null]) (C := RX1) (T := TX1) (N := 16) hx hb hts hin_X1 tyX1 tyX1_ok hown (hts (.classLink RX3 9 RX1) (by decide +kernel)) (hts (.instantiable RX1 16) (by decide +kernel)) (hts (.initialized RX1) (by decide +kernel)) hK hP hD hS hA rfl hfs_X1 (Nat.le_of_ble_eq_true rfl) (Nat.le_of_ble_eq_true rfl) dX3_remember_30 (fun q_4 H hP hD hS => ?_)
      refine lv_dup hx hb dX3_remember_33 rfl ?_
      refine wr_v (fun u => wj [pastW cy pa L1.length L1, poolW cy (L1 ++ [(u, hot0)]), hotelW cy h x]) (va_runIN (As := []) (rest := [.ref q_4]) hF (c_X1_init l D cy q_4 H.size) ⟨va_cnB 0 hts gX3_remember_X1_init_n22 rfl rfl rfl hGn.1 (hts (.initialized RX1) (by decide +kernel)) (by decide +kernel) ⟨Nat.le_of_ble_eq_true rfl, Nat.le_of_ble_eq_true rfl⟩, rfl, hts (.instanceMethod yX1_init) (by decide +kernel)⟩ (wr_preS hK hP hD List.perm_append_comm) rfl rfl hl.1 rfl (lv_room (Nat.le_of_ble_eq_true rfl)) dX3_remember_34 ⟨Nat.le_of_ble_eq_true rfl, Nat.le_of_ble_eq_true rfl⟩) hP hD hS hA List.perm_append_comm (fun u => past_grow (q := (u, hot0)) (pastW cy pa L1.length L1) (hotelW cy h x)) (fun u_5 H locs e_6 => ?_)
      subst e_6
      intro hP hD hS
      have hP : va_P D vwCl (wj [pastW cy pa L1.length L1, poolW cy (L1 ++ [(u_5, hot0)]), hotelW cy h x]) H := hP
      have hD : va_D A (wj [pastW cy pa L1.length L1, poolW cy (L1 ++ [(u_5, hot0)]), hotelW cy h x]) := hD
      refine lv_astore_n (lv' := [(2, .ref (u_5 0)), (0, .ref (pa 0)), (1, .ref (h 0))]) hx hb dX3_remember_37 rfl hl (by decide) rfl (fun ls hl => ?_)
      refine lv_aload_n hx hb dX3_remember_38 rfl (lv_at hl 1 rfl) ?_
      refine va_get (ci := 2) (v := .ref (pa 1)) (C := RX3) (T := TX3) (N := 2) hx hb hts hin_X3 hown hK hP 0 rfl rfl 0 (by decide) (hts (.fieldLink RX3 11 "ButtonGuests$Past" "states" "[LButtonGuests$Hotel;") (by decide +kernel)) (fun _ h9 => h9) rfl dX3_remember_39 ?_
      refine lv_aload_n hx hb dX3_remember_42 rfl (lv_at hl 1 rfl) ?_
      refine va_get (ci := 2) (v := .int (nI L1.length)) (C := RX3) (T := TX3) (N := 2) hx hb hts hin_X3 hown hK hP 0 rfl rfl 1 (by decide) (hts (.fieldLink RX3 15 "ButtonGuests$Past" "count" "I") (by decide +kernel)) (fun _ h9 => h9) rfl dX3_remember_43 ?_
      refine lv_aload_n hx hb dX3_remember_46 rfl (lv_at hl 0 rfl) ?_
      refine zz_astq hx hb hK hP hD hS 1 2 L1.length 0 rfl rfl (vs := _) (List.mem_append_right _ (List.mem_append_left _ (pool_mem (L := L1 ++ [(u_5, hot0)]) (k := L1.length) (q := (u_5, hot0)) (by simp) _ List.mem_cons_self))) rfl rfl ⟨by omega, Nat.le_of_ble_eq_true rfl⟩ dX3_remember_47 (fun H locs hP hD hS => ?_)
      rw [show va_up (rwOf L1) L1.length (some (u_5 0)) = _ from rwOf_push (q := (u_5, hot0))] at hP hD
      have hP : va_P D vwCl (wj [pastW cy pa L1.length ((L1 ++ [(u_5, hot0)])), poolW cy (L1 ++ [(u_5, hot0)]), hotelW cy h x]) H := hP
      have hD : va_D A (wj [pastW cy pa L1.length ((L1 ++ [(u_5, hot0)])), poolW cy (L1 ++ [(u_5, hot0)]), hotelW cy h x]) := hD
      refine lv_aload_n hx hb dX3_remember_48 rfl (lv_at hl 0 rfl) ?_
      refine lv_aload_n hx hb dX3_remember_49 rfl (lv_at hl 2 rfl) ?_
      refine wr_v (fun u => wj [pastW cy pa L1.length ((L1 ++ [(u_5, hot0)])), poolW cy ((L1 ++ [(u_5, hot0)]).set L1.length (u_5, u)), hotelW cy h x]) (va_runV (As := [.ref (h 0)]) (rest := []) hF (c_X1_copyFrom l D cy u_5 h hot0 x H.size) (cwV 1 hts gX3_remember_X1_copyFrom rfl rfl rfl (by decide +kernel) ⟨Nat.le_of_ble_eq_true rfl, Nat.le_of_ble_eq_true rfl⟩) (wr_preV hK hP hD (past_split (pastW cy pa L1.length ((L1 ++ [(u_5, hot0)]))) (hotelW cy h x) (show (L1 ++ [(u_5, hot0)])[L1.length]? = some (u_5, hot0) by simp)) 0 0 rfl rfl rfl) rfl rfl hl.1 rfl (lv_room (Nat.le_of_ble_eq_true rfl)) dX3_remember_50 ⟨Nat.le_of_ble_eq_true rfl, Nat.le_of_ble_eq_true rfl⟩) hP hD hS hA (past_split (pastW cy pa L1.length ((L1 ++ [(u_5, hot0)]))) (hotelW cy h x) (show (L1 ++ [(u_5, hot0)])[L1.length]? = some (u_5, hot0) by simp)) (fun u => past_join (q2 := (u_5, u)) (pastW cy pa L1.length ((L1 ++ [(u_5, hot0)]))) (hotelW cy h x) (show (L1 ++ [(u_5, hot0)])[L1.length]? = some (u_5, hot0) by simp)) (fun u_7 H locs e_8 hP hD hS => ?_)
      obtain rfl : x = u_7 := e_8.symm
      have hP : va_P D vwCl (wj [pastW cy pa L1.length ((L1 ++ [(u_5, hot0)])), poolW cy ((L1 ++ [(u_5, hot0)]).set L1.length (u_5, x)), hotelW cy h x]) H := hP
      have hD : va_D A (wj [pastW cy pa L1.length ((L1 ++ [(u_5, hot0)])), poolW cy ((L1 ++ [(u_5, hot0)]).set L1.length (u_5, x)), hotelW cy h x]) := hD
      refine lv_aload_n hx hb dX3_remember_53 rfl (lv_at hl 1 rfl) ?_
      refine lv_dup hx hb dX3_remember_54 rfl ?_
      refine va_get (ci := 2) (v := .int (nI L1.length)) (C := RX3) (T := TX3) (N := 2) hx hb hts hin_X3 hown hK hP 0 rfl rfl 1 (by decide) (hts (.fieldLink RX3 15 "ButtonGuests$Past" "count" "I") (by decide +kernel)) (fun _ h9 => h9) rfl dX3_remember_55 ?_
      refine lv_iconst (v := 1) hx hb dX3_remember_58 (by decide) ?_
      refine lv_iadd hx hb dX3_remember_59 ?_
      refine zz_top (y := nI (L1.length + 1)) (nI_1 L1.length) ?_
      refine va_put (ci := 2) (v := .int (nI (L1.length + 1))) (ty := .int) (C := RX3) (T := TX3) (N := 2) hx hb hts hin_X3 tyX3 tyX3_ok nmX3 hown hK hP hD hS 0 rfl rfl 1 (by decide) (hts (.fieldLink RX3 15 "ButtonGuests$Past" "count" "I") (by decide +kernel)) (fun _ h9 => h9) rfl (by decide +kernel) rfl rfl (Nat.le_of_ble_eq_true rfl) dX3_remember_60 (fun H locs hP hD hS => ?_)
      have hP : va_P D vwCl (wj [pastW cy pa (L1.length + 1) ((L1 ++ [(u_5, hot0)])), poolW cy ((L1 ++ [(u_5, hot0)]).set L1.length (u_5, x)), hotelW cy h x]) H := hP
      have hD : va_D A (wj [pastW cy pa (L1.length + 1) ((L1 ++ [(u_5, hot0)])), poolW cy ((L1 ++ [(u_5, hot0)]).set L1.length (u_5, x)), hotelW cy h x]) := hD
      exact (hret _ _ H locs (L1.length + 1, ((L1 ++ [(u_5, hot0)]).set L1.length (u_5, x))) dX3_remember_63 (show va_P D vwCl (wj [pastW cy pa (L1.length + 1) ((L1 ++ [(u_5, hot0)]).set L1.length (u_5, x)), poolW cy ((L1 ++ [(u_5, hot0)]).set L1.length (u_5, x)), hotelW cy h x]) H by unfold pastW; rw [rwOf_set (show (L1 ++ [(u_5, hot0)])[L1.length]? = some (u_5, hot0) by simp)]; exact hP) (show va_D A (wj [pastW cy pa (L1.length + 1) ((L1 ++ [(u_5, hot0)]).set L1.length (u_5, x)), poolW cy ((L1 ++ [(u_5, hot0)]).set L1.length (u_5, x)), hotelW cy h x]) by unfold pastW; rw [rwOf_set (show (L1 ++ [(u_5, hot0)])[L1.length]? = some (u_5, hot0) by simp)]; exact hD) hS ⟨by simp only [List.length_set, List.length_append, List.length_cons, List.length_nil]; omega, by simp only [List.length_set, List.length_append, List.length_cons, List.length_nil]; omega, by rw [memo_set (show (L1 ++ [(u_5, hot0)])[L1.length]? = some (u_5, hot0) by simp), show memo L1.length (L1 ++ _) = memo L1.length L1 from by unfold memo; rw [List.take_append_of_le_length (Nat.le_refl _)], hm]; rfl⟩)
  refine lv_aload_n hx hb dX3_remember_0 rfl (lv_at hl 0 rfl) ?_
  refine va_get (ci := 2) (v := .int (nI ct)) (C := RX3) (T := TX3) (N := 2) hx hb hts hin_X3 hown hK hP 0 rfl rfl 1 (by decide) (hts (.fieldLink RX3 15 "ButtonGuests$Past" "count" "I") (by decide +kernel)) (fun _ h9 => h9) rfl dX3_remember_1 ?_
  refine lv_aload_n hx hb dX3_remember_4 rfl (lv_at hl 0 rfl) ?_
  refine va_get (ci := 2) (v := .ref (pa 1)) (C := RX3) (T := TX3) (N := 2) hx hb hts hin_X3 hown hK hP 0 rfl rfl 0 (by decide) (hts (.fieldLink RX3 11 "ButtonGuests$Past" "states" "[LButtonGuests$Hotel;") (by decide +kernel)) (fun _ h9 => h9) rfl dX3_remember_5 ?_
  refine va_alen (v := 14) hx hb hK hP 1 2 rfl rfl rfl dX3_remember_8 ?_
  refine lv_icmp_lt (tgt := 16) hx hb dX3_remember_9 (by decide) (fun c_9 => ?_) (fun c_9 => ?_)
  · have c_9 : ct < 14 := (nI_ltI (a := ct) (b := 14) (by omega) (by omega)).mp c_9
    exact join1 ct L c_9 h1 h2 (by rw [if_neg (by rw [memo_len h1]; omega)]) _ _ _ hP hD hS (lv_sub hl [0, 1] rfl)
  · have c_9 : ¬ ct < 14 := fun q => c_9 ((nI_ltI (a := ct) (b := 14) (by omega) (by omega)).mpr q)
    refine lv_aload_n hx hb dX3_remember_12 rfl (lv_at hl 0 rfl) ?_
    refine wr_v (fun u => wj [pastW cy pa 13 (rotL L), poolW cy (rotL L), hotelW cy h x]) (va_runV (As := []) (rest := []) hF (c_X3_forgetOldest l D cy pa ct L (by omega) H.size) (cwV 0 hts gX3_remember_X3_forgetOldest rfl rfl rfl (by decide +kernel) ⟨Nat.le_of_ble_eq_true rfl, Nat.le_of_ble_eq_true rfl⟩) (wr_preV hK hP hD (zz_pick2 [pastW cy pa ct L, poolW cy L, hotelW cy h x] 0 1 [2] (show List.Perm ([0, 1] ++ [2]) (List.range 3) by decide) rfl rfl rfl) 0 2 rfl rfl rfl) rfl rfl hl.1 rfl (lv_room (Nat.le_of_ble_eq_true rfl)) dX3_remember_13 ⟨Nat.le_of_ble_eq_true rfl, Nat.le_of_ble_eq_true rfl⟩) hP hD hS hA (zz_pick2 [pastW cy pa ct L, poolW cy L, hotelW cy h x] 0 1 [2] (show List.Perm ([0, 1] ++ [2]) (List.range 3) by decide) rfl rfl rfl) (fun _ => zz_pick2 [pastW cy pa 13 (rotL L), poolW cy (rotL L), hotelW cy h x] 0 1 [2] (show List.Perm ([0, 1] ++ [2]) (List.range 3) by decide) rfl rfl rfl) (fun u_10 H locs e_11 hP hD hS => ?_)
    have hP : va_P D vwCl (wj [pastW cy pa 13 ((rotL L)), poolW cy (rotL L), hotelW cy h x]) H := hP
    have hD : va_D A (wj [pastW cy pa 13 ((rotL L)), poolW cy (rotL L), hotelW cy h x]) := hD
    exact join1 13 (rotL L) (by decide) (by unfold rotL; simp; omega) (by unfold rotL; simp; omega) (by rw [memo_rot (by omega), if_pos (by rw [memo_len h1]; omega)]; rw [show ct = 14 by omega]) _ _ _ hP hD hS (lv_sub hl [0, 1] rfl)
