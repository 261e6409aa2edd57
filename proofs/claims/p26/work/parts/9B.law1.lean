/-! the two guests who come at the start -/
def v0 : AV := (hot0, [], none, none)
theorem ok_v0 : Okv v0 := ⟨hx_hot0.O, (fun q e => by have e2 : (none : Option HS) = some q := e; cases e2), (fun q e => by have e2 : (none : Option HS) = some q := e; cases e2)⟩
theorem come_ok {B n b a h w : Nat} {v : AV} (hx : Hx B n v.1) (hn : n < 4) (hb : b < 7) (ha : a < 7) (hh : h < 7) (hw : 1 ≤ w ∧ w ≤ 4) : okC n (nI b) (nI a) (nI h) (nI w) ∧ aCome v (nI b) (nI a) (nI h) (nI w) = (nI n, aPush v (hCome n (nI b) (nI a) (nI h) (nI w) v.1)) := by
  have f : ∀ z, z < 7 → okF (nI z) := fun z hz => ⟨nI_pos (by omega), nI_ge (by omega) (by decide)⟩
  have g : okW (nI w) := ⟨nI_nlt (a := w) (b := 1) hw.1 (by omega), nI_nlt (a := 4) (b := w) hw.2 (by decide)⟩
  refine ⟨⟨f b hb, f a ha, f h hh, g, hn⟩, ?_⟩
  have k : kCome n (nI b) (nI a) (nI h) (nI w) = 0 := by
    unfold kCome
    rw [if_pos (f b hb), if_pos (f a ha), if_pos (f h hh), if_pos (show inL (nI w).toInt64 1 4 from (inI (a := 1) (c := 4)).mpr g), if_neg (show ¬ 4 ≤ n by omega)]
  unfold aCome
  rw [hx.n, if_pos k]
theorem cnt_come {n : Nat} {b a h w : Int32} {x : HS} : Cnt (hCome n b a h w x) = Cnt x := by
  obtain ⟨⟨gu, fl, se, pr, re, go, ch⟩, ⟨sg, bu, wa, ho, we, st, gr, po, ri⟩⟩ := x
  rfl
def y1 (j : Nat) : HS := hCome 0 (nI (j % 7)) (nI (j / 7 % 7)) (nI (j / 49 % 7)) (nI (1 + j / 343 % 4)) hot0
def v1 (j : Nat) : AV := aPush v0 (y1 j)
def y2 (j : Nat) : HS := hCome 1 (nI (j / 1372 % 7)) (nI (j / 9604 % 7)) (nI (j / 67228 % 7)) (nI 2) (y1 j)
def v2 (j : Nat) : AV := aPush (v1 j) (y2 j)
theorem hx_y1 (j : Nat) : Hx 1 1 (y1 j) := hx_come hx_hot0 (come_ok (v := v0) hx_hot0 (by decide) (Nat.mod_lt _ (by decide)) (Nat.mod_lt _ (by decide)) (Nat.mod_lt _ (by decide)) ⟨by omega, by omega⟩).1
theorem come_1 (j : Nat) : aCome v0 (nI (j % 7)) (nI (j / 7 % 7)) (nI (j / 49 % 7)) (nI (1 + j / 343 % 4)) = (0, v1 j) := (come_ok (v := v0) hx_hot0 (by decide) (Nat.mod_lt _ (by decide)) (Nat.mod_lt _ (by decide)) (Nat.mod_lt _ (by decide)) ⟨by omega, by omega⟩).2
theorem ok_v1 (j : Nat) : Okv (v1 j) := ⟨(hx_y1 j).O, (fun q e => by have e2 : (none : Option HS) = some q := e; cases e2), (fun q e => by have e2 : (none : Option HS) = some q := e; cases e2)⟩
theorem hx_y2 (j : Nat) : Hx 2 2 (y2 j) := hx_come (hx_y1 j) (come_ok (v := v1 j) (hx_y1 j) (by decide) (Nat.mod_lt _ (by decide)) (Nat.mod_lt _ (by decide)) (Nat.mod_lt _ (by decide)) ⟨by decide, by decide⟩).1
theorem come_2 (j : Nat) : aCome (v1 j) (nI (j / 1372 % 7)) (nI (j / 9604 % 7)) (nI (j / 67228 % 7)) 2 = (1, v2 j) := (come_ok (v := v1 j) (w := 2) (hx_y1 j) (by decide) (Nat.mod_lt _ (by decide)) (Nat.mod_lt _ (by decide)) (Nat.mod_lt _ (by decide)) ⟨by decide, by decide⟩).2
theorem inv_v2 (j : Nat) : Inv 2 (v2 j) := by
  have c0 : Cnt hot0 = 0 := by decide +kernel
  have c1 : Cnt (y1 j) = 0 := cnt_come.trans c0
  have c2 : Cnt (y2 j) = 0 := cnt_come.trans c1
  have e : (v2 j).2.1 = [hot0, y1 j] := rfl
  refine ⟨⟨2, by decide, hx_y2 j⟩, fun m hm => ?_, ?_, by rw [e]; exact (show 2 ≤ 14 by decide), (fun q e => by have e2 : (none : Option HS) = some q := e; cases e2), (fun q e => by have e2 : (none : Option HS) = some q := e; cases e2)⟩
  · rw [e] at hm
    rcases List.mem_cons.mp hm with q | q
    · rw [q]; exact ⟨0, hx_hot0.up (by decide), Or.inr c0⟩
    · rw [List.mem_singleton.mp q]; exact ⟨1, (hx_y1 j).up (by decide), Or.inl (by decide)⟩
  · show Cnt (y1 j) ≤ Cnt hot0 + 1 ∧ Cnt (y2 j) ≤ Cnt (y1 j) + 1 ∧ True
    rw [c0, c1, c2]
    decide
theorem rep_v0 {nw : Nat → Nat} : Rep v0 (bg0 nw) := ⟨Nat.zero_le _, Nat.zero_le _, Nat.zero_le _, rfl, rfl, rfl, rfl⟩
