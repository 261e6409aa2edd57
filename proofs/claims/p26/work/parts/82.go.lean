/-! what a press brings, guest by guest -/
theorem upd_at {f : Nat → Int32} {i : Nat} {v : Int32} : upd f i v i = v := by unfold upd; rw [if_pos rfl]
theorem lo_m1 : ∀ a, a < 7 → ∀ b, b < 7 → (-1 : Int32) ≤ vLo (nI a) (nI b) := by decide +kernel
theorem hi_lo : ∀ a, a < 7 → ∀ b, b < 7 → vHi (nI a) (nI b) - vLo (nI a) (nI b) = nI (if b ≤ a then a - b else b - a) := by decide +kernel
theorem go_spec {n j : Nat} {x : HS} (hj : j < n) (hok : okX n x) (hh : ∀ g, g < n → x.2.2.2.2.2.2.1 g = 2 → x.2.2.2.2.2.2.2.1 g = 0) :
    (hGo n j x).1.1 = x.1.1 ∧ (hGo n j x).1.2.1 = x.2.2.1 j ∧ (hGo n j x).1.2.2.1 = x.1.2.2.1 + ((vHi (x.2.2.1 j) x.1.2.1 - vLo (x.2.2.1 j) x.1.2.1) * x.2.1 2 + 5) ∧ (hGo n j x).1.2.2.2.1 = x.1.2.2.2.1 + 1 ∧ (hGo n j x).1.2.2.2.2.1 = x.1.2.2.2.2.1 ∧
    (hGo n j x).2.1 = x.2.1 ∧ (hGo n j x).2.2.1 = x.2.2.1 ∧ (hGo n j x).2.2.2.1 = x.2.2.2.1 ∧ (hGo n j x).2.2.2.2.1 = x.2.2.2.2.1 ∧ (hGo n j x).2.2.2.2.2.1 = x.2.2.2.2.2.1 ∧
    ∀ g, g < n → (x.2.2.2.2.2.2.1 g = 0 → (hGo n j x).2.2.2.2.2.2.1 g = 0 ∨ ((hGo n j x).2.2.2.2.2.2.1 g = 1 ∧ x.2.2.2.1 g = x.2.2.1 j)) ∧ (x.2.2.2.2.2.2.1 g = 1 → (hGo n j x).2.2.2.2.2.2.1 g = if x.2.2.2.2.1 g = x.2.2.1 j then 2 else 1) ∧ (x.2.2.2.2.2.2.1 g = 2 → (hGo n j x).2.2.2.2.2.2.1 g = 2) ∧ ((hGo n j x).2.2.2.2.2.2.1 g = 2 → (hGo n j x).2.2.2.2.2.2.2.1 g = 0) := by
  obtain ⟨⟨gu, fl, se, pr, re, go, ch⟩, ⟨sg, bu, wa, ho, we, st, gr, po, ri⟩⟩ := x
  obtain ⟨⟨af, haf, eaf⟩, h2⟩ := hok
  simp only at h2 eaf hh
  obtain ⟨t, ht⟩ : ∃ t, t = bu j := ⟨_, rfl⟩
  obtain ⟨at0, hat, eat⟩ := (h2 j hj).1
  have hlo : (-1 : Int32) ≤ vLo t fl := by
    rw [ht, eat, eaf]
    exact lo_m1 at0 hat af haf
  have k1 := lpN_inv (n := n) (f := sTv (vLo t fl) (vHi t fl) (vHi t fl - vLo t fl) st ho wa) (fun (a : (Nat → Int32) × (Nat → Int32)) => ∀ g, st g = 2 → a.1 g = gr g) (fun i a hi q => by
    simp only [sTv]
    split
    · exact q
    · rename_i h8
      split
      · exact q
      · intro g hg
        by_cases e : g = i
        · subst e
          exfalso
          apply h8
          unfold vHope
          rw [if_pos hg]
          exact hlo
        · exact (vAdd_ne e).trans (q g hg)) n 0 (gr, ri) (by omega) (fun _ _ => rfl)
  generalize hg1 : lpN (sTv (vLo t fl) (vHi t fl) (vHi t fl - vLo t fl) st ho wa) n 0 (gr, ri) = y1 at k1
  have k2 := lpN_inv (n := n) (f := sOut t ho) (fun (a : Int32 × (Nat → Int32) × (Nat → Int32)) => ∀ g, g < n → a.2.1 g = 2 → a.2.2 g = 0) (fun i a hi q => by
    simp only [sOut]
    split
    · split
      · intro g hg h
        by_cases e : g = i
        · subst e
          exact upd_at
        · have h : upd a.2.1 i 2 g = 2 := h
          show upd a.2.2 i 0 g = 0
          rw [upd_ne e] at h
          rw [upd_ne e]
          exact q g hg h
      · exact q
    · exact q) n 0 (ch, st, y1.1) (by omega) (fun g hg h => (k1 g h).trans (hh g hg h))
  have k2s := fun g => out_v (fl := t) (ho := ho) n 0 (ch, st, y1.1) g
  generalize hg2 : lpN (sOut t ho) n 0 (ch, st, y1.1) = y2 at k2 k2s
  have k3 := lpN_inv (n := n) (f := sIn t (sg 0) wa we) (fun (a : Int32 × (Nat → Int32) × (Nat → Int32)) => ∀ g, g < n → (a.2.1 g = y2.2.1 g ∨ (y2.2.1 g = 0 ∧ wa g = t ∧ a.2.1 g = 1)) ∧ (a.2.1 g = 2 → a.2.2 g = 0)) (fun i a hi q => by
    simp only [sIn]
    split
    · rename_i h0
      split
      · rename_i h1
        split
        · intro g hg
          obtain ⟨q1, q2⟩ := q g hg
          refine ⟨q1, fun h => ?_⟩
          by_cases e : g = i
          · subst e
            exact absurd (h0.symm.trans h) (by decide)
          · exact (vAdd_ne e).trans (q2 h)
        · intro g hg
          obtain ⟨q1, q2⟩ := q g hg
          by_cases e : g = i
          · subst e
            refine ⟨Or.inr ⟨?_, h1, upd_at⟩, fun _ => upd_at⟩
            rcases q1 with r | r
            · exact r.symm.trans h0
            · exact absurd (h0.symm.trans r.2.2) (by decide)
          · show (upd a.2.1 i 1 g = y2.2.1 g ∨ (y2.2.1 g = 0 ∧ wa g = t ∧ upd a.2.1 i 1 g = 1)) ∧ (upd a.2.1 i 1 g = 2 → upd a.2.2 i 0 g = 0)
            rw [upd_ne e, upd_ne e]
            exact ⟨q1, q2⟩
      · exact q
    · exact q) n 0 (lpN (sWR y2.2.1 we) n 0 0, y2.2.1, y2.2.2) (by omega) (fun g hg => ⟨Or.inl rfl, k2 g hg⟩)
  generalize hg3 : lpN (sIn t (sg 0) wa we) n 0 (lpN (sWR y2.2.1 we) n 0 0, y2.2.1, y2.2.2) = y3 at k3
  have e : hGo n j ((gu, fl, se, pr, re, go, ch), (sg, bu, wa, ho, we, st, gr, po, ri)) = ((gu, t, se + ((vHi t fl - vLo t fl) * sg 2 + 5), pr + 1, re, go + (vHi t fl - vLo t fl), y2.1), (sg, bu, wa, ho, we, y3.2.1, y3.2.2, upd po j (po j + 1), y1.2)) := by
    show hIn n (hOut n (hTv n (bu j) (hPr j _))) = _
    rw [← ht]
    simp only [hPr, hTv, hg1, hOut, hg2, hIn, hg3]
  rw [e]
  refine ⟨rfl, ht, by show se + ((vHi t fl - vLo t fl) * sg 2 + 5) = se + ((vHi (bu j) fl - vLo (bu j) fl) * sg 2 + 5); rw [← ht], rfl, rfl, rfl, rfl, rfl, rfl, rfl, fun g hg => ?_⟩
  have a := (k3 g hg).1
  have b := k2s g
  rw [if_pos ⟨Nat.zero_le _, by omega⟩] at b
  show (st g = 0 → y3.2.1 g = 0 ∨ (y3.2.1 g = 1 ∧ wa g = bu j)) ∧ (st g = 1 → y3.2.1 g = if ho g = bu j then 2 else 1) ∧ (st g = 2 → y3.2.1 g = 2) ∧ (y3.2.1 g = 2 → y3.2.2 g = 0)
  rw [← ht]
  have b : y2.2.1 g = if st g = 1 then (if ho g = t then 2 else st g) else st g := b
  refine ⟨fun h => ?_, fun h => ?_, fun h => ?_, (k3 g hg).2⟩
  · rw [if_neg (by rw [h]; decide), h] at b
    rcases a with a | a
    · exact Or.inl (a.trans b)
    · exact Or.inr ⟨a.2.2, a.2.1⟩
  · rw [if_pos h, h] at b
    rcases a with a | a
    · exact a.trans b
    · have z := a.1.symm.trans b
      split at z <;> exact absurd z (by decide)
  · rw [if_neg (by rw [h]; decide), h] at b
    rcases a with a | a
    · exact a.trans b
    · exact absurd (a.1.symm.trans b) (by decide)
/-- the load behind a press: not more than before, or not more than is allowed -/
theorem go_load {n j : Nat} {x : HS} (hn : n ≤ 4) (hw : ∀ g, g < n → ∃ a : Nat, a ≤ 4 ∧ x.2.2.2.2.2.1 g = nI a) : hWR n (hGo n j x) ≤ hWR n x ∨ ¬ x.2.1 0 < hWR n (hGo n j x) := by
  obtain ⟨⟨gu, fl, se, pr, re, go, ch⟩, ⟨sg, bu, wa, ho, we, st, gr, po, ri⟩⟩ := x
  simp only at hw
  obtain ⟨t, ht⟩ : ∃ t, t = bu j := ⟨_, rfl⟩
  obtain ⟨wn, hwn⟩ : ∃ wn : Nat → Nat, ∀ g, wn g = (we g).toNatClampNeg := ⟨fun g => (we g).toNatClampNeg, fun _ => rfl⟩
  have hwe : ∀ g, g < n → we g = nI (wn g) ∧ wn g ≤ 4 := fun g hg => by
    obtain ⟨a, ha, e⟩ := hw g hg
    rw [hwn g, e, nI_clamp (by omega)]
    exact ⟨rfl, ha⟩
  have hw1 : ∀ g, g < n → we g = nI (wn g) := fun g hg => (hwe g hg).1
  generalize hg1 : lpN (sTv (vLo t fl) (vHi t fl) (vHi t fl - vLo t fl) st ho wa) n 0 (gr, ri) = y1
  have k2s := fun g => out_v (fl := t) (ho := ho) n 0 (ch, st, y1.1) g
  generalize hg2 : lpN (sOut t ho) n 0 (ch, st, y1.1) = y2 at k2s
  have sw : ∀ s9 : Nat → Int32, lpN (sWR s9 we) n 0 0 = nI (Sr (fun g => if s9 g = 1 then wn g else 0) n 0) := fun s9 => by
    have h := wr_sr (st := s9) hw1 n 0 0 (by omega)
    rw [Nat.zero_add] at h
    exact h
  have k3 := lpN_inv (n := n) (f := sIn t (sg 0) wa we) (fun (a : Int32 × (Nat → Int32) × (Nat → Int32)) => a.1 = nI (Sr (fun g => if a.2.1 g = 1 then wn g else 0) n 0) ∧ (a.1 = lpN (sWR y2.2.1 we) n 0 0 ∨ ¬ sg 0 < a.1)) (fun i a hi q => by
    simp only [sIn]
    split
    · rename_i h0
      split
      · split
        · exact q
        · rename_i h3
          refine ⟨?_, Or.inr h3⟩
          show a.1 + we i = nI (Sr (fun g => if upd a.2.1 i 1 g = 1 then wn g else 0) n 0)
          rw [Sr_upd (f := fun g => if a.2.1 g = 1 then wn g else 0) (m := i) (d := wn i) (by
            show (if upd a.2.1 i 1 i = 1 then wn i else 0) = (if a.2.1 i = 1 then wn i else 0) + wn i
            rw [upd_at, if_pos rfl, if_neg (by rw [h0]; decide), Nat.zero_add]) (fun j hj => by
            show (if upd a.2.1 i 1 j = 1 then wn j else 0) = (if a.2.1 j = 1 then wn j else 0)
            rw [upd_ne hj]) (Nat.zero_le i) (by omega), ← nI_add, ← q.1, hw1 i hi]
      · exact q
    · exact q) n 0 (lpN (sWR y2.2.1 we) n 0 0, y2.2.1, y2.2.2) (by omega) ⟨sw y2.2.1, Or.inl rfl⟩
  generalize hg3 : lpN (sIn t (sg 0) wa we) n 0 (lpN (sWR y2.2.1 we) n 0 0, y2.2.1, y2.2.2) = y3 at k3
  have e : hGo n j ((gu, fl, se, pr, re, go, ch), (sg, bu, wa, ho, we, st, gr, po, ri)) = ((gu, t, se + ((vHi t fl - vLo t fl) * sg 2 + 5), pr + 1, re, go + (vHi t fl - vLo t fl), y2.1), (sg, bu, wa, ho, we, y3.2.1, y3.2.2, upd po j (po j + 1), y1.2)) := by
    show hIn n (hOut n (hTv n (bu j) (hPr j _))) = _
    rw [← ht]
    simp only [hPr, hTv, hg1, hOut, hg2, hIn, hg3]
  rw [e]
  show lpN (sWR y3.2.1 we) n 0 0 ≤ lpN (sWR st we) n 0 0 ∨ ¬ sg 0 < lpN (sWR y3.2.1 we) n 0 0
  rw [sw y3.2.1, ← k3.1]
  rcases k3.2 with h | h
  · refine Or.inl ?_
    rw [h, sw y2.2.1, sw st]
    have c1 := Sr_le (f := fun g => if y2.2.1 g = 1 then wn g else 0) (g := fun g => if st g = 1 then wn g else 0) (k := n) (i := 0) (fun g _ hg => by
      show (if y2.2.1 g = 1 then wn g else 0) ≤ (if st g = 1 then wn g else 0)
      have b := k2s g
      rw [if_pos ⟨Nat.zero_le _, hg⟩] at b
      have b : y2.2.1 g = if st g = 1 then (if ho g = t then 2 else st g) else st g := b
      by_cases q : st g = 1
      · rw [if_pos q]
        split
        · exact Nat.le_refl _
        · exact Nat.zero_le _
      · rw [if_neg q] at b
        rw [b, if_neg q]
        exact Nat.le_refl _)
    have c2 := Sr_cap (f := fun g => if st g = 1 then wn g else 0) (c := 4) (k := n) (i := 0) (fun g _ hg => by
      show (if st g = 1 then wn g else 0) ≤ 4
      split
      · exact (hwe g (by omega)).2
      · exact Nat.zero_le _)
    exact nI_le c1 (by omega)
  · exact Or.inr h
