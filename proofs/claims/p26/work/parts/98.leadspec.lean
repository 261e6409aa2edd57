/-! where the best presses lead, as the law asks it -/
theorem lead_a {n g : Nat} {x : HS} (hg : g < n) (h0 : hReas x (nI g) = 0) (h : hFew n x = -1) (a : ¬ hFew n (hGo n g x) = -1) (b : ¬ hFew n (hGo n g x) = 5) : False := ((few_go hg h0).1 h).elim a b
theorem few_pos_of {n : Nat} {x : HS} (a : ¬ hFew n x = -1) (b : ¬ hFew n x = 0) : ∃ k : Nat, k ≤ 4 ∧ hFew n x = nI (k + 1) := by
  rcases few_cases n x with ⟨k, hk, e, -⟩ | ⟨e, -⟩
  · rcases Nat.eq_zero_or_pos k with q | q
    · subst q; exact absurd e b
    · obtain ⟨m, rfl⟩ : ∃ m, k = m + 1 := ⟨k - 1, by omega⟩
      exact ⟨m, by omega, e⟩
  · exact absurd e a
theorem lead_b {n g : Nat} {x : HS} (hg : g < n) (h0 : hReas x (nI g) = 0) (a : ¬ hFew n x = -1) (b : ¬ hFew n x = 0) (c : ¬ hFew n (hGo n g x) = -1) (d : hFew n (hGo n g x) < hFew n x - 1) : False := by
  obtain ⟨k, hk, e⟩ := few_pos_of a b
  rcases (few_go hg h0).2 k hk e with q | ⟨m, hm, hkm, q⟩
  · exact c q
  · rw [e, q, nI_pred] at d
    exact absurd ((nI_ltI (a := m) (b := k) (by omega) (by omega)).mp d) (by omega)
theorem lead_c {n g : Nat} {x : HS} (hn : n ≤ 4) (hg : g < n) (h : nI g = hBst n x) (c : ¬ hFew n (hGo n g x) = hFew n x - 1) : False := by
  rcases best_cases n x with ⟨h1, -⟩ | ⟨k, j, hk, h1, hj, h2, h3, h4, -⟩
  · have z : nI g = -1 := h.trans h1
    rcases (show g = 0 ∨ g = 1 ∨ g = 2 ∨ g = 3 by omega) with r | r | r | r <;> subst r <;> exact absurd z (by decide)
  · have z := (nI_eq (a := g) (b := j) (by omega) (by omega)).mp (h.trans h2)
    subst z
    rw [h1, nI_pred, h4] at c
    exact c rfl
theorem lead_d {n g : Nat} {x : HS} (hn : n ≤ 4) (hg : g < n) (h0 : hReas x (nI g) = 0) (a : ¬ hFew n x ≤ 0) (b : ¬ hBst n x ≤ nI g) (c : hFew n (hGo n g x) = hFew n x - 1) : False := by
  rcases best_cases n x with ⟨h1, h2⟩ | ⟨k, j, hk, h1, hj, h2, h3, h4, h5⟩
  · rcases h2 with q | q <;> rw [q] at a <;> exact absurd (by decide) a
  · rw [h2] at b
    have hgj : g < j := by
      rcases Nat.lt_or_ge g j with q | q
      · exact q
      · exact absurd ((nI_leI (a := j) (b := g) (by omega) (by omega)).mpr q) b
    rw [h1, nI_pred] at c
    exact h5 g hgj h0 c
/-- how many presses the law makes: none where none are told -/
theorem few_num (n : Nat) (x : HS) : ∃ m : Nat, m ≤ 5 ∧ (hFew n x = nI m ∨ (hFew n x = -1 ∧ m = 0)) := by
  rcases few_cases n x with ⟨k, hk, e, -⟩ | ⟨e, -⟩
  · exact ⟨k, hk, Or.inl e⟩
  · exact ⟨0, by decide, Or.inr ⟨e, rfl⟩⟩
theorem num_ge {n m j : Nat} {x : HS} (hm : m ≤ 5) (h : hFew n x = nI m ∨ (hFew n x = -1 ∧ m = 0)) (hj : j ≤ 5) (c : hFew n x ≤ nI j) : m ≤ j := by
  rcases h with h | ⟨-, h⟩
  · rw [h] at c
    exact (nI_leI (a := m) (b := j) (by omega) (by omega)).mp c
  · omega
theorem num_lt {n m j : Nat} {x : HS} (hm : m ≤ 5) (h : hFew n x = nI m ∨ (hFew n x = -1 ∧ m = 0)) (hj : j ≤ 5) (c : ¬ hFew n x ≤ nI j) : j < m ∧ hFew n x = nI m := by
  rcases h with h | ⟨h, -⟩
  · rw [h] at c
    refine ⟨?_, h⟩
    rcases Nat.lt_or_ge j m with q | q
    · exact q
    · exact absurd ((nI_leI (a := m) (b := j) (by omega) (by omega)).mpr q) c
  · rw [h] at c
    rcases (show j = 0 ∨ j = 1 ∨ j = 2 ∨ j = 3 ∨ j = 4 ∨ j = 5 by omega) with r | r | r | r | r | r <;> subst r <;> exact absurd (by decide) c
/-- one press of the best on: one fewer -/
theorem best_go {n k : Nat} {x : HS} (hk : k ≤ 4) (h : hFew n x = nI (k + 1)) : ∃ g : Nat, g < n ∧ hBst n x = nI g ∧ hReas x (nI g) = 0 ∧ hFew n (hGo n g x) = nI k := by
  rcases best_cases n x with ⟨-, h2⟩ | ⟨k2, g, hk2, h1, hg, h2, h3, h4, -⟩
  · exfalso
    rcases h2 with q | q <;> rw [q] at h <;> rcases (show k = 0 ∨ k = 1 ∨ k = 2 ∨ k = 3 ∨ k = 4 by omega) with r | r | r | r | r <;> subst r <;> exact absurd h (by decide)
  · have z := (nI_eq (a := k2 + 1) (b := k + 1) (by omega) (by omega)).mp (h1.symm.trans h)
    obtain rfl : k2 = k := by omega
    exact ⟨g, hg, h2, h3, h4⟩
theorem undo_ok {w : AV} (hO : Okv w) (hm : ∀ m ∈ w.2.1, OkH m) : Okv (aUndo w).2 ∧ ∀ m ∈ (aUndo w).2.2.1, OkH m := by
  unfold aUndo
  cases h : w.2.1.getLast? with
  | none => exact ⟨hO, hm⟩
  | some y => exact ⟨⟨hm y (List.mem_of_getLast? h), hO.2.1, hO.2.2⟩, fun m q => hm m (List.dropLast_subset _ q)⟩
theorem push_mem {w : AV} {y : HS} (hO : Okv w) (hm : ∀ m ∈ w.2.1, OkH m) : ∀ m ∈ (aPush w y).2.1, OkH m := fun m q => (pushM_mem q).elim (hm m) (fun e => by rw [e]; exact hO.1)
