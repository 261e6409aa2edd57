/-! the fewest presses and the best one, before and behind a press -/
theorem few_0 {n : Nat} {x : HS} : hFew n x = 0 ↔ hGI n x 2 = x.1.1 := by
  have d : dfsB n 0 x = true ↔ hGI n x 2 = x.1.1 := by simp only [dfsB, decide_eq_true_eq]
  rw [← d]
  constructor
  · intro h
    rcases few_cases n x with ⟨k, hk, e, h1, -⟩ | ⟨e, -⟩
    · rw [e] at h
      have := (nI_eq (a := k) (b := 0) (by omega) (by decide)).mp h
      subst this
      exact h1
    · rw [e] at h
      exact absurd h (by decide)
  · intro h
    exact if_pos h
/-- behind a press that isn't refused: one less at best -/
theorem few_go {n g : Nat} {x : HS} (hg : g < n) (h0 : hReas x (nI g) = 0) :
    (hFew n x = -1 → hFew n (hGo n g x) = -1 ∨ hFew n (hGo n g x) = 5) ∧ (∀ k : Nat, k ≤ 4 → hFew n x = nI (k + 1) → hFew n (hGo n g x) = -1 ∨ ∃ m : Nat, m ≤ 5 ∧ k ≤ m ∧ hFew n (hGo n g x) = nI m) := by
  have up : ∀ j, dfsB n j (hGo n g x) = true → dfsB n (j + 1) x = true := fun j h => dfs_yes hg h0 h
  refine ⟨fun h => ?_, fun k hk h => ?_⟩
  · rcases few_cases n x with ⟨k, hk, e, h1, -⟩ | ⟨-, hno⟩
    · rw [e] at h
      have : nI k = -1 := h
      rcases (show k = 0 ∨ k = 1 ∨ k = 2 ∨ k = 3 ∨ k = 4 ∨ k = 5 by omega) with q | q | q | q | q | q <;> subst q <;> exact absurd this (by decide)
    · rcases few_cases n (hGo n g x) with ⟨k, hk, e, h1, -⟩ | ⟨e, -⟩
      · rcases Nat.lt_or_ge k 5 with q | q
        · exact absurd (up k h1) (hno (k + 1) (by omega))
        · obtain rfl : k = 5 := by omega
          exact Or.inr e
      · exact Or.inl e
  · rcases few_cases n x with ⟨k2, hk2, e, h1, hno⟩ | ⟨e, -⟩
    · rw [e] at h
      have hkk := (nI_eq (a := k2) (b := k + 1) (by omega) (by omega)).mp h
      subst hkk
      rcases few_cases n (hGo n g x) with ⟨m, hm, e2, h2, -⟩ | ⟨e2, -⟩
      · refine Or.inr ⟨m, hm, ?_, e2⟩
        rcases Nat.lt_or_ge m k with q | q
        · exact absurd (up m h2) (hno (m + 1) (by omega))
        · exact q
      · exact Or.inl e2
    · rw [e] at h
      exfalso
      rcases (show k = 0 ∨ k = 1 ∨ k = 2 ∨ k = 3 ∨ k = 4 by omega) with q | q | q | q | q <;> subst q <;> exact absurd h (by decide)
theorem lpE_find {n k : Nat} {x : HS} : ∀ (m i : Nat), i + m = n → ((∃ g : Nat, i ≤ g ∧ g < n ∧ hReas x (nI g) = 0 ∧ dfsB n k (hGo n g x) = true ∧ lpE (sBest n k x) (fun _ => -1) m i () = nI g ∧ ∀ j, i ≤ j → j < g → ¬ (hReas x (nI j) = 0 ∧ dfsB n k (hGo n j x) = true)) ∨ (lpE (sBest n k x) (fun _ => -1) m i () = -1 ∧ ∀ j, i ≤ j → j < n → ¬ (hReas x (nI j) = 0 ∧ dfsB n k (hGo n j x) = true)))
  | 0, i, h => Or.inr ⟨rfl, fun j h1 h2 => by omega⟩
  | m + 1, i, h => by
    by_cases q : hReas x (nI i) = 0 ∧ dfsB n k (hGo n i x) = true
    · refine Or.inl ⟨i, Nat.le_refl _, by omega, q.1, q.2, ?_, fun j h1 h2 => by omega⟩
      simp only [lpE, sBest_yes q.1 q.2]
    · have e : lpE (sBest n k x) (fun _ => -1) (m + 1) i () = lpE (sBest n k x) (fun _ => -1) m (i + 1) () := by
        simp only [lpE, sBest_no q]
      rw [e]
      rcases lpE_find (n := n) (k := k) (x := x) m (i + 1) (by omega) with ⟨g, h1, h2, h3, h4, h5, h6⟩ | ⟨h1, h2⟩
      · refine Or.inl ⟨g, by omega, h2, h3, h4, h5, fun j j1 j2 => ?_⟩
        by_cases r : j = i
        · subst r; exact q
        · exact h6 j (by omega) j2
      · refine Or.inr ⟨h1, fun j j1 j2 => ?_⟩
        by_cases r : j = i
        · subst r; exact q
        · exact h2 j (by omega) j2
/-- the best press: none, or the lowest that leads home in one less -/
theorem best_cases (n : Nat) (x : HS) : (hBst n x = -1 ∧ (hFew n x = 0 ∨ hFew n x = -1)) ∨ ∃ k g : Nat, k ≤ 4 ∧ hFew n x = nI (k + 1) ∧ g < n ∧ hBst n x = nI g ∧ hReas x (nI g) = 0 ∧ hFew n (hGo n g x) = nI k ∧ ∀ j, j < g → hReas x (nI j) = 0 → ¬ hFew n (hGo n j x) = nI k := by
  rcases few_cases n x with ⟨k, hk, e, h1, hno⟩ | ⟨e, -⟩
  · rcases Nat.eq_zero_or_pos k with q | q
    · subst q
      refine Or.inl ⟨?_, Or.inl e⟩
      unfold hBst
      rw [e]
      rfl
    · obtain ⟨m, rfl⟩ : ∃ m, k = m + 1 := ⟨k - 1, by omega⟩
      refine Or.inr ?_
      have eb : hBst n x = lpE (sBest n m x) (fun _ => -1) n 0 () := by
        unfold hBst hBestK
        rw [e, if_pos (show (0 : Int32) < nI (m + 1) from nI_lt (a := 0) (by omega) (by omega)), nI_pred, nI_clamp (by omega)]
      rcases lpE_find (n := n) (k := m) (x := x) n 0 (by omega) with ⟨g, -, h3, h4, h5, h6, h7⟩ | ⟨-, h3⟩
      · refine ⟨m, g, by omega, e, h3, eb.trans h6, h4, (few_yes (by omega) h5 (fun j hj w => hno (j + 1) (by omega) (dfs_yes h3 h4 w))).symm, fun j hj h0 w => ?_⟩
        refine h7 j (Nat.zero_le _) hj ⟨h0, ?_⟩
        rcases few_cases n (hGo n j x) with ⟨k2, hk2, e2, h8, -⟩ | ⟨e2, -⟩
        · have := (nI_eq (a := k2) (b := m) (by omega) (by omega)).mp (e2.symm.trans w)
          subst this
          exact h8
        · exfalso
          have w2 : (-1 : Int32) = nI m := e2.symm.trans w
          rcases (show m = 0 ∨ m = 1 ∨ m = 2 ∨ m = 3 ∨ m = 4 by omega) with r | r | r | r | r <;> subst r <;> exact absurd w2 (by decide)
      · exfalso
        refine dfs_no (fun g hg w => ?_) h1
        exact h3 g (Nat.zero_le _) hg w
  · refine Or.inl ⟨?_, Or.inr e⟩
    unfold hBst
    rw [e]
    rfl
