/-! sums over guests -/
def Sr (f : Nat → Nat) : Nat → Nat → Nat
  | 0, _ => 0
  | k + 1, i => f i + Sr f k (i + 1)
theorem Sr_le {f g : Nat → Nat} : ∀ {k i : Nat}, (∀ j, i ≤ j → j < i + k → f j ≤ g j) → Sr f k i ≤ Sr g k i
  | 0, _, _ => Nat.le_refl _
  | k + 1, i, h => by
    have a := h i (by omega) (by omega)
    have b := Sr_le (f := f) (g := g) (k := k) (i := i + 1) (fun j h1 h2 => h j (by omega) (by omega))
    show f i + Sr f k (i + 1) ≤ g i + Sr g k (i + 1)
    omega
theorem Sr_cap {f : Nat → Nat} {c : Nat} : ∀ {k i : Nat}, (∀ j, i ≤ j → j < i + k → f j ≤ c) → Sr f k i ≤ c * k
  | 0, _, _ => Nat.zero_le _
  | k + 1, i, h => by
    have a := h i (by omega) (by omega)
    have b := Sr_cap (f := f) (c := c) (k := k) (i := i + 1) (fun j h1 h2 => h j (by omega) (by omega))
    show f i + Sr f k (i + 1) ≤ c * (k + 1)
    rw [Nat.mul_succ]
    omega
theorem Sr_congr {f g : Nat → Nat} : ∀ {k i : Nat}, (∀ j, i ≤ j → j < i + k → f j = g j) → Sr f k i = Sr g k i
  | 0, _, _ => rfl
  | k + 1, i, h => by
    show f i + Sr f k (i + 1) = g i + Sr g k (i + 1)
    rw [h i (by omega) (by omega), Sr_congr (k := k) (i := i + 1) (fun j h1 h2 => h j (by omega) (by omega))]
theorem Sr_three {f g e : Nat → Nat} : ∀ {k i : Nat}, (∀ j, i ≤ j → j < i + k → f j + g j + e j = 1) → Sr f k i + Sr g k i + Sr e k i = k
  | 0, _, _ => rfl
  | k + 1, i, h => by
    have a := h i (by omega) (by omega)
    have b := Sr_three (f := f) (g := g) (e := e) (k := k) (i := i + 1) (fun j h1 h2 => h j (by omega) (by omega))
    show (f i + Sr f k (i + 1)) + (g i + Sr g k (i + 1)) + (e i + Sr e k (i + 1)) = k + 1
    omega
theorem Sr_upd {f g : Nat → Nat} {d m : Nat} (h1 : g m = f m + d) (h2 : ∀ j, j ≠ m → g j = f j) : ∀ {k i : Nat}, i ≤ m → m < i + k → Sr g k i = Sr f k i + d
  | 0, i, a, b => absurd b (by omega)
  | k + 1, i, a, b => by
    show g i + Sr g k (i + 1) = f i + Sr f k (i + 1) + d
    by_cases q : i = m
    · subst q
      rw [h1, Sr_congr (f := g) (g := f) (k := k) (i := i + 1) (fun j c1 c2 => h2 j (by omega))]
      omega
    · rw [h2 i q, Sr_upd h1 h2 (k := k) (i := i + 1) (by omega) (by omega)]
      omega
theorem gi_sr {st : Nat → Int32} {w : Int32} : ∀ (k i a : Nat), lpN (sGI st w) k i (nI a) = nI (a + Sr (fun g => if st g = w then 1 else 0) k i)
  | 0, i, a => rfl
  | k + 1, i, a => by
    show lpN (sGI st w) k (i + 1) (sGI st w i (nI a)) = nI (a + ((if st i = w then 1 else 0) + Sr _ k (i + 1)))
    by_cases q : st i = w
    · rw [show sGI st w i (nI a) = nI (a + 1) from (if_pos q).trans (nI_1 a), if_pos q, gi_sr k (i + 1) (a + 1), Nat.add_assoc]
    · rw [show sGI st w i (nI a) = nI a from if_neg q, if_neg q, gi_sr k (i + 1) a, Nat.zero_add]
theorem wr_sr {st we : Nat → Int32} {wn : Nat → Nat} {n : Nat} (hw : ∀ g, g < n → we g = nI (wn g)) : ∀ (k i a : Nat), i + k ≤ n → lpN (sWR st we) k i (nI a) = nI (a + Sr (fun g => if st g = 1 then wn g else 0) k i)
  | 0, i, a, _ => rfl
  | k + 1, i, a, h => by
    show lpN (sWR st we) k (i + 1) (sWR st we i (nI a)) = nI (a + ((if st i = 1 then wn i else 0) + Sr _ k (i + 1)))
    by_cases q : st i = 1
    · rw [show sWR st we i (nI a) = nI (a + wn i) from (if_pos q).trans (by rw [hw i (by omega), nI_add]), if_pos q, wr_sr hw k (i + 1) (a + wn i) (by omega), Nat.add_assoc]
    · rw [show sWR st we i (nI a) = nI a from if_neg q, if_neg q, wr_sr hw k (i + 1) a (by omega), Nat.zero_add]
theorem hGI_sr {n : Nat} {x : HS} {w : Int32} : hGI n x w = nI (Sr (fun g => if x.2.2.2.2.2.2.1 g = w then 1 else 0) n 0) := by
  obtain ⟨⟨gu, fl, se, pr, re, go, ch⟩, ⟨sg, bu, wa, ho, we, st, gr, po, ri⟩⟩ := x
  have h := gi_sr (st := st) (w := w) n 0 0
  rw [Nat.zero_add] at h
  exact h
theorem hWR_sr {n : Nat} {x : HS} {wn : Nat → Nat} (hw : ∀ g, g < n → x.2.2.2.2.2.1 g = nI (wn g)) : hWR n x = nI (Sr (fun g => if x.2.2.2.2.2.2.1 g = 1 then wn g else 0) n 0) := by
  obtain ⟨⟨gu, fl, se, pr, re, go, ch⟩, ⟨sg, bu, wa, ho, we, st, gr, po, ri⟩⟩ := x
  have h := wr_sr (st := st) (we := we) (wn := wn) hw n 0 0 (by omega)
  rw [Nat.zero_add] at h
  exact h
/-- who waits, rides, is home: together all -/
theorem sum_all {n : Nat} {x : HS} (h : ∀ g, g < n → ∃ a : Nat, a < 3 ∧ x.2.2.2.2.2.2.1 g = nI a) : hGI n x 0 + hGI n x 1 + hGI n x 2 = nI n := by
  rw [hGI_sr, hGI_sr, hGI_sr, nI_add, nI_add]
  congr 1
  refine Sr_three (fun j _ hj => ?_)
  obtain ⟨a, ha, e⟩ := h j (by omega)
  show (if x.2.2.2.2.2.2.1 j = 0 then 1 else 0) + (if x.2.2.2.2.2.2.1 j = 1 then 1 else 0) + (if x.2.2.2.2.2.2.1 j = 2 then 1 else 0) = 1
  rcases (show a = 0 ∨ a = 1 ∨ a = 2 by omega) with q | q | q <;> subst q <;> rw [e] <;> decide
theorem hGI_le {n : Nat} {x : HS} {w : Int32} : ∃ a : Nat, a ≤ n ∧ hGI n x w = nI a := by
  refine ⟨_, ?_, hGI_sr⟩
  have h := Sr_cap (f := fun g => if x.2.2.2.2.2.2.1 g = w then 1 else 0) (c := 1) (k := n) (i := 0) (fun j _ _ => by
    show (if x.2.2.2.2.2.2.1 j = w then 1 else 0) ≤ 1
    split <;> omega)
  omega
