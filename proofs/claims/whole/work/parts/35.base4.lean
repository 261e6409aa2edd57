/-! rows of presses as numbers to the base 4 -/
def RelX (x y : HS) : Prop := ∃ n : Nat, n ≤ 4 ∧ RelN n x y
theorem okF_nI {a : Nat} (h : a < 7) : okF (nI a) := ⟨nI_pos (by omega), nI_ge (b := 7) h (by decide)⟩
theorem RelN.fl {n : Nat} {x y : HS} (h : RelN n x y) : okF y.1.2.1 := by
  obtain ⟨a, ha, ea⟩ := h.2.2.1.1
  rw [← h.2.1.1, ea]
  exact okF_nI ha
theorem RelN.bu {n j : Nat} {x y : HS} (h : RelN n x y) (hj : j < n) : okF (y.2.2.1 j) := by
  obtain ⟨a, ha, ea⟩ := (h.2.2.1.2 j hj).1
  rw [← h.2.1.2.2.1, ea]
  exact okF_nI ha
theorem isG_lt {n j : Nat} (hn : n ≤ 4) (hj : j < 2 ^ 31) (h : isG (nI n) (nI j)) : j < n := by
  rcases Nat.lt_or_ge j n with q | q
  · exact q
  · exact absurd (nI_le q hj) h.2
def bB (n : Nat) : Nat → Nat → HS → Bool
  | 0, _, x => decide (hHome n x)
  | k + 1, row, x => decide (row / 4 ^ k < n ∧ hReas x (nI (row / 4 ^ k)) = 0) && bB n k (row % 4 ^ k) (hGo n (row / 4 ^ k) x)
theorem bB_dfs {n : Nat} : ∀ {k row : Nat} {x : HS}, bB n k row x = true → dfsB n k x = true
  | 0, row, x, h => h
  | k + 1, row, x, h => by
    simp only [bB, Bool.and_eq_true, decide_eq_true_eq] at h
    exact dfs_yes h.1.1 h.1.2 (bB_dfs h.2)
theorem dig_ok {k g r : Nat} (hr : r < 4 ^ k) : (g * 4 ^ k + r) / 4 ^ k = g ∧ (g * 4 ^ k + r) % 4 ^ k = r := by
  have hp : 0 < 4 ^ k := Nat.pow_pos (by decide)
  constructor
  · rw [Nat.mul_comm, Nat.mul_add_div hp, Nat.div_eq_of_lt hr]; omega
  · rw [Nat.mul_comm, Nat.mul_add_mod, Nat.mod_eq_of_lt hr]
theorem bB_step {n k g r : Nat} {x : HS} (hr : r < 4 ^ k) (hg : g < n) (h1 : hReas x (nI g) = 0) (h2 : bB n k r (hGo n g x) = true) : bB n (k + 1) (g * 4 ^ k + r) x = true := by
  obtain ⟨a, b⟩ := dig_ok (g := g) hr
  simp only [bB, a, b, Bool.and_eq_true, decide_eq_true_eq]
  exact ⟨⟨hg, h1⟩, h2⟩
theorem dfs_bB {n : Nat} (hn : n ≤ 4) : ∀ {k : Nat} {x : HS}, dfsB n k x = true → ∃ row, row < 4 ^ k ∧ bB n k row x = true
  | 0, x, h => ⟨0, by decide, h⟩
  | k + 1, x, h => by
    simp only [dfsB, List.any_eq_true] at h
    obtain ⟨g, hg, q⟩ := h
    simp only [Bool.and_eq_true, decide_eq_true_eq] at q
    have hg := List.mem_range.mp hg
    obtain ⟨r, hr, h2⟩ := dfs_bB hn q.2
    refine ⟨g * 4 ^ k + r, ?_, bB_step hr hg q.1 h2⟩
    have e : 4 ^ (k + 1) = 4 * 4 ^ k := by rw [Nat.pow_succ, Nat.mul_comm]
    have : g * 4 ^ k ≤ 3 * 4 ^ k := Nat.mul_le_mul_right _ (by omega)
    omega
theorem bB_none {n k : Nat} {x : HS} (hn : n ≤ 4) (h : ∀ row, row < 4 ^ k → ¬ bB n k row x = true) : ¬ dfsB n k x = true := fun q => by
  obtain ⟨r, hr, h2⟩ := dfs_bB hn q
  exact h r hr h2
theorem lpE_first {n e g : Nat} {x : HS} (hg : g < n) (h1 : hReas x (nI g) = 0) (h2 : dfsB n e (hGo n g x) = true) (hno : ∀ i, i < g → ¬ (hReas x (nI i) = 0 ∧ dfsB n e (hGo n i x) = true)) : ∀ d i, i + d = g → lpE (sBest n e x) (fun _ => -1) (n - i) i () = nI g := by
  intro d
  induction d with
  | zero =>
    intro i hi
    obtain rfl : i = g := by omega
    obtain ⟨c, hc⟩ : ∃ c, n - i = c + 1 := ⟨n - i - 1, by omega⟩
    rw [hc]
    simp only [lpE, sBest_yes h1 h2]
  | succ d ih =>
    intro i hi
    obtain ⟨c, hc⟩ : ∃ c, n - i = c + 1 := ⟨n - i - 1, by omega⟩
    have := ih (i + 1) (by omega)
    rw [show n - (i + 1) = c by omega] at this
    rw [hc]
    simp only [lpE, sBest_no (hno i (by omega))]
    exact this
theorem best_first {n e g : Nat} {x : HS} (hg : g < n) (h1 : hReas x (nI g) = 0) (h2 : dfsB n e (hGo n g x) = true) (hno : ∀ i, i < g → ¬ (hReas x (nI i) = 0 ∧ dfsB n e (hGo n i x) = true)) : hBestK n e x = nI g := lpE_first hg h1 h2 hno g 0 (by omega)
/-- what the reference's search tells: ten thousand times how many, and the first guest -/
def mTold (n : Nat) (x : HS) : Int32 := if hFew n x = -1 then -1 else 10000 * hFew n x + (if hFew n x = 0 then 0 else hBst n x)
theorem told_no {n : Nat} {x : HS} (h : ∀ j, j < 6 → ¬ dfsB n j x = true) : -1 = mTold n x := by
  unfold mTold
  rw [← few_no h, if_pos rfl]
theorem few_0 {n : Nat} {x : HS} (h : dfsB n 0 x = true) : 10000 * nI 0 + 0 = mTold n x := by
  unfold mTold
  rw [← few_yes (k := 0) (by decide) h (fun j hj => by omega)]
  rfl
theorem few_e {n e row : Nat} {x : HS} (hn : n ≤ 4) (he : e ≤ 4) (h : bB n (e + 1) row x = true) (hno : ∀ r, r < row → ¬ bB n (e + 1) r x = true) (hk : ∀ j, j < e + 1 → ¬ dfsB n j x = true) : 10000 * nI (e + 1) + nI (row / 4 ^ e) = mTold n x := by
  have hf := few_yes (show e + 1 ≤ 5 by omega) (bB_dfs h) hk
  unfold mTold
  rw [← hf, if_neg, if_neg (nI_ne0 (by omega) (by omega))]
  · congr 1
    simp only [bB, Bool.and_eq_true, decide_eq_true_eq] at h
    obtain ⟨m9, hm, e1, e2⟩ := few_pos (n := n) (x := x) (by rw [← hf]; exact nI_lt (a := 0) (by omega) (by omega))
    rw [← hf, nI_eq (by omega) (by omega)] at e1
    obtain rfl : m9 = e := by omega
    rw [e2, best_first h.1.1 h.1.2 (bB_dfs h.2)]
    rintro i hi ⟨a, b⟩
    obtain ⟨r, hr, q⟩ := dfs_bB hn b
    refine hno (i * 4 ^ m9 + r) ?_ (bB_step hr (by have := h.1.1; omega) a q)
    have hp : 0 < 4 ^ m9 := Nat.pow_pos (by decide)
    have h1 : (i + 1) * 4 ^ m9 ≤ (row / 4 ^ m9) * 4 ^ m9 := Nat.mul_le_mul_right _ hi
    have h2 : (row / 4 ^ m9) * 4 ^ m9 ≤ row := Nat.div_mul_le_self _ _
    rw [Nat.add_mul] at h1
    omega
  · intro q
    have := congrArg Int32.toInt q
    rw [nI_toInt (by omega)] at this
    have e1 : (-1 : Int32).toInt = -1 := rfl
    omega
/-- the best press is a guest's where some press is wanted -/
theorem best_is {n k : Nat} {x : HS} (hf : hFew n x = nI (k + 1)) (hk : k ≤ 4) : ∃ g, g < n ∧ hBst n x = nI g := by
  rcases few_cases n x with ⟨k2, hk2, e, hd, hno⟩ | ⟨e, -⟩
  · rw [hf, nI_eq (by omega) (by omega)] at e
    subst e
    obtain ⟨m9, hm, e1, e2⟩ := few_pos (n := n) (x := x) (by rw [hf]; exact nI_lt (a := 0) (by omega) (by omega))
    rw [hf, nI_eq (by omega) (by omega)] at e1
    obtain rfl : m9 = k := by omega
    simp only [dfsB, List.any_eq_true] at hd
    obtain ⟨g, hg, q⟩ := hd
    simp only [Bool.and_eq_true, decide_eq_true_eq] at q
    obtain ⟨g2, ⟨a1, a2, a3⟩, a4⟩ := pk_least (fun g => g < n ∧ hReas x (nI g) = 0 ∧ dfsB n m9 (hGo n g x) = true) ⟨g, List.mem_range.mp hg, q⟩
    exact ⟨g2, a1, by rw [e2, best_first a1 a2 a3 (fun i hi z => a4 i hi ⟨by omega, z⟩)]⟩
  · rw [hf] at e
    have := congrArg Int32.toInt e
    rw [nI_toInt (by omega)] at this
    have e1 : (-1 : Int32).toInt = -1 := rfl
    omega
theorem told_few {n : Nat} {x : HS} (hn : n ≤ 4) : (if mTold n x = -1 then -1 else mTold n x / 10000) = hFew n x ∧ vBest (mTold n x) = hBst n x := by
  rcases few_cases n x with ⟨k, hk, e, -⟩ | ⟨e, -⟩
  · rcases Nat.eq_zero_or_pos k with q | q
    · subst q
      have e : hFew n x = 0 := e
      have t : mTold n x = 0 := by unfold mTold; rw [e]; rfl
      have b : hBst n x = -1 := by unfold hBst; rw [e]; rfl
      rw [t, e, b]
      exact ⟨rfl, rfl⟩
    · obtain ⟨m, rfl⟩ : ∃ m, k = m + 1 := ⟨k - 1, by omega⟩
      obtain ⟨g, hg, hb⟩ := best_is e (by omega)
      have t : mTold n x = nI (10000 * (m + 1) + g) := by
        unfold mTold
        rw [e, hb, if_neg, if_neg (nI_ne0 (by omega) (by omega))]
        · show nI 10000 * nI (m + 1) + nI g = _
          rw [pk_mul, nI_add]
        · intro q
          have := congrArg Int32.toInt q
          rw [nI_toInt (by omega)] at this
          have e1 : (-1 : Int32).toInt = -1 := rfl
          omega
      have ne : ¬ mTold n x = -1 := fun q => by
        rw [t] at q
        have := congrArg Int32.toInt q
        rw [nI_toInt (by omega)] at this
        have e1 : (-1 : Int32).toInt = -1 := rfl
        omega
      unfold vBest
      rw [if_neg ne, if_neg ne, t, e, hb]
      have d1 : nI (10000 * (m + 1) + g) / 10000 = nI ((10000 * (m + 1) + g) / 10000) := pk_div (by omega) (by decide) (by decide)
      have d2 : nI (10000 * (m + 1) + g) - nI (10000 * (m + 1) + g) / 10000 * 10000 = nI ((10000 * (m + 1) + g) % 10000) := pk_rem (by omega) (by decide) (by decide)
      refine ⟨by rw [d1]; congr 1; omega, ?_⟩
      rw [d2, if_pos (show (10000 : Int32) ≤ nI (10000 * (m + 1) + g) from nI_le (a := 10000) (b := 10000 * (m + 1) + g) (by omega) (by omega))]
      congr 1
      omega
  · have t : mTold n x = -1 := by unfold mTold; rw [e, if_pos rfl]
    have b : hBst n x = -1 := by unfold hBst; rw [e]; rfl
    rw [t, e, b]
    exact ⟨rfl, rfl⟩
