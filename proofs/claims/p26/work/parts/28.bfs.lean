/-! rows of presses, and all positions in the order of their presses -/
abbrev hHome (n : Nat) (x : HS) : Prop := hGI n x 2 = x.1.1
/-- y is reached from x by k presses that are not refused, up to what only counts -/
def Rch (n : Nat) : Nat → HS → HS → Prop
  | 0, x, y => Co y x
  | k + 1, x, y => ∃ (z : HS) (g : Nat), Rch n k x z ∧ g < n ∧ hReas z (nI g) = 0 ∧ Co y (hGo n g z)
theorem hHome_co {n : Nat} {x y : HS} (h : Co x y) : hHome n x ↔ hHome n y := by unfold hHome; rw [Co_gi h, h.1]
theorem Rch_head {n : Nat} : ∀ {k : Nat} {x y : HS}, Rch n (k + 1) x y ↔ ∃ g : Nat, g < n ∧ hReas x (nI g) = 0 ∧ Rch n k (hGo n g x) y
  | 0, x, y => by
    constructor
    · rintro ⟨z, g, h1, h2, h3, h4⟩
      exact ⟨g, h2, by rw [← Co_reas h1]; exact h3, h4.tr (Co_go h1)⟩
    · rintro ⟨g, h2, h3, h4⟩
      exact ⟨x, g, Co.rf, h2, h3, h4⟩
  | k + 1, x, y => by
    constructor
    · rintro ⟨z, g, h1, h2, h3, h4⟩
      obtain ⟨g0, a1, a2, a3⟩ := (Rch_head (k := k)).mp h1
      exact ⟨g0, a1, a2, z, g, a3, h2, h3, h4⟩
    · rintro ⟨g0, a1, a2, z, g, a3, h2, h3, h4⟩
      exact ⟨z, g, (Rch_head (k := k)).mpr ⟨g0, a1, a2, a3⟩, h2, h3, h4⟩
theorem dfs_rch {n : Nat} : ∀ {k : Nat} {x : HS}, dfsB n k x = true ↔ ∃ y, Rch n k x y ∧ hHome n y
  | 0, x => by
    simp only [dfsB, decide_eq_true_eq]
    exact ⟨fun h => ⟨x, Co.rf, h⟩, fun ⟨y, h1, h2⟩ => (hHome_co h1).mp h2⟩
  | k + 1, x => by
    constructor
    · intro h
      simp only [dfsB, List.any_eq_true] at h
      obtain ⟨g, hg, q⟩ := h
      simp only [Bool.and_eq_true, decide_eq_true_eq] at q
      obtain ⟨y, h1, h2⟩ := (dfs_rch (k := k)).mp q.2
      exact ⟨y, Rch_head.mpr ⟨g, List.mem_range.mp hg, q.1, h1⟩, h2⟩
    · rintro ⟨y, h1, h2⟩
      obtain ⟨g, hg, a, b⟩ := Rch_head.mp h1
      exact dfs_yes hg a ((dfs_rch (k := k)).mpr ⟨y, b, h2⟩)
theorem okX_co {n : Nat} {x y : HS} (h : okX n x) (k : Co y x) : okX n y := h.co k.sy
theorem Rch_keep {n : Nat} {x : HS} (hx : okX n x) : ∀ {k : Nat} {y : HS}, Rch n k x y → Fr n x y ∧ okX n y
  | 0, y, h => ⟨h.sy.fr, okX_co hx h⟩
  | k + 1, y, ⟨z, g, h1, h2, h3, h4⟩ => by
    obtain ⟨a, b⟩ := Rch_keep hx h1
    obtain ⟨c, d⟩ := go_keep h2 b
    exact ⟨(a.tr c).tr h4.sy.fr, okX_co d h4⟩
theorem pos_co {n : Nat} {x y z : HS} (hn : n ≤ 4) (hy : okX n y) (hz : okX n z) (fy : Fr n x y) (fz : Fr n x z) (h : hPos n y = hPos n z) : Co y z := by
  have a := take_co (y := x) hn hy.p fy.sy
  have b := take_co (y := x) hn hz.p fz.sy
  rw [h] at a
  exact a.sy.tr b
/-- the fewest presses -/
def hFew (n : Nat) (x : HS) : Int32 := if dfsB n 0 x = true then 0 else if dfsB n 1 x = true then 1 else if dfsB n 2 x = true then 2 else if dfsB n 3 x = true then 3 else if dfsB n 4 x = true then 4 else if dfsB n 5 x = true then 5 else -1
theorem few_yes {n k : Nat} {x : HS} (hk : k ≤ 5) (h : dfsB n k x = true) (hno : ∀ j, j < k → ¬ dfsB n j x = true) : nI k = hFew n x := by
  unfold hFew
  rcases (show k = 0 ∨ k = 1 ∨ k = 2 ∨ k = 3 ∨ k = 4 ∨ k = 5 by omega) with q | q | q | q | q | q <;> subst q
  · rw [if_pos h]; rfl
  · rw [if_neg (hno 0 (by decide)), if_pos h]; rfl
  · rw [if_neg (hno 0 (by decide)), if_neg (hno 1 (by decide)), if_pos h]; rfl
  · rw [if_neg (hno 0 (by decide)), if_neg (hno 1 (by decide)), if_neg (hno 2 (by decide)), if_pos h]; rfl
  · rw [if_neg (hno 0 (by decide)), if_neg (hno 1 (by decide)), if_neg (hno 2 (by decide)), if_neg (hno 3 (by decide)), if_pos h]; rfl
  · rw [if_neg (hno 0 (by decide)), if_neg (hno 1 (by decide)), if_neg (hno 2 (by decide)), if_neg (hno 3 (by decide)), if_neg (hno 4 (by decide)), if_pos h]; rfl
theorem few_no {n : Nat} {x : HS} (hno : ∀ j, j < 6 → ¬ dfsB n j x = true) : -1 = hFew n x := by
  unfold hFew
  rw [if_neg (hno 0 (by decide)), if_neg (hno 1 (by decide)), if_neg (hno 2 (by decide)), if_neg (hno 3 (by decide)), if_neg (hno 4 (by decide)), if_neg (hno 5 (by decide))]
/-- what the fewest presses are -/
theorem few_cases (n : Nat) (x : HS) : (∃ k, k ≤ 5 ∧ hFew n x = nI k ∧ dfsB n k x = true ∧ ∀ j, j < k → ¬ dfsB n j x = true) ∨ (hFew n x = -1 ∧ ∀ j, j < 6 → ¬ dfsB n j x = true) := by
  by_cases h0 : dfsB n 0 x = true
  · exact Or.inl ⟨0, by decide, (few_yes (by decide) h0 (by omega)).symm, h0, by omega⟩
  by_cases h1 : dfsB n 1 x = true
  · have q : ∀ j, j < 1 → ¬ dfsB n j x = true := fun j hj => by rcases (show j = 0 by omega) with r; subst r; exact h0
    exact Or.inl ⟨1, by decide, (few_yes (by decide) h1 q).symm, h1, q⟩
  by_cases h2 : dfsB n 2 x = true
  · have q : ∀ j, j < 2 → ¬ dfsB n j x = true := fun j hj => by rcases (show j = 0 ∨ j = 1 by omega) with r | r <;> subst r <;> assumption
    exact Or.inl ⟨2, by decide, (few_yes (by decide) h2 q).symm, h2, q⟩
  by_cases h3 : dfsB n 3 x = true
  · have q : ∀ j, j < 3 → ¬ dfsB n j x = true := fun j hj => by rcases (show j = 0 ∨ j = 1 ∨ j = 2 by omega) with r | r | r <;> subst r <;> assumption
    exact Or.inl ⟨3, by decide, (few_yes (by decide) h3 q).symm, h3, q⟩
  by_cases h4 : dfsB n 4 x = true
  · have q : ∀ j, j < 4 → ¬ dfsB n j x = true := fun j hj => by rcases (show j = 0 ∨ j = 1 ∨ j = 2 ∨ j = 3 by omega) with r | r | r | r <;> subst r <;> assumption
    exact Or.inl ⟨4, by decide, (few_yes (by decide) h4 q).symm, h4, q⟩
  by_cases h5 : dfsB n 5 x = true
  · have q : ∀ j, j < 5 → ¬ dfsB n j x = true := fun j hj => by rcases (show j = 0 ∨ j = 1 ∨ j = 2 ∨ j = 3 ∨ j = 4 by omega) with r | r | r | r | r <;> subst r <;> assumption
    exact Or.inl ⟨5, by decide, (few_yes (by decide) h5 q).symm, h5, q⟩
  · have q : ∀ j, j < 6 → ¬ dfsB n j x = true := fun j hj => by rcases (show j = 0 ∨ j = 1 ∨ j = 2 ∨ j = 3 ∨ j = 4 ∨ j = 5 by omega) with r | r | r | r | r | r <;> subst r <;> assumption
    exact Or.inr ⟨(few_no q).symm, q⟩
/-- how many of the first k are at most e presses far -/
def cntD (dep : Nat → Nat) (e : Nat) : Nat → Nat
  | 0 => 0
  | k + 1 => cntD dep e k + if dep k ≤ e then 1 else 0
theorem cntD_congr {dep dep2 : Nat → Nat} {e : Nat} : ∀ {k : Nat}, (∀ j, j < k → dep j = dep2 j) → cntD dep e k = cntD dep2 e k
  | 0, _ => rfl
  | k + 1, h => by
    simp only [cntD]
    rw [cntD_congr (k := k) (fun j hj => h j (by omega)), h k (by omega)]
theorem cntD_mono {dep : Nat → Nat} {e : Nat} : ∀ {k m : Nat}, k ≤ m → cntD dep e k ≤ cntD dep e m
  | k, 0, h => by
    obtain rfl : k = 0 := by omega
    exact Nat.le_refl _
  | k, m + 1, h => by
    rcases Nat.lt_or_ge m k with q | q
    · obtain rfl : k = m + 1 := by omega
      exact Nat.le_refl _
    · have := cntD_mono (dep := dep) (e := e) (k := k) (m := m) q
      simp only [cntD]
      omega
theorem cntD_all {dep : Nat → Nat} {e : Nat} : ∀ {k : Nat}, (∀ j, j < k → dep j ≤ e) → cntD dep e k = k
  | 0, _ => rfl
  | k + 1, h => by
    simp only [cntD]
    rw [cntD_all (k := k) (fun j hj => h j (by omega)), if_pos (h k (by omega))]
def updN (f : Nat → Nat) (i v : Nat) : Nat → Nat := fun j => if j = i then v else f j
def updH (f : Nat → HS) (i : Nat) (v : HS) : Nat → HS := fun j => if j = i then v else f j
/-- the positions that are kept, while the i-th is looked at for the guest g -/
def Bfs (n : Nat) (x : HS) (ct : Nat) (pf bf : Nat → Int32) (dep : Nat → Nat) (ys : Nat → HS) (i g : Nat) : Prop :=
  (i ≤ ct ∧ 1 ≤ ct ∧ ct ≤ 341) ∧
  (∀ j, j < ct → Rch n (dep j) x (ys j) ∧ ¬ hHome n (ys j) ∧ dep j ≤ 4 ∧ pf j = hPos n (ys j) ∧ bf j = nI (dep j)) ∧
  (dep 0 = 0 ∧ pf 0 = hPos n x) ∧
  (∀ j k, j ≤ k → k < ct → dep j ≤ dep k) ∧
  (i < ct → ∀ j, j < ct → dep j ≤ dep i + 1) ∧
  (∀ j g2, ((j < i ∧ g2 < n) ∨ (j = i ∧ g2 < g)) → j < ct → hReas (ys j) (nI g2) = 0 → ¬ hHome n (hGo n g2 (ys j)) ∧ (dep j < 4 → ∃ k, k < ct ∧ pf k = hPos n (hGo n g2 (ys j)) ∧ dep k ≤ dep j + 1)) ∧
  (∀ e, e ≤ 3 → cntD dep (e + 1) ct ≤ 1 + 4 * cntD dep e i + (if dep i ≤ e then g else 0)) ∧
  cntD dep 0 ct ≤ 1
theorem bfs_0 {n : Nat} {x : HS} {pf bf : Nat → Int32} (h : ¬ hHome n x) : Bfs n x 1 (upd pf 0 (hPos n x)) (upd bf 0 (nI 0)) (fun _ => 0) (fun _ => x) 0 0 := by
  refine ⟨⟨by decide, by decide, by decide⟩, fun j hj => ?_, ⟨rfl, rfl⟩, fun _ _ _ _ => Nat.le_refl _, fun _ _ _ => Nat.zero_le _, fun j g2 hq => by omega, fun e he => ?_, ?_⟩
  · obtain rfl : j = 0 := by omega
    exact ⟨Co.rf, h, by decide, rfl, rfl⟩
  · simp [cntD]
  · simp [cntD]
theorem bfs_no {n : Nat} {x : HS} {ct : Nat} {pf bf : Nat → Int32} {dep : Nat → Nat} {ys : Nat → HS} {i g : Nat} (B : Bfs n x ct pf bf dep ys i g) (h : i < ct → hReas (ys i) (nI g) = 0 → ¬ hHome n (hGo n g (ys i)) ∧ (dep i < 4 → ∃ k, k < ct ∧ pf k = hPos n (hGo n g (ys i)))) : Bfs n x ct pf bf dep ys i (g + 1) := by
  obtain ⟨b1, b2, b3, b4, b5, b6, b7, b8⟩ := B
  refine ⟨b1, b2, b3, b4, b5, fun j g2 hq hj hr => ?_, fun e he => ?_, b8⟩
  · by_cases q : j = i ∧ g2 = g
    · obtain ⟨rfl, rfl⟩ := q
      obtain ⟨a, b⟩ := h hj hr
      refine ⟨a, fun hd => ?_⟩
      obtain ⟨k, k1, k2⟩ := b hd
      exact ⟨k, k1, k2, b5 hj k k1⟩
    · exact b6 j g2 (by omega) hj hr
  · have := b7 e he
    split at this <;> rename_i q
    · rw [if_pos q]; omega
    · rw [if_neg q]; omega
theorem bfs_new {n : Nat} {x : HS} {ct : Nat} {pf bf : Nat → Int32} {dep : Nat → Nat} {ys : Nat → HS} {i g : Nat} (hn : n ≤ 4) (B : Bfs n x ct pf bf dep ys i g) (hi : i < ct) (hg : g < n) (hr : hReas (ys i) (nI g) = 0) (hh : ¬ hHome n (hGo n g (ys i))) (hd : dep i < 4) :
    ct < 341 ∧ Bfs n x (ct + 1) (upd pf ct (hPos n (hGo n g (ys i)))) (upd bf ct (nI (dep i + 1))) (updN dep ct (dep i + 1)) (updH ys ct (hGo n g (ys i))) i (g + 1) := by
  obtain ⟨b1, b2, b3, b4, b5, b6, b7, b8⟩ := B
  have c0 := cntD_mono (dep := dep) (e := 0) (show i + 1 ≤ ct from hi)
  have c1 := cntD_mono (dep := dep) (e := 1) (show i + 1 ≤ ct from hi)
  have c2 := cntD_mono (dep := dep) (e := 2) (show i + 1 ≤ ct from hi)
  have c3 := cntD_mono (dep := dep) (e := 3) (show i + 1 ≤ ct from hi)
  have a4 : cntD dep 4 ct = ct := cntD_all (fun j hj => (b2 j hj).2.2.1)
  have d0 := b7 0 (by decide)
  have d1 := b7 1 (by decide)
  have d2 := b7 2 (by decide)
  have d3 := b7 3 (by decide)
  simp only [cntD, Nat.zero_add, Nat.reduceAdd] at c0 c1 c2 c3 d0 d1 d2 d3
  have e1 : cntD dep 1 ct ≤ 5 := by split at c0 <;> split at d0 <;> first | omega | (exfalso; omega)
  have e2 : cntD dep 2 ct ≤ 21 := by split at c1 <;> split at d1 <;> first | omega | (exfalso; omega)
  have e3 : cntD dep 3 ct ≤ 85 := by split at c2 <;> split at d2 <;> first | omega | (exfalso; omega)
  have hct : ct < 341 := by
    rw [if_pos (by omega)] at c3 d3
    omega
  have hne : ∀ j, j < ct → updN dep ct (dep i + 1) j = dep j := fun j hj => by unfold updN; rw [if_neg (by omega)]
  have hsf : updN dep ct (dep i + 1) ct = dep i + 1 := by unfold updN; rw [if_pos rfl]
  have hye : ∀ j, j < ct → updH ys ct (hGo n g (ys i)) j = ys j := fun j hj => by unfold updH; rw [if_neg (by omega)]
  have hys : updH ys ct (hGo n g (ys i)) ct = hGo n g (ys i) := by unfold updH; rw [if_pos rfl]
  have hpe : ∀ (f : Nat → Int32) (v : Int32) j, j < ct → upd f ct v j = f j := fun f v j hj => upd_ne (by omega)
  have hps : ∀ (f : Nat → Int32) (v : Int32), upd f ct v ct = v := fun f v => by unfold upd; rw [if_pos rfl]
  refine ⟨hct, ⟨by omega, by omega, by omega⟩, fun j hj => ?_, ⟨?_, ?_⟩, fun j k hjk hk => ?_, fun _ j hj => ?_, fun j g2 hq hj hrr => ?_, fun e he => ?_, ?_⟩
  · rcases Nat.lt_or_ge j ct with q | q
    · rw [hne j q, hye j q, hpe pf _ j q, hpe bf _ j q]; exact b2 j q
    · obtain rfl : j = ct := by omega
      rw [hsf, hys, hps, hps]
      exact ⟨⟨ys i, g, (b2 i hi).1, hg, hr, Co.rf⟩, hh, by omega, rfl, rfl⟩
  · rw [hne 0 (by omega)]; exact b3.1
  · rw [hpe pf _ 0 (by omega)]; exact b3.2
  · rcases Nat.lt_or_ge k ct with q | q
    · rw [hne k q, hne j (by omega)]; exact b4 j k hjk q
    · obtain rfl : k = ct := by omega
      rw [hsf]
      rcases Nat.lt_or_ge j k with q2 | q2
      · rw [hne j q2]; exact b5 hi j q2
      · obtain rfl : j = k := by omega
        rw [hsf]; exact Nat.le_refl _
  · rw [hne i hi]
    rcases Nat.lt_or_ge j ct with q | q
    · rw [hne j q]; exact b5 hi j q
    · obtain rfl : j = ct := by omega
      rw [hsf]; exact Nat.le_refl _
  · have hjc : j < ct := by omega
    rw [hye j hjc] at hrr ⊢
    rw [hne j hjc]
    by_cases q : j = i ∧ g2 = g
    · obtain ⟨rfl, rfl⟩ := q
      exact ⟨hh, fun _ => ⟨ct, by omega, hps _ _, by rw [hsf]; exact Nat.le_refl _⟩⟩
    · obtain ⟨a, b⟩ := b6 j g2 (by omega) hjc hrr
      refine ⟨a, fun h4 => ?_⟩
      obtain ⟨k, k1, k2, k3⟩ := b h4
      exact ⟨k, by omega, by rw [hpe pf _ k k1]; exact k2, by rw [hne k k1]; exact k3⟩
  · have q := b7 e he
    rw [hne i hi, cntD_congr (k := i) (fun j hj => hne j (by omega))]
    simp only [cntD]
    rw [hsf, cntD_congr (k := ct) hne]
    by_cases z : dep i ≤ e
    · rw [if_pos z] at q ⊢
      rw [if_pos (by omega)]
      omega
    · rw [if_neg z] at q ⊢
      rw [if_neg (by omega)]
      omega
  · simp only [cntD]
    rw [hsf, cntD_congr (k := ct) hne, if_neg (by omega)]
    omega
theorem bfs_next {n : Nat} {x : HS} {ct : Nat} {pf bf : Nat → Int32} {dep : Nat → Nat} {ys : Nat → HS} {i : Nat} (hn : n ≤ 4) (B : Bfs n x ct pf bf dep ys i n) (hi : i < ct) : Bfs n x ct pf bf dep ys (i + 1) 0 := by
  obtain ⟨b1, b2, b3, b4, b5, b6, b7, b8⟩ := B
  refine ⟨⟨hi, b1.2⟩, b2, b3, b4, fun h j hj => ?_, fun j g2 hq hj hr => b6 j g2 (by omega) hj hr, fun e he => ?_, b8⟩
  · have := b5 hi j hj
    have := b4 i (i + 1) (by omega) h
    omega
  · have q := b7 e he
    simp only [cntD]
    by_cases z : dep i ≤ e
    · rw [if_pos z] at q ⊢
      split <;> omega
    · rw [if_neg z] at q ⊢
      split <;> omega
theorem bfs_all {n : Nat} {x : HS} {ct : Nat} {pf bf : Nat → Int32} {dep : Nat → Nat} {ys : Nat → HS} {i g : Nat} (hn : n ≤ 4) (hx : okX n x) (B : Bfs n x ct pf bf dep ys i g) : ∀ {k : Nat} {y : HS}, k ≤ 4 → (∀ j, j < ct → dep j < k → j < i) → Rch n k x y → ∃ j, j < ct ∧ Co (ys j) y ∧ dep j ≤ k := by
  obtain ⟨b1, b2, b3, b4, b5, b6, b7, b8⟩ := B
  intro k
  induction k with
  | zero =>
    intro y _ _ h
    have h0 := b2 0 (by omega)
    have k0 := Rch_keep hx h0.1
    refine ⟨0, by omega, ?_, by omega⟩
    exact (pos_co hn k0.2 hx k0.1 Fr.rf (by rw [← h0.2.2.2.1]; exact b3.2)).tr (Co.sy h)
  | succ k ih =>
    rintro y hk hj ⟨z, g2, h1, h2, h3, h4⟩
    obtain ⟨j, j1, j2, j3⟩ := ih (by omega) (fun j a b => hj j a (by omega)) h1
    have hji := hj j j1 (by omega)
    obtain ⟨-, q⟩ := b6 j g2 (Or.inl ⟨hji, h2⟩) j1 (by rw [Co_reas j2]; exact h3)
    obtain ⟨k2, k3, k4, k5⟩ := q (by omega)
    have r := b2 k2 k3
    have kk := Rch_keep hx r.1
    have rj := Rch_keep hx (b2 j j1).1
    have gj := go_keep h2 rj.2
    refine ⟨k2, k3, ?_, by omega⟩
    exact ((pos_co hn kk.2 gj.2 kk.1 (rj.1.tr gj.1) (by rw [← r.2.2.2.1]; exact k4)).tr (Co_go j2)).tr h4.sy
theorem bfs_yes {n : Nat} {x : HS} {ct : Nat} {pf bf : Nat → Int32} {dep : Nat → Nat} {ys : Nat → HS} {i g : Nat} (hn : n ≤ 4) (hx : okX n x) (B : Bfs n x ct pf bf dep ys i g) (hi : i < ct) (hg : g < n) (hr : hReas (ys i) (nI g) = 0) (hh : hHome n (hGo n g (ys i))) : nI (dep i + 1) = hFew n x := by
  have b2 := B.2.1
  have b4 := B.2.2.2.1
  refine few_yes (by have := (b2 i hi).2.2.1; omega) (dfs_rch.mpr ⟨_, ⟨ys i, g, (b2 i hi).1, hg, hr, Co.rf⟩, hh⟩) (fun j hj q => ?_)
  obtain ⟨y, h1, h2⟩ := dfs_rch.mp q
  obtain ⟨k, k1, k2, k3⟩ := bfs_all hn hx B (k := j) (by have := (b2 i hi).2.2.1; omega) (fun j2 a b => by
    rcases Nat.lt_or_ge j2 i with z | z
    · exact z
    · have := b4 i j2 z a
      omega) h1
  exact (b2 k k1).2.1 ((hHome_co k2).mpr h2)
theorem bfs_end {n : Nat} {x : HS} {ct : Nat} {pf bf : Nat → Int32} {dep : Nat → Nat} {ys : Nat → HS} {g : Nat} (hn : n ≤ 4) (hx : okX n x) (B : Bfs n x ct pf bf dep ys ct g) : -1 = hFew n x := by
  have b2 := B.2.1
  refine few_no (fun j hj q => ?_)
  obtain ⟨y, h1, h2⟩ := dfs_rch.mp q
  rcases Nat.lt_or_ge j 5 with z | z
  · obtain ⟨k, k1, k2, k3⟩ := bfs_all hn hx B (k := j) (by omega) (fun j2 a _ => a) h1
    exact (b2 k k1).2.1 ((hHome_co k2).mpr h2)
  · obtain rfl : j = 5 := by omega
    obtain ⟨w, g2, a1, a2, a3, a4⟩ := h1
    obtain ⟨k, k1, k2, k3⟩ := bfs_all hn hx B (k := 4) (by omega) (fun j2 a _ => a) a1
    exact (B.2.2.2.2.2.1 k g2 (Or.inl ⟨k1, a2⟩) k1 (by rw [Co_reas k2]; exact a3)).1 ((hHome_co (a4.tr (Co_go k2.sy))).mp h2)
/-- what is kept of a position and its presses -/
def kNew (ct : Nat) (pf bf : Nat → Int32) (v d : Int32) (u : Nat × (Nat → Int32) × (Nat → Int32)) : Prop := ((∃ j, j < ct ∧ pf j = v) ∧ u = (ct, pf, bf)) ∨ ((∀ j, j < ct → ¬ pf j = v) ∧ u = if ct < 341 then (ct + 1, upd pf ct v, upd bf ct d) else (ct, pf, bf))
/-- the best press -/
def hBest (n : Nat) (x : HS) : Int32 := if hFew n x ≤ 0 then -1 else match (List.range n).find? (fun g => decide (hReas x (nI g) = 0) && dfsB n (hFew n x - 1).toNatClampNeg (hGo n g x)) with
  | some g => nI g
  | none => -1
