/-! small things that the law's methods ask of a hotel -/
theorem if_add {a b : Int32} {P : Prop} [Decidable P] : a + (if P then b else 0) = if P then a + b else a := by
  by_cases h : P
  · rw [if_pos h, if_pos h]
  · rw [if_neg h, if_neg h, Int32.add_zero]
theorem st_of {B n g : Nat} {x : HS} (h : Hx B n x) (hg : g < n) : x.2.2.2.2.2.2.1 g = 0 ∨ x.2.2.2.2.2.2.1 g = 1 ∨ x.2.2.2.2.2.2.1 g = 2 := by
  obtain ⟨a, ha, e⟩ := (h.ok.2.2.2 g hg).2.1
  rw [e]
  rcases (show a = 0 ∨ a = 1 ∨ a = 2 by omega) with q | q | q <;> subst q
  · exact Or.inl rfl
  · exact Or.inr (Or.inl rfl)
  · exact Or.inr (Or.inr rfl)
theorem where_st {g : Nat} {x : HS} : hWhere x g = if x.2.2.2.2.2.2.1 g = 1 then x.1.2.1 else if x.2.2.2.2.2.2.1 g = 2 then x.2.2.2.2.1 g else x.2.2.2.1 g := by
  obtain ⟨⟨gu, fl, se, pr, re, go, ch⟩, ⟨sg, bu, wa, ho, we, st, gr, po, ri⟩⟩ := x
  rfl
theorem where_0 {g : Nat} {x : HS} (h : x.2.2.2.2.2.2.1 g = 0) : hWhere x g = x.2.2.2.1 g := by
  rw [where_st, if_neg (by rw [h]; decide), if_neg (by rw [h]; decide)]
theorem where_1 {g : Nat} {x : HS} (h : x.2.2.2.2.2.2.1 g = 1) : hWhere x g = x.1.2.1 := by
  rw [where_st, if_pos h]
theorem where_2 {g : Nat} {x : HS} (h : x.2.2.2.2.2.2.1 g = 2) : hWhere x g = x.2.2.2.2.1 g := by
  rw [where_st, if_neg (by rw [h]; decide), if_pos h]
theorem where_f {B n g : Nat} {x : HS} (h : Hx B n x) (hg : g < n) : ∃ a : Nat, a < 7 ∧ hWhere x g = nI a := by
  obtain ⟨k1, k2, -⟩ := h.2.2.2 g hg
  rcases st_of h hg with q | q | q
  · rw [where_0 q]; exact k1
  · rw [where_1 q]; exact h.ok.2.2.1
  · rw [where_2 q]; exact k2
theorem bu_f {B n g : Nat} {x : HS} (h : Hx B n x) (hg : g < n) : ∃ a : Nat, a < 7 ∧ x.2.2.1 g = nI a := (h.ok.2.2.2 g hg).1
/-- a guest is home where home is -/
theorem home_iff {B n g : Nat} {x : HS} (h : Hx B n x) (hg : g < n) : x.2.2.2.2.2.2.1 g = 2 ↔ hWhere x g = x.2.2.2.2.1 g := by
  obtain ⟨k1, k2, k3, k4, k5, k6⟩ := h.2.2.2 g hg
  constructor
  · exact fun q => where_2 q
  · intro q
    rcases st_of h hg with r | r | r
    · rw [where_0 r] at q
      exact absurd q (k4 r)
    · rw [where_1 r] at q
      exact absurd q.symm (k5 r)
    · exact r
theorem reas_g {B n g : Nat} {x : HS} (h : Hx B n x) (hg : g < n) : hReas x (nI g) = if x.2.2.2.2.2.2.1 g = 2 then 1 else if x.2.2.2.2.2.2.2.1 g < x.2.1 1 then (if x.1.2.1 = x.2.2.1 g then 3 else 0) else 2 := by
  obtain ⟨hn, hgu, -⟩ := h.ok
  obtain ⟨⟨gu, fl, se, pr, re, go, ch⟩, ⟨sg, bu, wa, ho, we, st, gr, po, ri⟩⟩ := x
  obtain rfl : gu = nI n := hgu
  simp only [hReas, if_pos (isG_nI hn hg), nI_clamp (show g < 2 ^ 31 by omega)]
  rfl
theorem reas_1 {B n g : Nat} {x : HS} (h : Hx B n x) (hg : g < n) (c : x.2.2.2.2.2.2.1 g = 2) : (1 : Int32) = hReas x (nI g) := by rw [reas_g h hg, if_pos c]
theorem reas_2 {B n g : Nat} {x : HS} (h : Hx B n x) (hg : g < n) (c : ¬ x.2.2.2.2.2.2.1 g = 2) (d : ¬ x.2.2.2.2.2.2.2.1 g < x.2.1 1) : (2 : Int32) = hReas x (nI g) := by rw [reas_g h hg, if_neg c, if_neg d]
theorem reas_3 {B n g : Nat} {x : HS} (h : Hx B n x) (hg : g < n) (c : ¬ x.2.2.2.2.2.2.1 g = 2) (d : x.2.2.2.2.2.2.2.1 g < x.2.1 1) (e : x.2.2.1 g = x.1.2.1) : (3 : Int32) = hReas x (nI g) := by rw [reas_g h hg, if_neg c, if_pos d, if_pos e.symm]
theorem reas_0 {B n g : Nat} {x : HS} (h : Hx B n x) (hg : g < n) (c : ¬ x.2.2.2.2.2.2.1 g = 2) (d : x.2.2.2.2.2.2.2.1 g < x.2.1 1) (e : ¬ x.2.2.1 g = x.1.2.1) : (0 : Int32) = hReas x (nI g) := by rw [reas_g h hg, if_neg c, if_pos d, if_neg (fun q => e q.symm)]
theorem wait_bit {B n g : Nat} {x : HS} (h : Hx B n x) (hg : g < n) : (hFS n x (hWhere x g) 0 >>> (nI g &&& 31)) &&& 1 = zb (x.2.2.2.2.2.2.1 g = 0) := by
  rw [bit_set h.ok.1 hg]
  refine zb_congr2 (vBel_0.trans ⟨fun q => q.1, fun q => ⟨q, (where_0 q).symm⟩⟩)
theorem home_bit {B n g : Nat} {x : HS} (h : Hx B n x) (hg : g < n) : (hFS n x (hWhere x g) 1 >>> (nI g &&& 31)) &&& 1 = zb (x.2.2.2.2.2.2.1 g = 2) := by
  rw [bit_set h.ok.1 hg]
  refine zb_congr2 (vBel_1.trans ⟨fun q => q.1, fun q => ⟨q, (where_2 q).symm⟩⟩)
theorem but_bit {B n g : Nat} {x : HS} (h : Hx B n x) (hg : g < n) : (hFS n x (x.2.2.1 g) 2 >>> (nI g &&& 31)) &&& 1 = 1 := by
  rw [bit_set h.ok.1 hg, show (1 : Int32) = zb True from rfl]
  exact zb_congr2 (vBel_2.trans ⟨fun _ => trivial, fun _ => rfl⟩)
/-- who is left standing waited there before -/
theorem left_in {B n g : Nat} {x : HS} (h : Hx B n x) (hg : g < n) : hStandR n x (nI g) &&& (hFS n x (x.2.2.1 g) 0 ^^^ (-1)) = 0 := by
  obtain ⟨hn, hgu, hok⟩ := h.ok
  unfold hStandR
  rw [hgu, if_pos (isG_nI hn hg), nI_clamp (by omega)]
  split
  · exact sub_none
  · obtain ⟨g1, g2, g3, g4, g5, g6, g7, g8, g9, g10, g11⟩ := go_spec hg hok (fun i hi => (h.2.2.2 i hi).2.2.2.2.2)
    refine sub_set hn (fun i hi q => ?_)
    rw [vBel_0, g8, g2] at q
    rw [vBel_0]
    refine ⟨?_, q.2⟩
    rcases st_of h hi with r | r | r
    · exact r
    · have := ((g11 i hi).2.1 r).symm.trans q.1
      split at this <;> exact absurd this (by decide)
    · exact absurd (((g11 i hi).2.2.1 r).symm.trans q.1) (by decide)
theorem few_home {B n : Nat} {x : HS} (h : Hx B n x) : hFew n x = 0 ↔ hGI n x 2 = nI n := by
  rw [few_0, h.ok.2.1]
theorem best_none {n : Nat} {x : HS} (hn : n ≤ 4) : hBst n x = -1 ↔ ¬ 0 < hFew n x := by
  rcases best_cases n x with ⟨h1, h2⟩ | ⟨k, g, hk, h1, hg, h2, -⟩
  · refine ⟨fun _ => ?_, fun _ => h1⟩
    rcases h2 with q | q <;> rw [q] <;> decide
  · constructor
    · intro q
      rw [h2] at q
      rcases (show g = 0 ∨ g = 1 ∨ g = 2 ∨ g = 3 by omega) with r | r | r | r <;> subst r <;> exact absurd q (by decide)
    · intro q
      rw [h1] at q
      exact absurd (nI_lt (a := 0) (b := k + 1) (by omega) (by omega)) q
