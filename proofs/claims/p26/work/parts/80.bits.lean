/-! sets of guests, as bits -/
theorem b_xor (x y : Int32) (i : Nat) : bt (x ^^^ y) i = (bt x i ^^ bt y i) := by unfold bt; rw [Int32.toBitVec_xor, BitVec.getLsbD_xor]
theorem bt_m1 : ∀ i, i < 32 → bt (-1) i = true := by decide +kernel
theorem bt_one : ∀ i, i < 32 → bt 1 i = decide (i = 0) := by decide +kernel
theorem bt_zero : ∀ i, i < 32 → bt 0 i = false := by decide +kernel
theorem bt_sFS {st wa ho bu : Nat → Int32} {f w a : Int32} {g j : Nat} (hg : g < 32) (hj : j < 32) : bt (sFS st wa ho bu f w g a) j = (bt a j || (decide (g = j) && decide (¬ vBel st wa ho bu g f w = 0))) := by
  unfold sFS
  by_cases h : vBel st wa ho bu g f w = 0
  · rw [if_pos h, decide_eq_false (fun q : ¬ vBel st wa ho bu g f w = 0 => q h), Bool.and_false, Bool.or_false]
  · rw [if_neg h, b_or, b_shl g hg 1 hj, decide_eq_true h, bt_one (j - g) (by omega), Bool.and_true]
    have e : (decide (g ≤ j) && decide (j - g = 0)) = decide (g = j) := by
      by_cases q : g = j
      · subst q; simp
      · rcases Nat.lt_or_ge j g with r | r
        · rw [decide_eq_false (show ¬ g ≤ j by omega), decide_eq_false q]; rfl
        · rw [decide_eq_true r, decide_eq_false (show ¬ j - g = 0 by omega), decide_eq_false q]; rfl
    rw [e]
theorem bt_lFS {st wa ho bu : Nat → Int32} {f w : Int32} {j : Nat} (hj : j < 32) : ∀ (k i : Nat) (a : Int32), i + k ≤ 4 → bt (lpN (sFS st wa ho bu f w) k i a) j = (bt a j || (decide (i ≤ j ∧ j < i + k) && decide (¬ vBel st wa ho bu j f w = 0)))
  | 0, i, a, h => by
    rw [decide_eq_false (show ¬ (i ≤ j ∧ j < i + 0) by omega), Bool.false_and, Bool.or_false]
    rfl
  | k + 1, i, a, h => by
    show bt (lpN (sFS st wa ho bu f w) k (i + 1) (sFS st wa ho bu f w i a)) j = _
    rw [bt_lFS hj k (i + 1) _ (by omega), bt_sFS (by omega) hj, Bool.or_assoc]
    by_cases q : i = j
    · subst q
      rw [decide_eq_true rfl, decide_eq_false (show ¬ (i + 1 ≤ i ∧ i < i + 1 + k) by omega), decide_eq_true (show i ≤ i ∧ i < i + (k + 1) by omega), Bool.true_and, Bool.false_and, Bool.or_false]
    · rw [decide_eq_false q, Bool.false_and, Bool.false_or]
      by_cases r : i + 1 ≤ j ∧ j < i + 1 + k
      · rw [decide_eq_true r, decide_eq_true (show i ≤ j ∧ j < i + (k + 1) by omega)]
      · rw [decide_eq_false r, decide_eq_false (show ¬ (i ≤ j ∧ j < i + (k + 1)) by omega)]
theorem bt_hFS {n j : Nat} {x : HS} {f w : Int32} (hn : n ≤ 4) (hj : j < 32) : bt (hFS n x f w) j = (decide (j < n) && decide (¬ vBel x.2.2.2.2.2.2.1 x.2.2.2.1 x.2.2.2.2.1 x.2.2.1 j f w = 0)) := by
  obtain ⟨⟨gu, fl, se, pr, re, go, ch⟩, ⟨sg, bu, wa, ho, we, st, gr, po, ri⟩⟩ := x
  show bt (lpN (sFS st wa ho bu f w) n 0 0) j = _
  rw [bt_lFS hj n 0 0 (by omega), bt_zero j hj, Bool.false_or]
  by_cases q : j < n
  · rw [decide_eq_true q, decide_eq_true (show 0 ≤ j ∧ j < 0 + n by omega)]
  · rw [decide_eq_false q, decide_eq_false (show ¬ (0 ≤ j ∧ j < 0 + n) by omega)]
/-- the bit of a guest, as the law takes it out -/
theorem bit_at {F : Int32} {g : Nat} (hg : g < 31) : (F >>> (nI g &&& 31)) &&& 1 = zb (bt F g = true) := by
  refine b_ext (fun i hi => ?_)
  rw [b_and, b_sshr g (by omega) F hi, bt_one i hi]
  by_cases h : bt F g = true
  · rw [show zb (bt F g = true) = 1 from (zb_t h).symm, bt_one i hi]
    by_cases q : i = 0
    · subst q
      rw [if_pos (by omega), Nat.add_zero, h]
      rfl
    · rw [decide_eq_false q, Bool.and_false]
  · rw [show zb (bt F g = true) = 0 from (zb_f h).symm, bt_zero i hi]
    by_cases q : i = 0
    · subst q
      rw [if_pos (by omega), Nat.add_zero, eq_false_of_ne_true h]
      rfl
    · rw [decide_eq_false q, Bool.and_false]
theorem zb_congr2 {P Q : Prop} [Decidable P] [Decidable Q] (h : P ↔ Q) : zb P = zb Q := by
  unfold zb
  by_cases p : P
  · rw [if_pos p, if_pos (h.mp p)]
  · rw [if_neg p, if_neg (fun q => p (h.mpr q))]
theorem bit_set {n g : Nat} {x : HS} {f w : Int32} (hn : n ≤ 4) (hg : g < n) : (hFS n x f w >>> (nI g &&& 31)) &&& 1 = zb (¬ vBel x.2.2.2.2.2.2.1 x.2.2.2.1 x.2.2.2.2.1 x.2.2.1 g f w = 0) := by
  rw [bit_at (by omega)]
  refine zb_congr2 ?_
  rw [bt_hFS hn (by omega), decide_eq_true hg, Bool.true_and]
  exact decide_eq_true_iff
theorem vBel_0 {st wa ho bu : Nat → Int32} {g : Nat} {f : Int32} : (¬ vBel st wa ho bu g f 0 = 0) ↔ (st g = 0 ∧ wa g = f) := by
  unfold vBel
  rw [if_pos rfl]
  exact zb_ne
theorem vBel_1 {st wa ho bu : Nat → Int32} {g : Nat} {f : Int32} : (¬ vBel st wa ho bu g f 1 = 0) ↔ (st g = 2 ∧ ho g = f) := by
  unfold vBel
  rw [if_neg (by decide), if_pos rfl]
  exact zb_ne
theorem vBel_2 {st wa ho bu : Nat → Int32} {g : Nat} {f : Int32} : (¬ vBel st wa ho bu g f 2 = 0) ↔ bu g = f := by
  unfold vBel
  rw [if_neg (by decide), if_neg (by decide)]
  exact zb_ne
/-- a set that lies in another -/
theorem sub_set {n : Nat} {x y : HS} {f f2 w w2 : Int32} (hn : n ≤ 4) (h : ∀ g, g < n → ¬ vBel y.2.2.2.2.2.2.1 y.2.2.2.1 y.2.2.2.2.1 y.2.2.1 g f2 w2 = 0 → ¬ vBel x.2.2.2.2.2.2.1 x.2.2.2.1 x.2.2.2.2.1 x.2.2.1 g f w = 0) : hFS n y f2 w2 &&& (hFS n x f w ^^^ (-1)) = 0 := by
  refine b_ext (fun i hi => ?_)
  rw [b_and, b_xor, bt_m1 i hi, bt_zero i hi, bt_hFS hn hi, bt_hFS hn hi]
  by_cases q : i < n
  · rw [decide_eq_true q, Bool.true_and, Bool.true_and]
    by_cases r : ¬ vBel y.2.2.2.2.2.2.1 y.2.2.2.1 y.2.2.2.2.1 y.2.2.1 i f2 w2 = 0
    · rw [decide_eq_true r, decide_eq_true (h i q r)]; rfl
    · rw [decide_eq_false r]; rfl
  · rw [decide_eq_false q]; rfl
theorem sub_none {n : Nat} {x : HS} {f w : Int32} : (0 : Int32) &&& (hFS n x f w ^^^ (-1)) = 0 := by
  refine b_ext (fun i hi => ?_)
  rw [b_and, bt_zero i hi]; rfl
