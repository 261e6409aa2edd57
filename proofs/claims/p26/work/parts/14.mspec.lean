/-! the reference's row of numbers, as the same sixteen contents: AT stands where waitingFloor stands -/
def mCol : HS → Nat → Nat → Int32
  | (_, (_, bu, wa, ho, we, st, gr, po, ri)), w => if w = 0 then bu else if w = 1 then ho else if w = 2 then we else if w = 3 then st else if w = 4 then wa else if w = 5 then gr else if w = 6 then po else ri
def mSetS (w : Nat) (v : Int32) : HS → HS
  | (nn, (sg, rest)) => (nn, (upd sg w v, rest))
/-! the reference's methods, as functions -/
def vAddM (gr : Nat → Int32) (g : Nat) : Nat → Int32 := upd gr g (if 9 ≤ gr g then 9 else gr g + 1)
def sPass (st wa ho : Nat → Int32) (f : Int32) : Nat → (Nat → Int32) → (Nat → Int32) := fun g gr => if st g = 0 then (if wa g = f then vAddM gr g else if st g = 1 then (if ho g = f then vAddM gr g else gr) else gr) else if st g = 1 then (if ho g = f then vAddM gr g else gr) else gr
def sInM (fl mx : Int32) (wa we : Nat → Int32) (n : Nat) : Nat → (Nat → Int32) × (Nat → Int32) → (Nat → Int32) × (Nat → Int32) := fun g y => if y.1 g = 0 then (if wa g = fl then (if mx < lpN (sWR y.1 we) n 0 0 + we g then (y.1, vAddM y.2 g) else (upd y.1 g 1, upd y.2 g 0)) else y) else y
def sReM : Nat → (Nat → Int32) → (Nat → Int32) := fun g gr => upd gr g (if gr g ≤ 0 then 0 else gr g - 1)
def sGoM (n3 t : Int32) (st : Nat → Int32) : Nat → (Nat → Int32) × (Nat → Int32) → (Nat → Int32) × (Nat → Int32) := fun g y => if st g = 1 then (upd y.1 g t, upd y.2 g (y.2 g + n3)) else y
def mInn (n : Nat) : HS → HS
  | ((gu, fl, se, pr, re, go, ch), (sg, bu, wa, ho, we, st, gr, po, ri)) => ((gu, fl, se, pr, re, go, ch), (sg, bu, wa, ho, we, (lpN (sInM fl (sg 0) wa we n) n 0 (st, gr)).1, (lpN (sInM fl (sg 0) wa we n) n 0 (st, gr)).2, po, ri))
def mStops (n : Nat) (y : HS) : HS := mInn n (hOut n y)
def mRest (n : Nat) : HS → HS
  | ((gu, fl, se, pr, re, go, ch), (sg, bu, wa, ho, we, st, gr, po, ri)) => ((gu, fl, se + 30, pr, re, go, ch), (sg, bu, wa, ho, we, st, lpN sReM n 0 gr, po, ri))
/-- the elevator goes a floor on: the floor and what is passed -/
def sWay (n : Nat) (t by1 : Int32) (st wa ho : Nat → Int32) : Nat → Int32 × (Nat → Int32) → Int32 × (Nat → Int32) := fun _ y => if y.1 + by1 = t then (y.1 + by1, y.2) else (y.1 + by1, lpN (sPass st wa ho (y.1 + by1)) n 0 y.2)
def vBy (t fl : Int32) : Int32 := if t ≤ fl then -1 else 1
def mGo2 (n j : Nat) (t by1 d : Int32) : HS → HS
  | ((gu, fl, se, pr, re, go, ch), (sg, bu, wa, ho, we, st, gr, po, ri)) => ((gu, fl, se + (d * sg 2 + 5), pr + 1, re, go + d, ch), (sg, bu, (lpN (sGoM d t st) n 0 (wa, ri)).1, ho, we, st, gr, upd po j (po j + 1), (lpN (sGoM d t st) n 0 (wa, ri)).2))
/-- the way to the floor t, d floors far -/
def mWay (n d : Nat) (t by1 : Int32) : HS → HS
  | ((gu, fl, se, pr, re, go, ch), (sg, bu, wa, ho, we, st, gr, po, ri)) => ((gu, (lpN (sWay n t by1 st wa ho) d 0 (fl, gr)).1, se, pr, re, go, ch), (sg, bu, wa, ho, we, st, (lpN (sWay n t by1 st wa ho) d 0 (fl, gr)).2, po, ri))
def distF (a c : Int32) : Nat := (a.toInt - c.toInt).natAbs
def mGoD (n j d : Nat) (y : HS) : HS := mStops n (mGo2 n j (y.2.2.1 j) (vBy (y.2.2.1 j) y.1.2.1) (nI d) (mWay n d (y.2.2.1 j) (vBy (y.2.2.1 j) y.1.2.1) y))
abbrev inL (v lo up : Int64) : Prop := ¬ v < lo ∧ ¬ up < v
theorem zb_congr {P Q : Prop} [Decidable P] [Decidable Q] (h : P ↔ Q) : zb P = zb Q := by by_cases hq : Q <;> simp [zb, h, hq]
theorem inI {x a c : Int32} : inL x.toInt64 a.toInt64 c.toInt64 ↔ (¬ x < a ∧ ¬ c < x) := by
  simp only [inL, Int64.lt_iff_toInt_lt, Int32.lt_iff_toInt_lt, Int32.toInt_toInt64]
def mGo (n j : Nat) (y : HS) : HS := mGoD n j (distF (y.2.2.1 j) y.1.2.1) y
def mPress (n j : Nat) (y : HS) : HS := if vReas y.1.2.1 y.2.1 y.2.2.1 y.2.2.2.2.2.2.1 y.2.2.2.2.2.2.2.1 j = 0 then mGo n j y else hRef y
theorem okF_nat {f : Int32} (h : okF f) : ∃ k : Nat, k < 7 ∧ f = nI k := by
  obtain ⟨h1, h2⟩ := h
  obtain ⟨j, hj, rfl⟩ := nI_of h1
  refine ⟨j, ?_, rfl⟩
  rcases Nat.lt_or_ge j 7 with q | q
  · exact q
  · exact absurd (nI_le q hj) h2
/-- the floor behind i floors of the way from f to t -/
def vFl (f t i : Nat) : Int32 := if t ≤ f then nI (f - i) else nI (f + i)
theorem distF_nat {f t : Nat} (hf : f < 7) (ht : t < 7) : distF (nI t) (nI f) = if t ≤ f then f - t else t - f := by
  unfold distF
  rw [nI_toInt (by omega), nI_toInt (by omega)]
  split <;> omega
theorem vFl_end {f t i d : Nat} (hf : f < 7) (ht : t < 7) (hd : d = if t ≤ f then f - t else t - f) (hi : i ≤ d) : (vFl f t i = nI t) ↔ d = i := by
  unfold vFl
  split at hd <;> rename_i h
  · rw [if_pos h, nI_eq (by omega) (by omega)]; omega
  · rw [if_neg h, nI_eq (by omega) (by omega)]; omega
theorem vFl_next {f t i d : Nat} (hf : f < 7) (ht : t < 7) (hd : d = if t ≤ f then f - t else t - f) (hi : i < d) : vFl f t i + vBy (nI t) (nI f) = vFl f t (i + 1) := by
  unfold vFl vBy
  split at hd <;> rename_i h
  · rw [if_pos h, if_pos h, if_pos (nI_le h (by omega))]
    have e : f - i = (f - (i + 1)) + 1 := by omega
    rw [e, pk_m1]
  · rw [if_neg h, if_neg h, if_neg (nI_ge (by omega) (by omega))]
    exact nI_1 (f + i)
theorem vFl_0 {f t : Nat} : vFl f t 0 = nI f := by unfold vFl; split <;> rfl
