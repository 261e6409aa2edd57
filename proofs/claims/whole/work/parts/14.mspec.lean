/-! the reference's row of numbers, as the same sixteen contents: AT stands where waitingFloor stands -/
def mNum : HS → Nat → Int32
  | ((gu, fl, se, pr, re, go, ch), _), k => if k = 0 then gu else if k = 1 then fl else if k = 2 then se else if k = 3 then pr else if k = 4 then re else if k = 5 then go else ch
def mCol : HS → Nat → Nat → Int32
  | (_, (_, bu, wa, ho, we, st, gr, po, ri)), w => if w = 0 then bu else if w = 1 then ho else if w = 2 then we else if w = 3 then st else if w = 4 then wa else if w = 5 then gr else if w = 6 then po else ri
def mOf (y : HS) (j : Nat) : Int32 := if j < 7 then mNum y j else if j < 10 then y.2.1 (j - 7) else mCol y ((j - 10) % 8) ((j - 10) / 8)
def mPut (w g : Nat) (v : Int32) : HS → HS
  | (nn, (sg, bu, wa, ho, we, st, gr, po, ri)) => (nn, (sg, if w = 0 then upd bu g v else bu, if w = 4 then upd wa g v else wa, if w = 1 then upd ho g v else ho, if w = 2 then upd we g v else we, if w = 3 then upd st g v else st, if w = 5 then upd gr g v else gr, if w = 6 then upd po g v else po, if w = 7 then upd ri g v else ri))
def mSetN (k : Nat) (v : Int32) : HS → HS
  | ((gu, fl, se, pr, re, go, ch), rows) => ((if k = 0 then v else gu, if k = 1 then v else fl, if k = 2 then v else se, if k = 3 then v else pr, if k = 4 then v else re, if k = 5 then v else go, if k = 6 then v else ch), rows)
def mSetS (w : Nat) (v : Int32) : HS → HS
  | (nn, (sg, rest)) => (nn, (upd sg w v, rest))
abbrev mW (cy : Nat → ClassId) (b : Nat) (y : HS) : va_W := [(b, .inl (cy 0, 42, .inl (mOf y)))]
theorem mOf_at {y : HS} {g w : Nat} (hw : w < 8) : mOf y (10 + 8 * g + w) = mCol y w g := by
  have h1 : ¬ 10 + 8 * g + w < 7 := by omega
  have h2 : ¬ 10 + 8 * g + w < 10 := by omega
  have h3 : (10 + 8 * g + w - 10) % 8 = w := by omega
  have h4 : (10 + 8 * g + w - 10) / 8 = g := by omega
  simp only [mOf, if_neg h1, if_neg h2, h3, h4]
theorem mCol_put {y : HS} {g w g2 w2 : Nat} {v : Int32} (hw : w < 8) (hw2 : w2 < 8) : mCol (mPut w g v y) w2 g2 = if w2 = w ∧ g2 = g then v else mCol y w2 g2 := by
  obtain ⟨nn, ⟨sg, bu, wa, ho, we, st, gr, po, ri⟩⟩ := y
  rcases (show w = 0 ∨ w = 1 ∨ w = 2 ∨ w = 3 ∨ w = 4 ∨ w = 5 ∨ w = 6 ∨ w = 7 by omega) with h | h | h | h | h | h | h | h <;> subst h <;>
    rcases (show w2 = 0 ∨ w2 = 1 ∨ w2 = 2 ∨ w2 = 3 ∨ w2 = 4 ∨ w2 = 5 ∨ w2 = 6 ∨ w2 = 7 by omega) with h | h | h | h | h | h | h | h <;> subst h <;> simp [mCol, mPut, upd]
theorem mOf_put {y : HS} {g w : Nat} {v : Int32} (hw : w < 8) : upd (mOf y) (10 + 8 * g + w) v = mOf (mPut w g v y) := by
  funext j
  by_cases hj : j < 10
  · have h1 : j ≠ 10 + 8 * g + w := by omega
    obtain ⟨nn, ⟨sg, bu, wa, ho, we, st, gr, po, ri⟩⟩ := y
    simp only [upd, if_neg h1, mOf, if_pos hj]
    rfl
  · have e : j = 10 + 8 * ((j - 10) / 8) + (j - 10) % 8 := by omega
    have hm : (j - 10) % 8 < 8 := Nat.mod_lt _ (by omega)
    generalize (j - 10) / 8 = g2 at e
    generalize (j - 10) % 8 = w2 at e hm
    subst e
    rw [mOf_at hm, mCol_put hw hm]
    unfold upd
    by_cases h : w2 = w ∧ g2 = g
    · rw [if_pos h, if_pos (by rw [h.1, h.2])]
    · rw [if_neg h, if_neg (fun q => h ⟨by omega, by omega⟩), mOf_at hm]
theorem mOf_setN {y : HS} {k : Nat} {v : Int32} (hk : k < 7) : upd (mOf y) k v = mOf (mSetN k v y) := by
  obtain ⟨⟨gu, fl, se, pr, re, go, ch⟩, ⟨sg, bu, wa, ho, we, st, gr, po, ri⟩⟩ := y
  funext j
  unfold upd
  by_cases hj : j < 7
  · simp only [mOf, if_pos hj]
    rcases (show k = 0 ∨ k = 1 ∨ k = 2 ∨ k = 3 ∨ k = 4 ∨ k = 5 ∨ k = 6 by omega) with h | h | h | h | h | h | h <;> subst h <;>
      rcases (show j = 0 ∨ j = 1 ∨ j = 2 ∨ j = 3 ∨ j = 4 ∨ j = 5 ∨ j = 6 by omega) with h | h | h | h | h | h | h <;> subst h <;> simp [mNum, mSetN]
  · have h1 : j ≠ k := by omega
    simp only [if_neg h1, mOf, if_neg hj]
    rfl
theorem mOf_setS {y : HS} {w : Nat} {v : Int32} (hw : w < 3) : upd (mOf y) (7 + w) v = mOf (mSetS w v y) := by
  obtain ⟨⟨gu, fl, se, pr, re, go, ch⟩, ⟨sg, bu, wa, ho, we, st, gr, po, ri⟩⟩ := y
  funext j
  unfold upd
  by_cases hj : j < 7
  · have h1 : j ≠ 7 + w := by omega
    simp only [if_neg h1, mOf, if_pos hj]
    rfl
  · by_cases h10 : j < 10
    · simp only [mOf, if_neg hj, if_pos h10, mSetS, upd]
      by_cases h : j = 7 + w
      · rw [if_pos h, if_pos (by omega)]
      · rw [if_neg h, if_neg (by omega)]
    · have h1 : j ≠ 7 + w := by omega
      simp only [if_neg h1, mOf, if_neg hj, if_neg h10]
      rfl
theorem idx_g (g : Nat) : (10 : Int32) + 8 * nI g = nI (10 + 8 * g) := by
  show nI 10 + nI 8 * nI g = _
  rw [pk_mul, nI_add]
theorem idx_gw (g w : Nat) : (10 : Int32) + 8 * nI g + nI w = nI (10 + 8 * g + w) := by rw [idx_g, nI_add]
/-! the reference's methods, as functions -/
def vAddM (gr : Nat → Int32) (g : Nat) : Nat → Int32 := upd gr g (if 9 ≤ gr g then 9 else gr g + 1)
def sPass (st wa ho : Nat → Int32) (f : Int32) : Nat → (Nat → Int32) → (Nat → Int32) := fun g gr => if st g = 0 then (if wa g = f then vAddM gr g else if st g = 1 then (if ho g = f then vAddM gr g else gr) else gr) else if st g = 1 then (if ho g = f then vAddM gr g else gr) else gr
def sInM (fl mx : Int32) (wa we : Nat → Int32) (n : Nat) : Nat → (Nat → Int32) × (Nat → Int32) → (Nat → Int32) × (Nat → Int32) := fun g y => if y.1 g = 0 then (if wa g = fl then (if mx < lpN (sWR y.1 we) n 0 0 + we g then (y.1, vAddM y.2 g) else (upd y.1 g 1, upd y.2 g 0)) else y) else y
def sReM : Nat → (Nat → Int32) → (Nat → Int32) := fun g gr => upd gr g (if gr g ≤ 0 then 0 else gr g - 1)
def sGoM (n3 t : Int32) (st : Nat → Int32) : Nat → (Nat → Int32) × (Nat → Int32) → (Nat → Int32) × (Nat → Int32) := fun g y => if st g = 1 then (upd y.1 g t, upd y.2 g (y.2 g + n3)) else y
def mGrudge (g : Nat) : HS → HS
  | ((gu, fl, se, pr, re, go, ch), (sg, bu, wa, ho, we, st, gr, po, ri)) => ((gu, fl, se, pr, re, go, ch), (sg, bu, wa, ho, we, st, vAddM gr g, po, ri))
def mPass (n : Nat) (f : Int32) : HS → HS
  | ((gu, fl, se, pr, re, go, ch), (sg, bu, wa, ho, we, st, gr, po, ri)) => ((gu, fl, se, pr, re, go, ch), (sg, bu, wa, ho, we, st, lpN (sPass st wa ho f) n 0 gr, po, ri))
def mInn (n : Nat) : HS → HS
  | ((gu, fl, se, pr, re, go, ch), (sg, bu, wa, ho, we, st, gr, po, ri)) => ((gu, fl, se, pr, re, go, ch), (sg, bu, wa, ho, we, (lpN (sInM fl (sg 0) wa we n) n 0 (st, gr)).1, (lpN (sInM fl (sg 0) wa we n) n 0 (st, gr)).2, po, ri))
def mStops (n : Nat) (y : HS) : HS := mInn n (hOut n y)
def mRest (n : Nat) : HS → HS
  | ((gu, fl, se, pr, re, go, ch), (sg, bu, wa, ho, we, st, gr, po, ri)) => ((gu, fl, se + 30, pr, re, go, ch), (sg, bu, wa, ho, we, st, lpN sReM n 0 gr, po, ri))
/-- the elevator goes a floor on: the floor and what is passed -/
def sWay (n : Nat) (t by1 : Int32) (st wa ho : Nat → Int32) : Nat → Int32 × (Nat → Int32) → Int32 × (Nat → Int32) := fun _ y => if y.1 + by1 = t then (y.1 + by1, y.2) else (y.1 + by1, lpN (sPass st wa ho (y.1 + by1)) n 0 y.2)
def vBy (t fl : Int32) : Int32 := if t ≤ fl then -1 else 1
def mGo2 (n j : Nat) (t by1 d : Int32) : HS → HS
  | ((gu, fl, se, pr, re, go, ch), (sg, bu, wa, ho, we, st, gr, po, ri)) => ((gu, fl, se + (d * sg 2 + 5), pr + 1, re, go + d, ch), (sg, bu, (lpN (sGoM d t st) n 0 (wa, ri)).1, ho, we, st, gr, upd po j (po j + 1), (lpN (sGoM d t st) n 0 (wa, ri)).2))
/-- the way to the floor t, d floors far -/
def mWay (n d : Nat) (t by1 : Int32) : HS → HS
  | ((gu, fl, se, pr, re, go, ch), (sg, bu, wa, ho, we, st, gr, po, ri)) => ((gu, (lpN (sWay n t by1 st wa ho) d 0 (fl, gr)).1, se, pr, re, go, ch), (sg, bu, wa, ho, we, st, (lpN (sWay n t by1 st wa ho) d 0 (fl, gr)).2, po, ri))
def distF (a c : Int32) : Nat := (a.toInt - c.toInt).natAbs
def mGoD (n j d : Nat) (y : HS) : HS := mStops n (mGo2 n j (y.2.2.1 j) (vBy (y.2.2.1 j) y.1.2.1) (nI d) (mWay n d (y.2.2.1 j) (vBy (y.2.2.1 j) y.1.2.1) y))
abbrev inL (v lo up : Int64) : Prop := ¬ v < lo ∧ ¬ up < v
theorem zb_congr {P Q : Prop} [Decidable P] [Decidable Q] (h : P ↔ Q) : zb P = zb Q := by by_cases hq : Q <;> simp [zb, h, hq]
theorem inI {x a c : Int32} : inL x.toInt64 a.toInt64 c.toInt64 ↔ (¬ x < a ∧ ¬ c < x) := by
  simp only [inL, Int64.lt_iff_toInt_lt, Int32.lt_iff_toInt_lt, Int32.toInt_toInt64]
theorem in_okF {f : Int32} : inL f.toInt64 0 6 ↔ okF f := by
  refine (inI (x := f) (a := 0) (c := 6)).trans ?_
  simp only [okF, Int32.lt_iff_toInt_lt, Int32.le_iff_toInt_le]
  rw [show (6 : Int32).toInt = 6 from rfl, show (7 : Int32).toInt = 7 from rfl]
  omega
theorem in_isG {n : Nat} {g : Int32} (hn : n ≤ 4) : inL g.toInt64 0 (nI n - 1).toInt64 ↔ isG (nI n) g := by
  refine (inI (x := g) (a := 0) (c := nI n - 1)).trans ?_
  simp only [isG, Int32.lt_iff_toInt_lt, Int32.le_iff_toInt_le]
  have h1 : (nI n - 1).toInt = (n : Int) - 1 := pk_sub_toInt (a := n) (b := 1) (by omega) (by omega)
  rw [h1, nI_toInt (by omega)]
  omega
def mGo (n j : Nat) (y : HS) : HS := mGoD n j (distF (y.2.2.1 j) y.1.2.1) y
def mPress (n j : Nat) (y : HS) : HS := if vReas y.1.2.1 y.2.1 y.2.2.1 y.2.2.2.2.2.2.1 y.2.2.2.2.2.2.2.1 j = 0 then mGo n j y else hRef y
theorem okF_nat {f : Int32} (h : okF f) : ∃ k : Nat, k < 7 ∧ f = nI k := by
  obtain ⟨h1, h2⟩ := h
  obtain ⟨j, hj, rfl⟩ := nI_of h1
  refine ⟨j, ?_, rfl⟩
  rcases Nat.lt_or_ge j 7 with q | q
  · exact q
  · exact absurd (nI_le q hj) h2
/-- the floor behind i floors of the way from f to t -/
def vFl (f t i : Nat) : Int32 := if t ≤ f then nI (f - i) else nI (f + i)
theorem distF_nat {f t : Nat} (hf : f < 7) (ht : t < 7) : distF (nI t) (nI f) = if t ≤ f then f - t else t - f := by
  unfold distF
  rw [nI_toInt (by omega), nI_toInt (by omega)]
  split <;> omega
theorem vFl_end {f t i d : Nat} (hf : f < 7) (ht : t < 7) (hd : d = if t ≤ f then f - t else t - f) (hi : i ≤ d) : (vFl f t i = nI t) ↔ d = i := by
  unfold vFl
  split at hd <;> rename_i h
  · rw [if_pos h, nI_eq (by omega) (by omega)]; omega
  · rw [if_neg h, nI_eq (by omega) (by omega)]; omega
theorem vFl_next {f t i d : Nat} (hf : f < 7) (ht : t < 7) (hd : d = if t ≤ f then f - t else t - f) (hi : i < d) : vFl f t i + vBy (nI t) (nI f) = vFl f t (i + 1) := by
  unfold vFl vBy
  split at hd <;> rename_i h
  · rw [if_pos h, if_pos h, if_pos (nI_le h (by omega))]
    have e : f - i = (f - (i + 1)) + 1 := by omega
    rw [e, pk_m1]
  · rw [if_neg h, if_neg h, if_neg (nI_ge (by omega) (by omega))]
    exact nI_1 (f + i)
theorem vFl_0 {f t : Nat} : vFl f t 0 = nI f := by unfold vFl; split <;> rfl
theorem mOf_s {y : HS} {w : Nat} (hw : w < 3) : mOf y (7 + w) = y.2.1 w := by
  simp only [mOf, if_neg (show ¬ 7 + w < 7 by omega), if_pos (show 7 + w < 10 by omega), show 7 + w - 7 = w by omega]
