/-! bits (begun with rows of the kit's BITS to paste) -/
def bt (x : Int32) (i : Nat) : Bool := x.toBitVec.getLsbD i
theorem b_ext {x y : Int32} (h : ∀ i, i < 32 → bt x i = bt y i) : x = y := Int32.toBitVec_inj.mp (BitVec.eq_of_getLsbD_eq (fun i hi => h i hi))
theorem b_or (x y : Int32) (i : Nat) : bt (x ||| y) i = (bt x i || bt y i) := by unfold bt; rw [Int32.toBitVec_or, BitVec.getLsbD_or]
theorem b_and (x y : Int32) (i : Nat) : bt (x &&& y) i = (bt x i && bt y i) := by unfold bt; rw [Int32.toBitVec_and, BitVec.getLsbD_and]
theorem s_l : ∀ n, n < 32 → ((nI n &&& 31).toBitVec.smod 32).toNat = n := by decide +kernel
theorem b_shl (n : Nat) (hn : n < 32) (x : Int32) {i : Nat} (hi : i < 32) : bt (x <<< (nI n &&& 31)) i = (decide (n ≤ i) && bt x (i - n)) := by
  unfold bt
  rw [Int32.toBitVec_shiftLeft]
  show (x.toBitVec <<< ((nI n &&& 31).toBitVec.smod 32).toNat).getLsbD i = _
  rw [s_l n hn, BitVec.getLsbD_shiftLeft]
  rcases Nat.lt_or_ge i n with h | h
  · simp [h, Nat.not_le.mpr h]
  · simp [hi, h, Nat.not_lt.mpr h]
theorem b_sshr (n : Nat) (hn : n < 32) (x : Int32) {i : Nat} (hi : i < 32) : bt (x >>> (nI n &&& 31)) i = if n + i < 32 then bt x (n + i) else bt x 31 := by
  unfold bt
  rw [Int32.toBitVec_shiftRight]
  show (x.toBitVec.sshiftRight ((nI n &&& 31).toBitVec.smod 32).toNat).getLsbD i = _
  rw [s_l n hn, BitVec.getLsbD_sshiftRight, BitVec.msb_eq_getLsbD_last]
  simp [hi]
theorem bt_nI {k i : Nat} (hi : i < 32) : bt (nI k) i = k.testBit i := by
  unfold bt
  show (BitVec.ofNat 32 k).getLsbD i = _
  rw [BitVec.getLsbD_ofNat, decide_eq_true hi, Bool.true_and]
theorem bt_small {k m i : Nat} (hk : k < 2 ^ m) (hm : m ≤ i) : bt (nI k) i = false := by
  rcases Nat.lt_or_ge i 32 with h | h
  · rw [bt_nI h]
    exact Nat.testBit_lt_two_pow (Nat.lt_of_lt_of_le hk (Nat.pow_le_pow_right (by decide) hm))
  · exact BitVec.getLsbD_of_ge _ _ h
/-- the state of guest g and the grudges of guest g at the bit j of a position -/
def fbit (st gr : Nat → Int32) (g j : Nat) : Bool := decide (3 + 6 * g ≤ j) && ((decide (4 ≤ j - (3 + 6 * g)) && bt (st g) (j - (3 + 6 * g) - 4)) || bt (gr g) (j - (3 + 6 * g)))
theorem idx_3 (g : Nat) : (3 : Int32) + (6 * nI g) = nI (3 + 6 * g) := by
  show nI 3 + nI 6 * nI g = _
  rw [pk_mul, nI_add]
theorem bt_sPk {st gr : Nat → Int32} {g j : Nat} {a : Int32} (hg : g < 4) (hj : j < 32) : bt (sPk st gr g a) j = (bt a j || fbit st gr g j) := by
  unfold sPk fbit
  rw [idx_3, b_or, b_shl (3 + 6 * g) (by omega) _ hj, b_or, show ((4 : Int32) &&& 31) = (nI 4 &&& 31) from rfl, b_shl 4 (by decide) _ (by omega)]
theorem bt_lpk {st gr : Nat → Int32} {j : Nat} (hj : j < 32) : ∀ (k i : Nat) (a : Int32), i + k ≤ 4 → bt (lpN (sPk st gr) k i a) j = (bt a j || (List.range k).any (fun t => fbit st gr (i + t) j))
  | 0, i, a, h => by simp [lpN]
  | k + 1, i, a, h => by
    show bt (lpN (sPk st gr) k (i + 1) (sPk st gr i a)) j = _
    rw [bt_lpk hj k (i + 1) _ (by omega), bt_sPk (by omega) hj, List.range_succ_eq_map, List.any_cons, List.any_map, Bool.or_assoc]
    congr 2
    congr 1
    funext t
    show fbit st gr (i + 1 + t) j = fbit st gr (i + (t + 1)) j
    rw [show i + 1 + t = i + (t + 1) by omega]
/-- what a position needs of the contents: small numbers -/
def okP (n : Nat) (x : HS) : Prop := (∃ a : Nat, a < 8 ∧ x.1.2.1 = nI a) ∧ ∀ g : Nat, g < n → (∃ a : Nat, a < 4 ∧ x.2.2.2.2.2.2.1 g = nI a) ∧ (∃ a : Nat, a < 16 ∧ x.2.2.2.2.2.2.2.1 g = nI a)
theorem fbit_off {st gr : Nat → Int32} {g j : Nat} (hs : ∃ a : Nat, a < 4 ∧ st g = nI a) (hr : ∃ a : Nat, a < 16 ∧ gr g = nI a) (h : j < 3 + 6 * g ∨ 9 + 6 * g ≤ j) : fbit st gr g j = false := by
  unfold fbit
  obtain ⟨a, ha, ea⟩ := hs
  obtain ⟨c, hc, ec⟩ := hr
  rcases h with h | h
  · rw [decide_eq_false (by omega)]; rfl
  · rw [ea, ec, bt_small (m := 2) (by omega) (by omega), bt_small (m := 4) (by omega) (by omega)]
    simp
theorem pos_low {n : Nat} {x : HS} (hn : n ≤ 4) (hx : okP n x) {j : Nat} (hj : j < 3) : bt (hPos n x) j = bt x.1.2.1 j := by
  obtain ⟨⟨gu, fl, se, pr, re, go, ch⟩, ⟨sg, bu, wa, ho, we, st, gr, po, ri⟩⟩ := x
  show bt (lpN (sPk st gr) n 0 fl) j = bt fl j
  rw [bt_lpk (by omega) n 0 fl (by omega)]
  have h : (List.range n).any (fun t => fbit st gr (0 + t) j) = false := by
    rw [List.any_eq_false]
    intro t ht
    have ht2 := List.mem_range.mp ht
    rw [Nat.zero_add, fbit_off (hx.2 t ht2).1 (hx.2 t ht2).2 (Or.inl (by omega))]
    decide
  rw [h, Bool.or_false]
theorem pos_field {n : Nat} {x : HS} (hn : n ≤ 4) (hx : okP n x) {g e : Nat} (hg : g < n) (he : e < 6) : bt (hPos n x) (3 + 6 * g + e) = ((decide (4 ≤ e) && bt (x.2.2.2.2.2.2.1 g) (e - 4)) || bt (x.2.2.2.2.2.2.2.1 g) e) := by
  obtain ⟨⟨gu, fl, se, pr, re, go, ch⟩, ⟨sg, bu, wa, ho, we, st, gr, po, ri⟩⟩ := x
  show bt (lpN (sPk st gr) n 0 fl) (3 + 6 * g + e) = ((decide (4 ≤ e) && bt (st g) (e - 4)) || bt (gr g) e)
  rw [bt_lpk (by omega) n 0 fl (by omega)]
  obtain ⟨a, ha, ea⟩ := hx.1
  have ea : fl = nI a := ea
  rw [ea, bt_small (m := 3) (by omega) (by omega), Bool.false_or]
  have key : fbit st gr g (3 + 6 * g + e) = ((decide (4 ≤ e) && bt (st g) (e - 4)) || bt (gr g) e) := by
    unfold fbit
    rw [decide_eq_true (show 3 + 6 * g ≤ 3 + 6 * g + e by omega), show 3 + 6 * g + e - (3 + 6 * g) = e by omega]
    rfl
  rw [← key]
  cases hb : fbit st gr g (3 + 6 * g + e) with
  | true =>
    rw [List.any_eq_true]
    exact ⟨g, List.mem_range.mpr hg, by rw [Nat.zero_add]; exact hb⟩
  | false =>
    rw [List.any_eq_false]
    intro t ht
    have ht2 := List.mem_range.mp ht
    rw [Nat.zero_add]
    by_cases h : t = g
    · subst h; rw [hb]; decide
    · rw [fbit_off (hx.2 t ht2).1 (hx.2 t ht2).2 (by omega)]; decide
theorem bt_mask : ∀ i, i < 32 → bt 3 i = decide (i < 2) ∧ bt 7 i = decide (i < 3) ∧ bt 15 i = decide (i < 4) := by decide +kernel
/-- the contents that a position holds come back out of it -/
theorem take_fl {n : Nat} {x : HS} (hn : n ≤ 4) (hx : okP n x) : hPos n x &&& 7 = x.1.2.1 := by
  refine b_ext (fun i hi => ?_)
  rw [b_and, (bt_mask i hi).2.1]
  obtain ⟨a, ha, ea⟩ := id hx.1
  by_cases h : i < 3
  · rw [pos_low hn hx h, decide_eq_true h, Bool.and_true]
  · rw [decide_eq_false h, Bool.and_false, ea, bt_small (m := 3) (by omega) (by omega)]
theorem take_gr {n : Nat} {x : HS} (hn : n ≤ 4) (hx : okP n x) {g : Nat} (hg : g < n) : (hPos n x >>> ((3 + (6 * nI g)) &&& 31)) &&& 15 = x.2.2.2.2.2.2.2.1 g := by
  refine b_ext (fun i hi => ?_)
  obtain ⟨a, ha, ea⟩ := (hx.2 g hg).2
  rw [b_and, (bt_mask i hi).2.2, idx_3, b_sshr (3 + 6 * g) (by omega) _ hi]
  by_cases h : i < 4
  · rw [if_pos (by omega), pos_field hn hx hg (by omega), decide_eq_true h, decide_eq_false (by omega), Bool.and_true, Bool.false_and, Bool.false_or]
  · rw [decide_eq_false h, Bool.and_false, ea, bt_small (m := 4) (by omega) (by omega)]
theorem take_st {n : Nat} {x : HS} (hn : n ≤ 4) (hx : okP n x) {g : Nat} (hg : g < n) : ((hPos n x >>> ((3 + (6 * nI g)) &&& 31)) >>> (4 &&& 31)) &&& 3 = x.2.2.2.2.2.2.1 g := by
  refine b_ext (fun i hi => ?_)
  obtain ⟨a, ha, ea⟩ := (hx.2 g hg).1
  obtain ⟨c, hc, ec⟩ := (hx.2 g hg).2
  rw [b_and, (bt_mask i hi).1, show ((4 : Int32) &&& 31) = (nI 4 &&& 31) from rfl, b_sshr 4 (by decide) _ hi]
  by_cases h : i < 2
  · rw [if_pos (by omega), idx_3, b_sshr (3 + 6 * g) (by omega) _ (by omega), if_pos (by omega), pos_field hn hx hg (by omega), decide_eq_true h, decide_eq_true (by omega), Bool.and_true, Bool.true_and, ec, bt_small (m := 4) (by omega) (by omega), Bool.or_false]
    congr 1
    omega
  · rw [decide_eq_false h, Bool.and_false, ea, bt_small (m := 2) (by omega) (by omega)]
/-- the same but for what a press may change, and for what only counts; the same but for what only counts -/
def Fr (n : Nat) (x y : HS) : Prop := x.1.1 = y.1.1 ∧ x.2.1 = y.2.1 ∧ x.2.2.1 = y.2.2.1 ∧ x.2.2.2.1 = y.2.2.2.1 ∧ x.2.2.2.2.1 = y.2.2.2.2.1 ∧ x.2.2.2.2.2.1 = y.2.2.2.2.2.1 ∧ (∀ g, n ≤ g → x.2.2.2.2.2.2.1 g = y.2.2.2.2.2.2.1 g) ∧ (∀ g, n ≤ g → x.2.2.2.2.2.2.2.1 g = y.2.2.2.2.2.2.2.1 g)
def Co (x y : HS) : Prop := x.1.1 = y.1.1 ∧ x.1.2.1 = y.1.2.1 ∧ x.2.1 = y.2.1 ∧ x.2.2.1 = y.2.2.1 ∧ x.2.2.2.1 = y.2.2.2.1 ∧ x.2.2.2.2.1 = y.2.2.2.2.1 ∧ x.2.2.2.2.2.1 = y.2.2.2.2.2.1 ∧ x.2.2.2.2.2.2.1 = y.2.2.2.2.2.2.1 ∧ x.2.2.2.2.2.2.2.1 = y.2.2.2.2.2.2.2.1
theorem Co.fr {n : Nat} {x y : HS} (h : Co x y) : Fr n x y := by
  obtain ⟨h1, h2, h3, h4, h5, h6, h7, h8, h9⟩ := h
  exact ⟨h1, h3, h4, h5, h6, h7, fun g _ => by rw [h8], fun g _ => by rw [h9]⟩
theorem Fr.rf {n : Nat} {x : HS} : Fr n x x := ⟨rfl, rfl, rfl, rfl, rfl, rfl, fun _ _ => rfl, fun _ _ => rfl⟩
theorem Fr.sy {n : Nat} {x y : HS} (h : Fr n x y) : Fr n y x := by
  obtain ⟨h1, h2, h3, h4, h5, h6, h7, h8⟩ := h
  exact ⟨h1.symm, h2.symm, h3.symm, h4.symm, h5.symm, h6.symm, fun g q => (h7 g q).symm, fun g q => (h8 g q).symm⟩
theorem Fr.tr {n : Nat} {x y z : HS} (h : Fr n x y) (k : Fr n y z) : Fr n x z := by
  obtain ⟨h1, h2, h3, h4, h5, h6, h7, h8⟩ := h
  obtain ⟨k1, k2, k3, k4, k5, k6, k7, k8⟩ := k
  exact ⟨h1.trans k1, h2.trans k2, h3.trans k3, h4.trans k4, h5.trans k5, h6.trans k6, fun g q => (h7 g q).trans (k7 g q), fun g q => (h8 g q).trans (k8 g q)⟩
theorem Co.sy {x y : HS} (h : Co x y) : Co y x := by
  obtain ⟨h1, h2, h3, h4, h5, h6, h7, h8, h9⟩ := h
  exact ⟨h1.symm, h2.symm, h3.symm, h4.symm, h5.symm, h6.symm, h7.symm, h8.symm, h9.symm⟩
theorem Co.tr {x y z : HS} (h : Co x y) (k : Co y z) : Co x z := by
  obtain ⟨h1, h2, h3, h4, h5, h6, h7, h8, h9⟩ := h
  obtain ⟨k1, k2, k3, k4, k5, k6, k7, k8, k9⟩ := k
  exact ⟨h1.trans k1, h2.trans k2, h3.trans k3, h4.trans k4, h5.trans k5, h6.trans k6, h7.trans k7, h8.trans k8, h9.trans k9⟩
theorem Co.rf {x : HS} : Co x x := ⟨rfl, rfl, rfl, rfl, rfl, rfl, rfl, rfl, rfl⟩
/-- a loop that writes the place i with a value of its own -/
theorem lpN_sTk {pk : Int32} : ∀ (k i : Nat) (y : (Nat → Int32) × (Nat → Int32)) (g : Nat), (lpN (sTk pk) k i y).1 g = (if i ≤ g ∧ g < i + k then ((pk >>> ((3 + (6 * nI g)) &&& 31)) >>> (4 &&& 31)) &&& 3 else y.1 g) ∧ (lpN (sTk pk) k i y).2 g = (if i ≤ g ∧ g < i + k then (pk >>> ((3 + (6 * nI g)) &&& 31)) &&& 15 else y.2 g)
  | 0, i, y, g => by rw [if_neg (by omega), if_neg (by omega)]; exact ⟨rfl, rfl⟩
  | k + 1, i, y, g => by
    have ih := lpN_sTk (pk := pk) k (i + 1) (sTk pk i y) g
    show (lpN (sTk pk) k (i + 1) (sTk pk i y)).1 g = _ ∧ (lpN (sTk pk) k (i + 1) (sTk pk i y)).2 g = _
    rw [ih.1, ih.2]
    by_cases h : i + 1 ≤ g ∧ g < i + 1 + k
    · rw [if_pos h, if_pos h, if_pos (by omega), if_pos (by omega)]; exact ⟨rfl, rfl⟩
    · rw [if_neg h, if_neg h]
      unfold sTk upd
      by_cases h2 : g = i
      · subst h2
        rw [if_pos (by omega), if_pos (by omega)]
        exact ⟨if_pos rfl, if_pos rfl⟩
      · rw [if_neg (by omega), if_neg (by omega)]
        exact ⟨if_neg h2, if_neg h2⟩
theorem take_co {n : Nat} {x y : HS} (hn : n ≤ 4) (hx : okP n x) (h : Fr n x y) : Co (hTake n (hPos n x) y) x := by
  obtain ⟨h1, h2, h3, h4, h5, h6, h7, h8⟩ := h
  have e1 := take_fl hn hx
  generalize hp : hPos n x = pk at e1
  obtain ⟨⟨gu, fl, se, pr, re, go, ch⟩, ⟨sg, bu, wa, ho, we, st, gr, po, ri⟩⟩ := y
  refine ⟨h1.symm, e1, h2.symm, h3.symm, h4.symm, h5.symm, h6.symm, ?_, ?_⟩
  · funext g
    show (lpN (sTk pk) n 0 (st, gr)).1 g = _
    rw [(lpN_sTk n 0 (st, gr) g).1]
    by_cases hg : g < n
    · rw [if_pos (by omega), ← hp]; exact take_st hn hx hg
    · rw [if_neg (by omega)]; exact (h7 g (by omega)).symm
  · funext g
    show (lpN (sTk pk) n 0 (st, gr)).2 g = _
    rw [(lpN_sTk n 0 (st, gr) g).2]
    by_cases hg : g < n
    · rw [if_pos (by omega), ← hp]; exact take_gr hn hx hg
    · rw [if_neg (by omega)]; exact (h8 g (by omega)).symm
