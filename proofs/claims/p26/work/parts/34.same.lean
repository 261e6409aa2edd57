/-! what keeps both sides alike -/
def okS (x : HS) : Prop := ∀ k : Nat, k < 3 → ∃ a : Nat, a < 17 ∧ x.2.1 k = nI a
def RelN (n : Nat) (x y : HS) : Prop := x.1.1 = nI n ∧ Rel n x y ∧ okX n x ∧ okS x
theorem rel_reas {n j : Nat} {x y : HS} (hn : n ≤ 4) (h : RelN n x y) (hj : j < n) : vReas y.1.2.1 y.2.1 y.2.2.1 y.2.2.2.2.2.2.1 y.2.2.2.2.2.2.2.1 j = hReas x (nI j) := by
  obtain ⟨hg, ⟨h1, h2, h3, h4, h5, h6, h7, h8, h9, hat⟩, -⟩ := h
  rw [← h1, ← h2, ← h3, ← h6, ← h7]
  obtain ⟨⟨gu, fl, se, pr, re, go, ch⟩, ⟨sg, bu, wa, ho, we, st, gr, po, ri⟩⟩ := x
  obtain rfl : gu = nI n := hg
  simp only [hReas, if_pos (isG_nI hn hj), nI_clamp (show j < 2 ^ 31 by omega)]
theorem go_sg {n j : Nat} {x : HS} : (hGo n j x).2.1 = x.2.1 ∧ (hGo n j x).1.1 = x.1.1 := ⟨rfl, rfl⟩
theorem relN_go {n j : Nat} {x y : HS} (h : RelN n x y) (hj : j < n) : RelN n (hGo n j x) (mGo n j y) :=
  ⟨h.1, rel_go h.2.1 h.2.2.1 hj, (go_keep hj h.2.2.1).2, h.2.2.2⟩
theorem relN_ref {n : Nat} {x y : HS} (h : RelN n x y) : RelN n (hRef x) (hRef y) := by
  obtain ⟨hg, ⟨h1, h2, h3, h4, h5, h6, h7, h8, h9, hat⟩, hx, hs⟩ := h
  obtain ⟨⟨gu, fl, se, pr, re, go, ch⟩, ⟨sg, bu, wa, ho, we, st, gr, po, ri⟩⟩ := x
  obtain ⟨⟨gu2, fl2, se2, pr2, re2, go2, ch2⟩, ⟨sg2, bu2, wb, ho2, we2, st2, gr2, po2, ri2⟩⟩ := y
  simp only at h1
  cases h1
  exact ⟨hg, ⟨rfl, h2, h3, h4, h5, h6, h7, h8, h9, hat⟩, hx, hs⟩
theorem relN_press {n j : Nat} {x y : HS} (hn : n ≤ 4) (h : RelN n x y) (hj : j < n) : RelN n (hPress n x (nI j)) (mPress n j y) := by
  unfold hPress mPress
  rw [rel_reas hn h hj]
  by_cases q : hReas x (nI j) = 0
  · rw [if_pos q, if_pos q, nI_clamp (by omega)]; exact relN_go h hj
  · rw [if_neg q, if_neg q, if_neg]
    · exact relN_ref h
    · rw [← rel_reas hn h hj]
      unfold vReas
      split
      · decide
      · split
        · split <;> decide
        · decide
theorem re_v {k i : Nat} {x : Nat → Int32} {g : Nat} : lpN sRe k i x g = if i ≤ g ∧ g < i + k then (if x g ≤ 0 then x g else x g - 1) else x g :=
  lpN_pt (fun y => y) (fun _ a => if a ≤ 0 then a else a - 1) (fun i y g => by
    simp only [sRe]
    by_cases h : y i ≤ 0
    · rw [if_pos h, if_pos h]
      split
      · rename_i q; rw [q]
      · rfl
    · rw [if_neg h, if_neg h]; exact upd_v) k i x g
theorem reM_v {k i : Nat} {x : Nat → Int32} {g : Nat} : lpN sReM k i x g = if i ≤ g ∧ g < i + k then (if x g ≤ 0 then 0 else x g - 1) else x g :=
  lpN_pt (fun y => y) (fun _ a => if a ≤ 0 then 0 else a - 1) (fun i y g => upd_v) k i x g
theorem relN_rest {n : Nat} {x y : HS} (h : RelN n x y) : RelN n (hRest n x) (mRest n y) := by
  obtain ⟨hg, ⟨h1, h2, h3, h4, h5, h6, h7, h8, h9, hat⟩, hx, hs⟩ := h
  obtain ⟨⟨gu, fl, se, pr, re, go, ch⟩, ⟨sg, bu, wa, ho, we, st, gr, po, ri⟩⟩ := x
  obtain ⟨⟨gu2, fl2, se2, pr2, re2, go2, ch2⟩, ⟨sg2, bu2, wb, ho2, we2, st2, gr2, po2, ri2⟩⟩ := y
  simp only at h1 h7
  cases h1; subst h7
  have e : lpN sRe n 0 gr = lpN sReM n 0 gr := by
    funext g
    rw [re_v, reM_v]
    by_cases q : 0 ≤ g ∧ g < 0 + n
    · rw [if_pos q, if_pos q]
      obtain ⟨a, ha, ea⟩ := (hx.2 g (by omega)).2.2
      have ea : gr g = nI a := ea
      by_cases z : gr g ≤ 0
      · rw [if_pos z, if_pos z]
        rw [ea] at z ⊢
        have := (nI_leI (a := a) (b := 0) (by omega) (by omega)).mp z
        obtain rfl : a = 0 := by omega
        rfl
      · rw [if_neg z, if_neg z]
    · rw [if_neg q, if_neg q]
  refine ⟨hg, ⟨rfl, h2, h3, h4, h5, h6, e, h8, h9, hat⟩, ⟨hx.1, fun g q => ⟨(hx.2 g q).1, (hx.2 g q).2.1, ?_⟩⟩, hs⟩
  obtain ⟨a, ha, ea⟩ := (hx.2 g q).2.2
  have ea : gr g = nI a := ea
  show ∃ a : Nat, a < 10 ∧ lpN sRe n 0 gr g = nI a
  rw [re_v, if_pos (by omega)]
  by_cases z : gr g ≤ 0
  · rw [if_pos z]; exact ⟨a, ha, ea⟩
  · rw [if_neg z, ea]
    rw [ea] at z
    rcases Nat.eq_zero_or_pos a with w | w
    · subst w; exact absurd (by decide) z
    · obtain ⟨c, rfl⟩ : ∃ c, a = c + 1 := ⟨a - 1, by omega⟩
      exact ⟨c, by omega, nI_pred c⟩
theorem okF_small {f : Int32} (h : okF f) : ∃ a : Nat, a < 7 ∧ f = nI a := okF_nat h
theorem relN_come {n : Nat} {x y : HS} {b a c w : Int32} (h : RelN n x y) (hb : okF b) (ha : okF a) (hc : okF c) : RelN (n + 1) (hCome n b a c w x) (hCome n b a c w y) := by
  obtain ⟨hg, ⟨h1, h2, h3, h4, h5, h6, h7, h8, h9, hat⟩, hx, hs⟩ := h
  obtain ⟨⟨gu, fl, se, pr, re, go, ch⟩, ⟨sg, bu, wa, ho, we, st, gr, po, ri⟩⟩ := x
  obtain ⟨⟨gu2, fl2, se2, pr2, re2, go2, ch2⟩, ⟨sg2, bu2, wb, ho2, we2, st2, gr2, po2, ri2⟩⟩ := y
  simp only at h1 h2 h3 h4 h5 h6 h7 h8 h9 hat hg
  cases h1; subst h2; subst h3; subst h4; subst h5; subst h6; subst h7; subst h8; subst h9; subst hg
  refine ⟨nI_1 n, ⟨rfl, rfl, rfl, rfl, rfl, rfl, rfl, rfl, rfl, fun g hgn => ?_⟩, ⟨hx.1, fun g hgn => ?_⟩, hs⟩
  · show (upd st n (if a = c then 2 else 0) g = 0 → upd wb n a g = upd wa n a g) ∧ (upd st n (if a = c then 2 else 0) g = 1 → upd wb n a g = fl) ∧ (upd st n (if a = c then 2 else 0) g = 2 → upd wb n a g = upd ho n c g)
    rw [upd_v, upd_v, upd_v, upd_v]
    by_cases q : g = n
    · rw [if_pos q, if_pos q, if_pos q, if_pos q]
      refine ⟨fun _ => rfl, fun z => ?_, fun z => ?_⟩
      · split at z <;> exact absurd z (by decide)
      · split at z
        · assumption
        · exact absurd z (by decide)
    · rw [if_neg q, if_neg q, if_neg q, if_neg q]
      exact hat g (by omega)
  · show (∃ k : Nat, k < 7 ∧ upd bu n b g = nI k) ∧ (∃ k : Nat, k < 3 ∧ upd st n (if a = c then 2 else 0) g = nI k) ∧ (∃ k : Nat, k < 10 ∧ upd gr n 0 g = nI k)
    rw [upd_v, upd_v, upd_v]
    by_cases q : g = n
    · rw [if_pos q, if_pos q, if_pos q]
      refine ⟨okF_small hb, ?_, 0, by decide, rfl⟩
      split
      · exact ⟨2, by decide, rfl⟩
      · exact ⟨0, by decide, rfl⟩
    · rw [if_neg q, if_neg q, if_neg q]
      exact hx.2 g (by omega)
theorem mCol_move {a b w g : Nat} {y : HS} : mCol (hMove a b y) w g = if g = b then mCol y w a else mCol y w g := by
  obtain ⟨nn, ⟨sg, bu, wa, ho, we, st, gr, po, ri⟩⟩ := y
  obtain ⟨gu, fl, se, pr, re, go, ch⟩ := nn
  simp only [mCol, hMove]
  repeat' split
  all_goals simp_all [upd]
theorem mv_v {w : Nat} : ∀ (k j : Nat) (y : HS) (g : Nat), mCol (lpN sMv k j y) w g = if j ≤ g ∧ g < j + k then mCol y w (g + 1) else mCol y w g
  | 0, j, y, g => by rw [if_neg (by omega)]; rfl
  | k + 1, j, y, g => by
    show mCol (lpN sMv k (j + 1) (hMove (j + 1) j y)) w g = _
    rw [mv_v k (j + 1), mCol_move, mCol_move]
    by_cases h : j + 1 ≤ g ∧ g < j + 1 + k
    · rw [if_pos h, if_neg (by omega), if_pos (by omega)]
    · rw [if_neg h]
      by_cases h2 : g = j
      · rw [if_pos h2, if_pos (by omega), h2]
      · rw [if_neg h2, if_neg (by omega)]
theorem mv_n : ∀ (k j : Nat) (y : HS), (lpN sMv k j y).1 = y.1 ∧ (lpN sMv k j y).2.1 = y.2.1
  | 0, j, y => ⟨rfl, rfl⟩
  | k + 1, j, y => by
    have := mv_n k (j + 1) (hMove (j + 1) j y)
    exact ⟨this.1.trans rfl, this.2.trans rfl⟩
theorem relN_dis {n j : Nat} {x y : HS} (h : RelN n x y) (hj : j < n) : RelN (n - 1) (hDis n j x) (hDis n j y) := by
  obtain ⟨hg, ⟨h1, h2, h3, h4, h5, h6, h7, h8, h9, hat⟩, hx, hs⟩ := h
  have nx := mv_n (n - 1 - j) j x
  have ny := mv_n (n - 1 - j) j y
  have vx : ∀ w g, mCol (hDis n j x) w g = if j ≤ g ∧ g < j + (n - 1 - j) then mCol x w (g + 1) else mCol x w g := fun w g => mv_v (w := w) (n - 1 - j) j x g
  have vy : ∀ w g, mCol (hDis n j y) w g = if j ≤ g ∧ g < j + (n - 1 - j) then mCol y w (g + 1) else mCol y w g := fun w g => mv_v (w := w) (n - 1 - j) j y g
  have e11 : (hDis n j x).1.1 = x.1.1 - 1 := by show (lpN sMv (n - 1 - j) j x).1.1 - 1 = _; rw [nx.1]
  have e12 : (hDis n j x).1.2 = x.1.2 := by show (lpN sMv (n - 1 - j) j x).1.2 = _; rw [nx.1]
  have f11 : (hDis n j y).1.1 = y.1.1 - 1 := by show (lpN sMv (n - 1 - j) j y).1.1 - 1 = _; rw [ny.1]
  have f12 : (hDis n j y).1.2 = y.1.2 := by show (lpN sMv (n - 1 - j) j y).1.2 = _; rw [ny.1]
  have row : ∀ w, (∀ g, mCol x w g = mCol y w g) → ∀ g, mCol (hDis n j x) w g = mCol (hDis n j y) w g := fun w q g => by
    rw [vx, vy, q, q]
  have at1 : ∀ g, g < n - 1 → ∃ i, i < n ∧ ∀ w, mCol (hDis n j x) w g = mCol x w i ∧ mCol (hDis n j y) w g = mCol y w i := fun g hgn => by
    by_cases q : j ≤ g ∧ g < j + (n - 1 - j)
    · exact ⟨g + 1, by omega, fun w => ⟨by rw [vx, if_pos q], by rw [vy, if_pos q]⟩⟩
    · exact ⟨g, by omega, fun w => ⟨by rw [vx, if_neg q], by rw [vy, if_neg q]⟩⟩
  refine ⟨?_, ⟨?_, ?_, ?_, ?_, ?_, ?_, ?_, ?_, ?_, ?_⟩, ⟨?_, ?_⟩, ?_⟩
  · rw [e11, hg]
    obtain ⟨c, rfl⟩ : ∃ c, n = c + 1 := ⟨n - 1, by omega⟩
    exact nI_pred c
  · exact Prod.ext (by rw [e11, f11, h1]) (by rw [e12, f12, h1])
  · exact nx.2.trans (h2.trans ny.2.symm)
  · exact funext (row 0 (fun g => congrFun h3 g))
  · exact funext (row 1 (fun g => congrFun h4 g))
  · exact funext (row 2 (fun g => congrFun h5 g))
  · exact funext (row 3 (fun g => congrFun h6 g))
  · exact funext (row 5 (fun g => congrFun h7 g))
  · exact funext (row 6 (fun g => congrFun h8 g))
  · exact funext (row 7 (fun g => congrFun h9 g))
  · intro g hgn
    obtain ⟨i, hi, q⟩ := at1 g hgn
    have a3 := (q 3).1
    have a4 := (q 4).1
    have a1 := (q 1).1
    have b4 := (q 4).2
    show (mCol (hDis n j x) 3 g = 0 → mCol (hDis n j y) 4 g = mCol (hDis n j x) 4 g) ∧ (mCol (hDis n j x) 3 g = 1 → mCol (hDis n j y) 4 g = (hDis n j x).1.2.1) ∧ (mCol (hDis n j x) 3 g = 2 → mCol (hDis n j y) 4 g = mCol (hDis n j x) 1 g)
    rw [a3, a4, a1, b4, e12]
    exact hat i hi
  · rw [e12]; exact hx.1
  · intro g hgn
    obtain ⟨i, hi, q⟩ := at1 g hgn
    show (∃ a : Nat, a < 7 ∧ mCol (hDis n j x) 0 g = nI a) ∧ (∃ a : Nat, a < 3 ∧ mCol (hDis n j x) 3 g = nI a) ∧ (∃ a : Nat, a < 10 ∧ mCol (hDis n j x) 5 g = nI a)
    rw [(q 0).1, (q 3).1, (q 5).1]
    exact hx.2 i hi
  · intro k hk
    rw [show (hDis n j x).2.1 = x.2.1 from nx.2]
    exact hs k hk
theorem okSV_small {w v : Int32} (h : okSV w v) : ∃ a : Nat, a < 17 ∧ v = nI a := by
  have key : ∀ {lo hi : Int32} {m : Nat}, hi.toInt = m → 0 ≤ lo.toInt → m < 17 → ¬ v < lo → ¬ hi < v → ∃ a : Nat, a < 17 ∧ v = nI a := by
    intro lo hi m e1 e2 e3 a b
    rw [Int32.lt_iff_toInt_lt] at a b
    have h0 : ¬ v < 0 := by
      rw [Int32.lt_iff_toInt_lt]
      have : (0 : Int32).toInt = 0 := rfl
      omega
    obtain ⟨c, hc, rfl⟩ := nI_of h0
    rw [nI_toInt hc] at b
    exact ⟨c, by omega, rfl⟩
  rcases okSV_iff.mp h with ⟨-, q⟩ | ⟨-, q⟩
  · have q2 := (inI (x := v) (a := 4) (c := 16)).mp q
    exact key (lo := 4) (hi := 16) (m := 16) rfl (by decide) (by decide) q2.1 q2.2
  · have q2 := (inI (x := v) (a := 1) (c := 9)).mp q
    exact key (lo := 1) (hi := 9) (m := 9) rfl (by decide) (by decide) q2.1 q2.2
theorem relN_setS {n w : Nat} {x y : HS} {v : Int32} (h : RelN n x y) (hv : ∃ a : Nat, a < 17 ∧ v = nI a) : RelN n (mSetS w v x) (mSetS w v y) := by
  obtain ⟨hg, ⟨h1, h2, h3, h4, h5, h6, h7, h8, h9, hat⟩, hx, hs⟩ := h
  obtain ⟨nx, ⟨sg, rx⟩⟩ := x
  obtain ⟨ny, ⟨sg2, ry⟩⟩ := y
  simp only at h2
  subst h2
  refine ⟨hg, ⟨h1, rfl, h3, h4, h5, h6, h7, h8, h9, hat⟩, hx, fun k hk => ?_⟩
  show ∃ a : Nat, a < 17 ∧ upd sg w v k = nI a
  rw [upd_v]
  split
  · exact hv
  · exact hs k hk
theorem relN_set {n : Nat} {x y : HS} {w v : Int32} (h : RelN n x y) (hv : okSV w v) : RelN n (hSet w v x) (mSetS w.toNatClampNeg v y) := by
  unfold hSet
  rw [if_pos hv]
  exact relN_setS h (okSV_small hv)
theorem relN_hot0 : RelN 0 hot0 hot0 := by
  refine ⟨rfl, ⟨rfl, rfl, rfl, rfl, rfl, rfl, rfl, rfl, rfl, fun g h => by omega⟩, ⟨⟨0, by decide, rfl⟩, fun g h => by omega⟩, fun k hk => ?_⟩
  rcases (show k = 0 ∨ k = 1 ∨ k = 2 by omega) with q | q | q <;> subst q
  · exact ⟨6, by decide, rfl⟩
  · exact ⟨3, by decide, rfl⟩
  · exact ⟨2, by decide, rfl⟩
