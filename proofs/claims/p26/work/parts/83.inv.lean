/-! what holds of every hotel -/
/-- at most B actions made it; n guests -/
def Hx (B n : Nat) (x : HS) : Prop :=
  (OkH x ∧ n = hN x) ∧
  (∃ s p r : Nat, x.1.2.2.1 = nI s ∧ x.1.2.2.2.1 = nI p ∧ x.1.2.2.2.2.1 = nI r ∧ 5 * p ≤ s ∧ s ≤ 60 * B ∧ p + r ≤ B) ∧
  ((∃ a : Nat, 4 ≤ a ∧ a ≤ 16 ∧ x.2.1 0 = nI a) ∧ (∃ a : Nat, 1 ≤ a ∧ a ≤ 9 ∧ x.2.1 1 = nI a) ∧ ∃ a : Nat, 1 ≤ a ∧ a ≤ 9 ∧ x.2.1 2 = nI a) ∧
  ∀ g, g < n → (∃ a : Nat, a < 7 ∧ x.2.2.2.1 g = nI a) ∧ (∃ a : Nat, a < 7 ∧ x.2.2.2.2.1 g = nI a) ∧ (∃ a : Nat, 1 ≤ a ∧ a ≤ 4 ∧ x.2.2.2.2.2.1 g = nI a) ∧ (x.2.2.2.2.2.2.1 g = 0 → ¬ x.2.2.2.1 g = x.2.2.2.2.1 g) ∧ (x.2.2.2.2.2.2.1 g = 1 → ¬ x.2.2.2.2.1 g = x.1.2.1) ∧ (x.2.2.2.2.2.2.1 g = 2 → x.2.2.2.2.2.2.2.1 g = 0)
theorem Hx.ok {B n : Nat} {x : HS} (h : Hx B n x) : n ≤ 4 ∧ x.1.1 = nI n ∧ okX n x := by
  obtain ⟨⟨h1, rfl⟩, -⟩ := h
  exact h1.g
theorem Hx.O {B n : Nat} {x : HS} (h : Hx B n x) : OkH x := h.1.1
theorem Hx.n {B n : Nat} {x : HS} (h : Hx B n x) : hN x = n := h.1.2.symm
theorem Hx.up {B C n : Nat} {x : HS} (h : Hx B n x) (hBC : B ≤ C) : Hx C n x := by
  obtain ⟨h1, ⟨s, p, r, e1, e2, e3, h2, h3, h4⟩, h5⟩ := h
  exact ⟨h1, ⟨s, p, r, e1, e2, e3, h2, by omega, by omega⟩, h5⟩
theorem hx_go {B n j : Nat} {x : HS} (h : Hx B n x) (hO : OkH (hGo n j x)) (hj : j < n) : Hx (B + 1) n (hGo n j x) := by
  obtain ⟨hn, hg, hok⟩ := h.ok
  obtain ⟨⟨h1, h1n⟩, ⟨s, p, r, e1, e2, e3, h2, h3, h4⟩, ⟨⟨c0, c1, c2, c3⟩, d0, q0, q1, q2, q3⟩, h6⟩ := h
  obtain ⟨g1, g2, g3, g4, g5, g6, g7, g8, g9, g10, g11⟩ := go_spec hj hok (fun g hg => (h6 g hg).2.2.2.2.2)
  obtain ⟨a, ha, ea⟩ := hok.1
  obtain ⟨b, hb, eb⟩ := (hok.2 j hj).1
  refine ⟨⟨hO, ?_⟩, ⟨s + ((if a ≤ b then b - a else a - b) * q0 + 5), p + 1, r, ?_, ?_, ?_, ?_, ?_, ?_⟩, ?_, fun g hg => ?_⟩
  · exact h1n.trans (congrArg Int32.toNatClampNeg g1).symm
  · rw [g3, e1, ea, eb, hi_lo b hb a ha, q3, pk_mul, show (5 : Int32) = nI 5 from rfl, nI_add, nI_add]
  · rw [g4, e2, nI_1]
  · rw [g5, e3]
  · omega
  · have hd : (if a ≤ b then b - a else a - b) * q0 ≤ 6 * 9 := Nat.mul_le_mul (by split <;> omega) q2
    omega
  · omega
  · rw [g6]
    exact ⟨⟨c0, c1, c2, c3⟩, d0, q0, q1, q2, q3⟩
  · obtain ⟨k1, k2, k3, k4, k5, k6⟩ := h6 g hg
    obtain ⟨m0, m1, m2, m3⟩ := g11 g hg
    obtain ⟨z, hz, ez⟩ := (hok.2 g hg).2.1
    rw [g8, g9, g10, g2]
    refine ⟨k1, k2, k3, fun q => ?_, fun q => ?_, m3⟩
    · rcases (show z = 0 ∨ z = 1 ∨ z = 2 by omega) with w | w | w <;> subst w
      · exact k4 ez
      · have := (m1 ez).symm.trans q
        split at this <;> exact absurd this (by decide)
      · exact absurd ((m2 ez).symm.trans q) (by decide)
    · rcases (show z = 0 ∨ z = 1 ∨ z = 2 by omega) with w | w | w <;> subst w
      · rcases m0 ez with v | v
        · exact absurd (v.symm.trans q) (by decide)
        · intro y
          exact k4 ez (v.2.trans y.symm)
      · intro y
        have := (m1 ez).symm.trans q
        rw [if_pos y] at this
        exact absurd this (by decide)
      · exact absurd ((m2 ez).symm.trans q) (by decide)
theorem reas_ne {n j : Nat} {x : HS} (hn : n ≤ 4) (hg : x.1.1 = nI n) (hj : j < n) : ¬ hReas x (nI j) = -1 := by
  obtain ⟨⟨gu, fl, se, pr, re, go, ch⟩, ⟨sg, bu, wa, ho, we, st, gr, po, ri⟩⟩ := x
  obtain rfl : gu = nI n := hg
  simp only [hReas, if_pos (isG_nI hn hj)]
  unfold vReas
  split
  · decide
  · split
    · split <;> decide
    · decide
theorem press_0 {n j : Nat} {x : HS} (hn : n ≤ 4) (hj : j < n) (h : hReas x (nI j) = 0) : hPress n x (nI j) = hGo n j x := by
  unfold hPress
  rw [if_pos h, nI_clamp (by omega)]
theorem press_1 {n j : Nat} {x : HS} (hn : n ≤ 4) (hg : x.1.1 = nI n) (hj : j < n) (h : ¬ hReas x (nI j) = 0) : hPress n x (nI j) = hRef x := by
  unfold hPress
  rw [if_neg h, if_neg (reas_ne hn hg hj)]
theorem hx_press {B n j : Nat} {x : HS} (h : Hx B n x) (hj : j < n) : Hx (B + 1) n (hPress n x (nI j)) := by
  obtain ⟨hn, hg, hok⟩ := h.ok
  have hO := ok_press (g := nI j) h.O
  rw [h.n] at hO
  by_cases q : hReas x (nI j) = 0
  · rw [press_0 hn hj q] at hO ⊢
    exact hx_go h hO hj
  · rw [press_1 hn hg hj q] at hO ⊢
    obtain ⟨⟨h1, h1n⟩, ⟨s, p, r, e1, e2, e3, h2, h3, h4⟩, h5, h6⟩ := h
    obtain ⟨⟨gu, fl, se, pr, re, go, ch⟩, rows⟩ := x
    exact ⟨⟨hO, h1n⟩, ⟨s, p, r + 1, e1, e2, by show re + 1 = _; rw [show re = nI r from e3, nI_1], h2, by omega, by omega⟩, h5, h6⟩
theorem okF_n {f : Int32} (h : okF f) : ∃ a : Nat, a < 7 ∧ f = nI a := okF_nat h
theorem okW_n {w : Int32} (h : okW w) : ∃ a : Nat, 1 ≤ a ∧ a ≤ 4 ∧ w = nI a := by
  obtain ⟨h1, h2⟩ := h
  have h0 : ¬ w < 0 := fun q => h1 (Int32.lt_iff_toInt_lt.mpr (Int.lt_trans (Int32.lt_iff_toInt_lt.mp q) (by decide)))
  obtain ⟨k, hk, rfl⟩ := nI_of h0
  refine ⟨k, ?_, ?_, rfl⟩
  · rcases Nat.lt_or_ge k 1 with q | q
    · exact absurd ((nI_ltI (a := k) (b := 1) hk (by decide)).mpr q) h1
    · exact q
  · rcases Nat.lt_or_ge 4 k with q | q
    · exact absurd ((nI_ltI (a := 4) (b := k) (by decide) hk).mpr q) h2
    · exact q
theorem hx_come {B n : Nat} {x : HS} {b a c w : Int32} (h : Hx B n x) (hc : okC n b a c w) : Hx (B + 1) (n + 1) (hCome n b a c w x) := by
  have hO := ok_adm (b := b) (a := a) (c := c) (w := w) h.O
  rw [h.n] at hO
  unfold hAdm at hO
  rw [if_pos hc] at hO
  obtain ⟨hn, hg, hok⟩ := h.ok
  obtain ⟨⟨h1, h1n⟩, ⟨s, p, r, e1, e2, e3, h2, h3, h4⟩, h5, h6⟩ := h
  obtain ⟨⟨gu, fl, se, pr, re, go, ch⟩, ⟨sg, bu, wa, ho, we, st, gr, po, ri⟩⟩ := x
  obtain ⟨hb, ha, hh, hw, hn4⟩ := hc
  refine ⟨⟨hO, ?_⟩, ⟨s, p, r, e1, e2, e3, h2, by omega, by omega⟩, h5, fun g hgn => ?_⟩
  · show n + 1 = (gu + 1).toNatClampNeg
    rw [show gu = nI n from hg, nI_1, nI_clamp (by omega)]
  · show (∃ k : Nat, k < 7 ∧ upd wa n a g = nI k) ∧ (∃ k : Nat, k < 7 ∧ upd ho n c g = nI k) ∧ (∃ k : Nat, 1 ≤ k ∧ k ≤ 4 ∧ upd we n w g = nI k) ∧ (upd st n (if a = c then 2 else 0) g = 0 → ¬ upd wa n a g = upd ho n c g) ∧ (upd st n (if a = c then 2 else 0) g = 1 → ¬ upd ho n c g = fl) ∧ (upd st n (if a = c then 2 else 0) g = 2 → upd gr n 0 g = 0)
    by_cases q : g = n
    · subst q
      rw [upd_at, upd_at, upd_at, upd_at, upd_at]
      refine ⟨okF_n ha, okF_n hh, okW_n hw, fun z => ?_, fun z => ?_, fun _ => rfl⟩
      · intro y
        rw [if_pos y] at z
        exact absurd z (by decide)
      · split at z <;> exact absurd z (by decide)
    · rw [upd_ne q, upd_ne q, upd_ne q, upd_ne q, upd_ne q]
      exact h6 g (by omega)
theorem hx_leave {B n j : Nat} {x : HS} (h : Hx B n x) (hj : j < n) : Hx (B + 1) (n - 1) (hLeave n x (nI j)) := by
  have hO := ok_leave (g := nI j) h.O
  rw [h.n] at hO
  obtain ⟨hn, hg, hok⟩ := h.ok
  have e0 : hLeave n x (nI j) = hDis n j x := by
    unfold hLeave
    rw [hg, if_pos (isG_nI hn hj), nI_clamp (by omega)]
  rw [e0] at hO ⊢
  obtain ⟨⟨h1, h1n⟩, ⟨s, p, r, e1, e2, e3, h2, h3, h4⟩, h5, h6⟩ := h
  have nx := mv_n (n - 1 - j) j x
  have vx : ∀ w g, mCol (hDis n j x) w g = if j ≤ g ∧ g < j + (n - 1 - j) then mCol x w (g + 1) else mCol x w g := fun w g => mv_v (w := w) (n - 1 - j) j x g
  have e11 : (hDis n j x).1.1 = x.1.1 - 1 := by show (lpN sMv (n - 1 - j) j x).1.1 - 1 = _; rw [nx.1]
  have e12 : (hDis n j x).1.2 = x.1.2 := by show (lpN sMv (n - 1 - j) j x).1.2 = _; rw [nx.1]
  have e21 : (hDis n j x).2.1 = x.2.1 := nx.2
  refine ⟨⟨hO, ?_⟩, ⟨s, p, r, by rw [e12]; exact e1, by rw [e12]; exact e2, by rw [e12]; exact e3, h2, by omega, by omega⟩, by rw [e21]; exact h5, fun g hgn => ?_⟩
  · unfold hN
    obtain ⟨k, rfl⟩ : ∃ k, n = k + 1 := ⟨n - 1, by omega⟩
    rw [e11, hg, nI_pred, nI_clamp (by omega)]
    rfl
  · obtain ⟨i, hi, q⟩ : ∃ i, i < n ∧ ∀ w, mCol (hDis n j x) w g = mCol x w i := by
      by_cases q : j ≤ g ∧ g < j + (n - 1 - j)
      · exact ⟨g + 1, by omega, fun w => by rw [vx, if_pos q]⟩
      · exact ⟨g, by omega, fun w => by rw [vx, if_neg q]⟩
    have q1 : (hDis n j x).2.2.2.2.1 g = x.2.2.2.2.1 i := q 1
    have q2 : (hDis n j x).2.2.2.2.2.1 g = x.2.2.2.2.2.1 i := q 2
    have q3 : (hDis n j x).2.2.2.2.2.2.1 g = x.2.2.2.2.2.2.1 i := q 3
    have q4 : (hDis n j x).2.2.2.1 g = x.2.2.2.1 i := q 4
    have q5 : (hDis n j x).2.2.2.2.2.2.2.1 g = x.2.2.2.2.2.2.2.1 i := q 5
    rw [q1, q2, q3, q4, q5, e12]
    exact h6 i hi
theorem hx_rest {B n : Nat} {x : HS} (h : Hx B n x) : Hx (B + 1) n (hRest n x) := by
  have hO := ok_rest h.O
  rw [h.n] at hO
  obtain ⟨hn, hg, hok⟩ := h.ok
  obtain ⟨⟨h1, h1n⟩, ⟨s, p, r, e1, e2, e3, h2, h3, h4⟩, h5, h6⟩ := h
  obtain ⟨⟨gu, fl, se, pr, re, go, ch⟩, ⟨sg, bu, wa, ho, we, st, gr, po, ri⟩⟩ := x
  refine ⟨⟨hO, h1n⟩, ⟨s + 30, p, r, ?_, e2, e3, by omega, by omega, by omega⟩, h5, fun g hgn => ?_⟩
  · show se + 30 = _
    rw [show se = nI s from e1, show (30 : Int32) = nI 30 from rfl, nI_add]
  · obtain ⟨k1, k2, k3, k4, k5, k6⟩ := h6 g hgn
    refine ⟨k1, k2, k3, k4, k5, fun q => ?_⟩
    have k6 : gr g = 0 := k6 q
    show lpN sRe n 0 gr g = 0
    rw [re_v, k6]
    split
    · rfl
    · rfl
theorem hx_set {B n : Nat} {x : HS} {w v : Int32} (h : Hx B n x) (hv : okSV w v) : Hx (B + 1) n (hSet w v x) := by
  have hO := ok_set (w := w) (v := v) h.O
  have e0 : hSet w v x = mSetS w.toNatClampNeg v x := if_pos hv
  rw [e0] at hO ⊢
  obtain ⟨⟨h1, h1n⟩, ⟨s, p, r, e1, e2, e3, h2, h3, h4⟩, h5, h6⟩ := h
  obtain ⟨⟨gu, fl, se, pr, re, go, ch⟩, ⟨sg, bu, wa, ho, we, st, gr, po, ri⟩⟩ := x
  refine ⟨⟨hO, h1n⟩, ⟨s, p, r, e1, e2, e3, h2, by omega, by omega⟩, ?_, h6⟩
  obtain ⟨hw, hlo, hhi⟩ := hv
  obtain ⟨j, hj, rfl⟩ := isG_of (n := 3) (by decide) hw
  rw [nI_clamp (by omega)] at hlo hhi
  show (∃ a : Nat, 4 ≤ a ∧ a ≤ 16 ∧ upd sg (nI j).toNatClampNeg v 0 = nI a) ∧ (∃ a : Nat, 1 ≤ a ∧ a ≤ 9 ∧ upd sg (nI j).toNatClampNeg v 1 = nI a) ∧ (∃ a : Nat, 1 ≤ a ∧ a ≤ 9 ∧ upd sg (nI j).toNatClampNeg v 2 = nI a)
  rw [nI_clamp (by omega)]
  have rg : ∀ {lo hi : Nat}, lo < 2 ^ 31 → hi < 2 ^ 31 → ¬ v < nI lo → ¬ nI hi < v → ∃ a : Nat, lo ≤ a ∧ a ≤ hi ∧ v = nI a := fun {lo hi} b1 b2 c1 c2 => by
    have h0 : ¬ v < 0 := fun q => c1 (Int32.lt_iff_toInt_lt.mpr (Int.lt_of_lt_of_le (Int32.lt_iff_toInt_lt.mp q) (by rw [nI_toInt b1, show (0 : Int32).toInt = 0 from rfl]; omega)))
    obtain ⟨k, hk, rfl⟩ := nI_of h0
    refine ⟨k, ?_, ?_, rfl⟩
    · rcases Nat.lt_or_ge k lo with q | q
      · exact absurd ((nI_ltI hk b1).mpr q) c1
      · exact q
    · rcases Nat.lt_or_ge hi k with q | q
      · exact absurd ((nI_ltI b2 hk).mpr q) c2
      · exact q
  obtain ⟨k0, k1, k2⟩ := h5
  rcases (show j = 0 ∨ j = 1 ∨ j = 2 by omega) with q | q | q <;> subst q
  · refine ⟨?_, by rw [upd_ne (by decide)]; exact k1, by rw [upd_ne (by decide)]; exact k2⟩
    rw [upd_at]
    exact rg (lo := 4) (hi := 16) (by decide) (by decide) hlo hhi
  · refine ⟨by rw [upd_ne (by decide)]; exact k0, ?_, by rw [upd_ne (by decide)]; exact k2⟩
    rw [upd_at]
    exact rg (lo := 1) (hi := 9) (by decide) (by decide) hlo hhi
  · refine ⟨by rw [upd_ne (by decide)]; exact k0, by rw [upd_ne (by decide)]; exact k1, ?_⟩
    rw [upd_at]
    exact rg (lo := 1) (hi := 9) (by decide) (by decide) hlo hhi
theorem hx_hot0 : Hx 0 0 hot0 :=
  ⟨⟨⟨hot0, 0, by decide, relN_hot0⟩, rfl⟩, ⟨0, 0, 0, rfl, rfl, rfl, by decide, by decide, by decide⟩, ⟨⟨6, by decide, by decide, by decide +kernel⟩, ⟨3, by decide, by decide, by decide +kernel⟩, ⟨2, by decide, by decide, by decide +kernel⟩⟩, fun g hg => absurd hg (Nat.not_lt_zero g)⟩
