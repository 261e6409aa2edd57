/-! turns on both sides -/
theorem relX_dis {n j : Nat} {z y : HS} (hn : n ≤ 4) (h : RelN n z y) (hj : j < n) : RelX (hLeave n z (nI j)) (hDis n j y) := by
  unfold hLeave
  rw [h.1, if_pos (isG_nI hn hj), nI_clamp (by omega)]
  exact ⟨n - 1, by omega, relN_dis h hj⟩
theorem relX_ndis {n : Nat} {g : Int32} {z y : HS} (hn : n ≤ 4) (h : RelN n z y) (hj : ¬ isG (nI n) g) : RelX (hLeave n z g) y := by
  unfold hLeave
  rw [h.1, if_neg hj]
  exact ⟨n, hn, h⟩
theorem relX_press {n j : Nat} {z y : HS} (hn : n ≤ 4) (h : RelN n z y) (hj : j < n) : RelX (hPress n z (nI j)) (mPress n j y) := ⟨n, hn, relN_press hn h hj⟩
theorem reas_no {n : Nat} {g : Int32} {z : HS} (h : z.1.1 = nI n) (hj : ¬ isG (nI n) g) : hReas z g = -1 := by
  obtain ⟨⟨gu, fl, se, pr, re, go, ch⟩, ⟨sg, bu, wa, ho, we, st, gr, po, ri⟩⟩ := z
  obtain rfl : gu = nI n := h
  simp only [hReas, if_neg hj]
theorem relX_npress {n : Nat} {g : Int32} {z y : HS} (hn : n ≤ 4) (h : RelN n z y) (hj : ¬ isG (nI n) g) : RelX (hPress n z g) y := by
  unfold hPress
  rw [reas_no h.1 hj, if_neg (by decide), if_pos rfl]
  exact ⟨n, hn, h⟩
theorem relX_set {n : Nat} {w v : Int32} {z y : HS} (hn : n ≤ 4) (h : RelN n z y) (hv : okSV w v) : RelX (hSet w v z) (mSetS w.toNatClampNeg v y) := ⟨n, hn, relN_set h hv⟩
