/-! what a press brings, as the law asks it -/
theorem i_addsub (a b : Int32) : a + (b - a) = b := by rw [Int32.add_comm, Int32.sub_add_cancel]
theorem i_subl (a b : Int32) : a + b - a = b := by rw [Int32.add_comm, Int32.add_sub_cancel]
theorem i_zero (a : Int32) : a - a = 0 := Int32.sub_self a
theorem way_1 {t fl : Int32} (h : ¬ t ≤ fl) : t - fl = vHi t fl - vLo t fl := by
  have h2 : fl ≤ t := by
    rw [Int32.le_iff_toInt_le] at h ⊢
    omega
  unfold vHi vLo
  rw [if_pos h2, if_pos h2]
theorem way_2 {t fl : Int32} (h : t ≤ fl) : fl - t = vHi t fl - vLo t fl := by
  unfold vHi vLo
  by_cases q : fl ≤ t
  · have e : t = fl := by
      apply Int32.toInt_inj.mp
      rw [Int32.le_iff_toInt_le] at h q
      omega
    rw [if_pos q, if_pos q, e]
  · rw [if_neg q, if_neg q]
theorem reas_pos {B n g : Nat} {x : HS} (h : Hx B n x) (hg : g < n) (h0 : ¬ hReas x (nI g) = 0) : 0 < hReas x (nI g) := by
  rw [reas_g h hg] at h0 ⊢
  by_cases a : x.2.2.2.2.2.2.1 g = 2
  · rw [if_pos a]; decide
  · rw [if_neg a] at h0 ⊢
    by_cases b : x.2.2.2.2.2.2.2.1 g < x.2.1 1
    · rw [if_pos b] at h0 ⊢
      by_cases c : x.1.2.1 = x.2.2.1 g
      · rw [if_pos c]; decide
      · rw [if_neg c] at h0
        exact absurd rfl h0
    · rw [if_neg b]; decide
theorem reas_fl {B n g : Nat} {x : HS} (h : Hx B n x) (hg : g < n) (h0 : hReas x (nI g) = 0) : ¬ x.1.2.1 = x.2.2.1 g := by
  intro c
  rw [reas_g h hg] at h0
  by_cases a : x.2.2.2.2.2.2.1 g = 2
  · rw [if_pos a] at h0; exact absurd h0 (by decide)
  · rw [if_neg a] at h0
    by_cases b : x.2.2.2.2.2.2.2.1 g < x.2.1 1
    · rw [if_pos b, if_pos c] at h0; exact absurd h0 (by decide)
    · rw [if_neg b] at h0; exact absurd h0 (by decide)
/-- who is left standing, as told before the press -/
theorem left_go {B n g : Nat} {x : HS} (h : Hx B n x) (hg : g < n) (h0 : hReas x (nI g) = 0) : hFS n (hGo n g x) (x.2.2.1 g) 0 = hStandR n x (nI g) := by
  obtain ⟨hn, hgu, hok⟩ := h.ok
  unfold hStandR
  rw [hgu, if_pos (isG_nI hn hg), nI_clamp (by omega), if_neg (reas_fl h hg h0)]
  obtain ⟨g1, g2, -⟩ := go_spec hg hok (fun i hi => (h.2.2.2 i hi).2.2.2.2.2)
  rw [g2]
theorem ref_all {n : Nat} {x : HS} : (hRef x).1.2.1 = x.1.2.1 ∧ (hRef x).1.2.2.1 = x.1.2.2.1 ∧ (hRef x).1.2.2.2.1 = x.1.2.2.2.1 ∧ (hRef x).1.2.2.2.2.1 = x.1.2.2.2.2.1 + 1 ∧ hWR n (hRef x) = hWR n x := by
  obtain ⟨⟨gu, fl, se, pr, re, go, ch⟩, rows⟩ := x
  exact ⟨rfl, rfl, rfl, rfl, rfl⟩
