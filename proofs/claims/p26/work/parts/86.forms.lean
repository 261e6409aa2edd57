/-! what the calls answer, as the law asks them -/
section FM
variable {B n : Nat} {v : AV}
theorem qAb_0 (h : Hx B n v.1) : qAb v 0 = nI n := by
  unfold qAb
  rw [if_pos (show kAbout 0 = 0 by decide +kernel), h.n]
  unfold hNum
  rw [if_pos rfl]; exact h.ok.2.1
theorem qAb_1 (h : Hx B n v.1) : qAb v 1 = v.1.1.2.1 := by
  unfold qAb
  rw [if_pos (show kAbout 1 = 0 by decide +kernel), h.n]
  unfold hNum
  rw [if_neg (by decide), if_pos rfl]
theorem qAb_2 (h : Hx B n v.1) : qAb v 2 = hWR n v.1 := by
  unfold qAb
  rw [if_pos (show kAbout 2 = 0 by decide +kernel), h.n]
  unfold hNum
  rw [if_neg (by decide), if_neg (by decide), if_pos rfl]
theorem qAb_3 (h : Hx B n v.1) : qAb v 3 = hGI n v.1 0 := by
  unfold qAb
  rw [if_pos (show kAbout 3 = 0 by decide +kernel), h.n]
  unfold hNum
  rw [if_neg (by decide), if_neg (by decide), if_neg (by decide), if_pos rfl]
theorem qAb_4 (h : Hx B n v.1) : qAb v 4 = hGI n v.1 1 := by
  unfold qAb
  rw [if_pos (show kAbout 4 = 0 by decide +kernel), h.n]
  unfold hNum
  rw [if_neg (by decide), if_neg (by decide), if_neg (by decide), if_neg (by decide), if_pos rfl]
theorem qAb_5 (h : Hx B n v.1) : qAb v 5 = hGI n v.1 2 := by
  unfold qAb
  rw [if_pos (show kAbout 5 = 0 by decide +kernel), h.n]
  unfold hNum
  rw [if_neg (by decide), if_neg (by decide), if_neg (by decide), if_neg (by decide), if_neg (by decide), if_pos rfl]
theorem qAb_6 (h : Hx B n v.1) : qAb v 6 = v.1.1.2.2.1 := by
  unfold qAb
  rw [if_pos (show kAbout 6 = 0 by decide +kernel), h.n]
  unfold hNum
  rw [if_neg (by decide), if_neg (by decide), if_neg (by decide), if_neg (by decide), if_neg (by decide), if_neg (by decide), if_pos rfl]
theorem qAb_7 (h : Hx B n v.1) : qAb v 7 = v.1.1.2.2.2.1 := by
  unfold qAb
  rw [if_pos (show kAbout 7 = 0 by decide +kernel), h.n]
  unfold hNum
  rw [if_neg (by decide), if_neg (by decide), if_neg (by decide), if_neg (by decide), if_neg (by decide), if_neg (by decide), if_neg (by decide), if_pos rfl]
theorem qAb_8 (h : Hx B n v.1) : qAb v 8 = v.1.1.2.2.2.2.1 := by
  unfold qAb
  rw [if_pos (show kAbout 8 = 0 by decide +kernel), h.n]
  unfold hNum
  rw [if_neg (by decide), if_neg (by decide), if_neg (by decide), if_neg (by decide), if_neg (by decide), if_neg (by decide), if_neg (by decide), if_neg (by decide), if_pos rfl]
theorem qAb_9 (h : Hx B n v.1) : qAb v 9 = v.1.1.2.2.2.2.2.1 := by
  unfold qAb
  rw [if_pos (show kAbout 9 = 0 by decide +kernel), h.n]
  unfold hNum
  rw [if_neg (by decide), if_neg (by decide), if_neg (by decide), if_neg (by decide), if_neg (by decide), if_neg (by decide), if_neg (by decide), if_neg (by decide), if_neg (by decide), if_pos rfl]
theorem qAb_10 (h : Hx B n v.1) : qAb v 10 = hAG n v.1 := by
  unfold qAb
  rw [if_pos (show kAbout 10 = 0 by decide +kernel), h.n]
  unfold hNum
  rw [if_neg (by decide), if_neg (by decide), if_neg (by decide), if_neg (by decide), if_neg (by decide), if_neg (by decide), if_neg (by decide), if_neg (by decide), if_neg (by decide), if_neg (by decide), if_pos rfl]
theorem qAb_11 (h : Hx B n v.1) : qAb v 11 = v.1.1.2.2.2.2.2.2 := by
  unfold qAb
  rw [if_pos (show kAbout 11 = 0 by decide +kernel), h.n]
  unfold hNum
  rw [if_neg (by decide), if_neg (by decide), if_neg (by decide), if_neg (by decide), if_neg (by decide), if_neg (by decide), if_neg (by decide), if_neg (by decide), if_neg (by decide), if_neg (by decide), if_neg (by decide), if_pos rfl]
theorem qGu_a (h : Hx B n v.1) {g : Nat} (hg : g < n) {w : Int32} (hw : inL w.toInt64 0 7) : qGu v (nI g) w = hGN v.1 g w := by
  obtain ⟨hn, hgu, -⟩ := h.ok
  have hG := isG_nI hn hg
  have hk : kGuest (nI n) (nI g) w = 0 := by unfold kGuest; rw [if_pos hG, if_pos hw]
  unfold qGu
  rw [h.n, if_pos hk]
  unfold hGuestN
  rw [hgu, if_pos hG, nI_clamp (by omega)]
theorem qGu_0 (h : Hx B n v.1) {g : Nat} (hg : g < n) : qGu v (nI g) 0 = v.1.2.2.1 g := by
  rw [qGu_a h hg (show inL (0 : Int32).toInt64 0 7 by decide +kernel)]
  obtain ⟨⟨⟨gu, fl, se, pr, re, go, ch⟩, ⟨sg, bu, wa, ho, we, st, gr, po, ri⟩⟩, M, s01⟩ := v
  simp only [hGN]
  rw [if_pos trivial]
theorem qGu_1 (h : Hx B n v.1) {g : Nat} (hg : g < n) : qGu v (nI g) 1 = v.1.2.2.2.2.1 g := by
  rw [qGu_a h hg (show inL (1 : Int32).toInt64 0 7 by decide +kernel)]
  obtain ⟨⟨⟨gu, fl, se, pr, re, go, ch⟩, ⟨sg, bu, wa, ho, we, st, gr, po, ri⟩⟩, M, s01⟩ := v
  simp only [hGN]
  rw [if_neg (by decide), if_pos trivial]
theorem qGu_2 (h : Hx B n v.1) {g : Nat} (hg : g < n) : qGu v (nI g) 2 = v.1.2.2.2.2.2.1 g := by
  rw [qGu_a h hg (show inL (2 : Int32).toInt64 0 7 by decide +kernel)]
  obtain ⟨⟨⟨gu, fl, se, pr, re, go, ch⟩, ⟨sg, bu, wa, ho, we, st, gr, po, ri⟩⟩, M, s01⟩ := v
  simp only [hGN]
  rw [if_neg (by decide), if_neg (by decide), if_pos trivial]
theorem qGu_3 (h : Hx B n v.1) {g : Nat} (hg : g < n) : qGu v (nI g) 3 = v.1.2.2.2.2.2.2.1 g := by
  rw [qGu_a h hg (show inL (3 : Int32).toInt64 0 7 by decide +kernel)]
  obtain ⟨⟨⟨gu, fl, se, pr, re, go, ch⟩, ⟨sg, bu, wa, ho, we, st, gr, po, ri⟩⟩, M, s01⟩ := v
  simp only [hGN]
  rw [if_neg (by decide), if_neg (by decide), if_neg (by decide), if_pos trivial]
theorem qGu_4 (h : Hx B n v.1) {g : Nat} (hg : g < n) : qGu v (nI g) 4 = hWhere v.1 g := by
  rw [qGu_a h hg (show inL (4 : Int32).toInt64 0 7 by decide +kernel)]
  obtain ⟨⟨⟨gu, fl, se, pr, re, go, ch⟩, ⟨sg, bu, wa, ho, we, st, gr, po, ri⟩⟩, M, s01⟩ := v
  simp only [hGN]
  rw [if_neg (by decide), if_neg (by decide), if_neg (by decide), if_neg (by decide), if_pos trivial]
theorem qGu_5 (h : Hx B n v.1) {g : Nat} (hg : g < n) : qGu v (nI g) 5 = v.1.2.2.2.2.2.2.2.1 g := by
  rw [qGu_a h hg (show inL (5 : Int32).toInt64 0 7 by decide +kernel)]
  obtain ⟨⟨⟨gu, fl, se, pr, re, go, ch⟩, ⟨sg, bu, wa, ho, we, st, gr, po, ri⟩⟩, M, s01⟩ := v
  simp only [hGN]
  rw [if_neg (by decide), if_neg (by decide), if_neg (by decide), if_neg (by decide), if_neg (by decide), if_pos trivial]
theorem qFl_k {f w : Int32} (h : Hx B n v.1) (hf : ∃ a : Nat, a < 7 ∧ f = nI a) (hw : inL w.toInt64 0 2) : qFl v f w = hFS n v.1 f w := by
  obtain ⟨a, ha, rfl⟩ := hf
  have hk : kFloor (nI a) w = 0 := by unfold kFloor; rw [if_pos (show okF (nI a) from ⟨nI_pos (by omega), nI_ge (by omega) (by decide)⟩), if_pos hw]
  unfold qFl
  rw [if_pos hk, h.n]
theorem qFl_0 {f : Int32} (h : Hx B n v.1) (hf : ∃ a : Nat, a < 7 ∧ f = nI a) : qFl v f 0 = hFS n v.1 f 0 := qFl_k h hf (by decide +kernel)
theorem qFl_1 {f : Int32} (h : Hx B n v.1) (hf : ∃ a : Nat, a < 7 ∧ f = nI a) : qFl v f 1 = hFS n v.1 f 1 := qFl_k h hf (by decide +kernel)
theorem qFl_2 {f : Int32} (h : Hx B n v.1) (hf : ∃ a : Nat, a < 7 ∧ f = nI a) : qFl v f 2 = hFS n v.1 f 2 := qFl_k h hf (by decide +kernel)
theorem qSe_0 : qSe v 0 = v.1.2.1 0 := by
  unfold qSe
  rw [if_pos (show kSetg 0 = 0 by decide +kernel)]
  unfold hSgOf
  rw [if_pos (by decide +kernel)]
  rfl
theorem qSe_1 : qSe v 1 = v.1.2.1 1 := by
  unfold qSe
  rw [if_pos (show kSetg 1 = 0 by decide +kernel)]
  unfold hSgOf
  rw [if_pos (by decide +kernel)]
  rfl
theorem qSe_2 : qSe v 2 = v.1.2.1 2 := by
  unfold qSe
  rw [if_pos (show kSetg 2 = 0 by decide +kernel)]
  unfold hSgOf
  rw [if_pos (by decide +kernel)]
  rfl
theorem kG_at (h : Hx B n v.1) {g : Nat} (hg : g < n) : kG (nI (hN v.1)) (nI g) = 0 := by
  unfold kG
  rw [h.n, if_pos (isG_nI h.ok.1 hg)]
theorem qWh_g (h : Hx B n v.1) {g : Nat} (hg : g < n) : qWh v (nI g) = hReas v.1 (nI g) := by
  unfold qWh
  rw [if_pos (kG_at h hg)]
theorem qFe_0 (h : Hx B n v.1) : qFe v 0 = hFew n v.1 := by
  unfold qFe
  rw [if_pos (show kFew 0 = 0 by decide +kernel), h.n]
theorem qFe_1 (h : Hx B n v.1) : qFe v 1 = hFew n v.1 := by
  unfold qFe
  rw [if_pos (show kFew 1 = 0 by decide +kernel), h.n]
theorem qLe_g (h : Hx B n v.1) {g : Nat} (hg : g < n) : qLe v (nI g) = hStandR n v.1 (nI g) := by
  unfold qLe
  rw [if_pos (kG_at h hg), h.n]
theorem ifp_1 {x : HS} {g : Nat} (hg : g < 4) : lpN (sPrC n (1 : Int32).toNatClampNeg (nI g).toNatClampNeg) (1 : Int32).toNatClampNeg 0 x = hPress n x (nI g) := by
  rw [nI_clamp (show g < 2 ^ 31 by omega), show (1 : Int32).toNatClampNeg = 1 by decide]
  show hPress n x (nI (g / 10 ^ (1 - 1 - 0) % 10)) = _
  rw [show g / 10 ^ (1 - 1 - 0) % 10 = g by rw [Nat.pow_zero, Nat.div_one]; omega]
theorem kIfp_1 : ∀ g, g < 4 → ∀ k, k < 5 → kIfp 1 (nI g) (nI k) = 0 := by decide +kernel
theorem qIf_k (h : Hx B n v.1) {g k : Nat} (hg : g < n) (hk : k < 5) : qIf v 1 (nI g) (nI k) = vIfp n v.1 (hPress n v.1 (nI g)) (nI k) := by
  have hn := h.ok.1
  unfold qIf
  rw [if_pos (kIfp_1 g (by omega) k hk), h.n, ifp_1 (by omega)]
theorem qIf_0 (h : Hx B n v.1) {g : Nat} (hg : g < n) : qIf v 1 (nI g) 0 = (hPress n v.1 (nI g)).1.2.2.2.1 - v.1.1.2.2.2.1 := qIf_k h hg (k := 0) (by decide)
theorem qIf_1 (h : Hx B n v.1) {g : Nat} (hg : g < n) : qIf v 1 (nI g) 1 = (hPress n v.1 (nI g)).1.2.2.1 - v.1.1.2.2.1 := qIf_k h hg (k := 1) (by decide)
theorem qIf_2 (h : Hx B n v.1) {g : Nat} (hg : g < n) : qIf v 1 (nI g) 2 = hAG n (hPress n v.1 (nI g)) := qIf_k h hg (k := 2) (by decide)
theorem qIf_3 (h : Hx B n v.1) {g : Nat} (hg : g < n) : qIf v 1 (nI g) 3 = hGI n (hPress n v.1 (nI g)) 2 := qIf_k h hg (k := 3) (by decide)
theorem qIf_4 (h : Hx B n v.1) {g : Nat} (hg : g < n) : qIf v 1 (nI g) 4 = (hPress n v.1 (nI g)).1.2.1 := qIf_k h hg (k := 4) (by decide)
theorem aPress_g (h : Hx B n v.1) {g : Nat} (hg : g < n) : aPress v (nI g) = (hReas v.1 (nI g), aPush v (hPress n v.1 (nI g))) := by
  unfold aPress
  rw [if_pos (kG_at h hg), h.n]
end FM
