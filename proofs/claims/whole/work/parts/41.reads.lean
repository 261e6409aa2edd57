/-! reading a text: what is wrong from a place on, and what the commands do -/
def tErr (z : Nat) (f : Nat → Int32) (s : Nat) (cm mi : Int32) : Int32 := lpE (sErr z f) (eErr z) (z - s) s (cm, mi)
theorem tErr_0 {z s : Nat} {f : Nat → Int32} (cm cm2 : Int32) : tErr z f s cm 0 = tErr z f s cm2 0 := by
  unfold tErr
  cases z - s with
  | zero => rfl
  | succ k =>
    have e : sErr z f s (cm, 0) = sErr z f s (cm2, 0) := by simp only [sErr, if_pos (show (0 : Int32) ≤ 0 by decide)]
    simp only [lpE, e]
theorem tErr_s {z s : Nat} {f : Nat → Int32} {cm mi : Int32} (hs : s < z) : tErr z f s cm mi = (match sErr z f s (cm, mi) with | .inl r => r | .inr y => tErr z f (s + 1) y.1 y.2) := by
  unfold tErr
  rw [show z - s = (z - (s + 1)) + 1 by omega]
  simp only [lpE]
  cases sErr z f s (cm, mi) <;> rfl
theorem tErr_ok {z s : Nat} {f : Nat → Int32} {cm mi : Int32} (hs : s < z) (hm : ¬ mi ≤ 0) (ha : vAllow z f cm mi (nI s)) : tErr z f s cm mi = tErr z f (s + 1) cm (mi + -1) := by
  rw [tErr_s hs]
  simp only [sErr, if_neg hm, if_pos ha]
theorem tErr_no {z s : Nat} {f : Nat → Int32} {cm mi : Int32} (hs : s < z) (hm : ¬ mi ≤ 0) (ha : ¬ vAllow z f cm mi (nI s)) : tErr z f s cm mi = nI s := by
  rw [tErr_s hs]
  simp only [sErr, if_neg hm, if_neg ha]
theorem tErr_end {z : Nat} {f : Nat → Int32} {cm mi : Int32} (hm : ¬ mi ≤ 0) : tErr z f z cm mi = nI z := by
  unfold tErr
  rw [Nat.sub_self]
  simp only [lpE, eErr, if_neg hm]
theorem tErr_fin {z : Nat} {f : Nat → Int32} {cm : Int32} : tErr z f z cm 0 = -1 := by
  unfold tErr
  rw [Nat.sub_self]
  rfl
theorem tErr_cmd {z s : Nat} {f : Nat → Int32} {cm : Int32} (hs : s < z) (h : ¬ vDof (vSign z f (nI s)) = -1) : tErr z f s cm 0 = tErr z f (s + 1) (vSign z f (nI s)) (vDof (vSign z f (nI s))) := by
  rw [tErr_s hs]
  simp only [sErr, if_pos (show (0 : Int32) ≤ 0 by decide), if_pos h]
theorem tErr_bad {z s : Nat} {f : Nat → Int32} {cm : Int32} (hs : s < z) (h : vDof (vSign z f (nI s)) = -1) : tErr z f s cm 0 = nI s := by
  rw [tErr_s hs]
  simp only [sErr, if_pos (show (0 : Int32) ≤ 0 by decide), if_neg (fun q => q h : ¬ ¬ vDof (vSign z f (nI s)) = -1)]
/-- the signs are characters -/
def okT (z : Nat) (f : Nat → Int32) : Prop := z ≤ 120 ∧ ∀ j : Nat, j < z → ∃ a : Nat, a < 256 ∧ f j = nI a
theorem sign_at {z s : Nat} {f : Nat → Int32} (hz : z ≤ 120) (hs : s < z) : vSign z f (nI s) = f s := by
  unfold vSign
  rw [if_neg (nI_pos (by omega)), if_neg (nI_ge hs (by omega)), nI_clamp (by omega)]
theorem sign_end {z s : Nat} {f : Nat → Int32} (hs : z ≤ s) (h2 : s < 2 ^ 31) : vSign z f (nI s) = -1 := by
  unfold vSign
  rw [if_neg (nI_pos h2), if_pos (nI_le hs h2)]
theorem dig_end {z s : Nat} {f : Nat → Int32} (hs : z ≤ s) (h2 : s < 2 ^ 31) : vDig z f (nI s) = -1 := by
  unfold vDig
  rw [sign_end hs h2, if_pos (by decide)]
theorem sub48 {a : Nat} (h : a < 256) : (nI a - 48).toInt = (a : Int) - 48 := pk_sub_toInt (a := a) (b := 48) (by omega) (by omega)
theorem dig_of {z s a : Nat} {f : Nat → Int32} (ht : okT z f) (hs : s < z) (ha : a ≤ 9) (e : f s - 48 = nI a) : vDig z f (nI s) = nI a := by
  obtain ⟨c, hc, ec⟩ := ht.2 s hs
  unfold vDig
  rw [sign_at ht.1 hs, ec]
  rw [ec] at e
  have e2 := congrArg Int32.toInt e
  rw [sub48 hc, nI_toInt (by omega)] at e2
  rw [if_neg (show ¬ nI c < 48 from nI_nlt (b := 48) (by omega) (by omega)), if_neg (show ¬ 57 < nI c from nI_nlt (a := 57) (by omega) (by omega))]
  exact e
theorem dig_no {z s : Nat} {f : Nat → Int32} (ht : okT z f) (hs : s < z) (h : ¬ inL (f s - 48).toInt64 0 9) : vDig z f (nI s) = -1 := by
  obtain ⟨c, hc, ec⟩ := ht.2 s hs
  unfold vDig
  rw [sign_at ht.1 hs, ec]
  rw [ec] at h
  have h := fun q => h ((inI (x := nI c - 48) (a := 0) (c := 9)).mpr q)
  simp only [Int32.lt_iff_toInt_lt, sub48 hc] at h
  have e0 : (0 : Int32).toInt = 0 := rfl
  have e9 : (9 : Int32).toInt = 9 := rfl
  rw [e0, e9] at h
  by_cases q1 : nI c < 48
  · rw [if_pos q1]
  · rw [if_neg q1]
    have q1 : ¬ c < 48 := fun q => q1 ((nI_ltI (a := c) (b := 48) (by omega) (by omega)).mpr q)
    rw [if_pos]
    exact (nI_ltI (a := 57) (b := c) (by omega) (by omega)).mpr (by
      rcases Nat.lt_or_ge 57 c with q | q
      · exact q
      · exact absurd ⟨by omega, by omega⟩ h)
/-- a digit from lo to hi stands at s -/
abbrev okD (z : Nat) (f : Nat → Int32) (s lo hi : Nat) : Prop := ¬ vDig z f (nI s) < nI lo ∧ ¬ nI hi < vDig z f (nI s)
theorem m1_lt {k : Nat} (h : k < 2 ^ 31) : (-1 : Int32) < nI k := by
  rw [Int32.lt_iff_toInt_lt, nI_toInt h]
  have : (-1 : Int32).toInt = -1 := rfl
  omega
theorem okD_m1 {z s lo hi : Nat} {f : Nat → Int32} (hl : lo ≤ 9) (h : vDig z f (nI s) = -1) : ¬ okD z f s lo hi := fun q => q.1 (by rw [h]; exact m1_lt (by omega))
theorem okD_ne {z s lo hi : Nat} {f : Nat → Int32} (hl : lo ≤ 9) (h : okD z f s lo hi) : ¬ vDig z f (nI s) = -1 := fun q => okD_m1 hl q h
theorem okD_lt {z s lo hi : Nat} {f : Nat → Int32} (hl : lo ≤ 9) (h2 : s < 2 ^ 31) (h : okD z f s lo hi) : s < z := by
  rcases Nat.lt_or_ge s z with q | q
  · exact q
  · exact absurd h (okD_m1 hl (dig_end q h2))
theorem okD_of {z s a lo hi : Nat} {f : Nat → Int32} (ha : a ≤ 9) (hh : hi ≤ 9) (hl : lo ≤ 9) (e : vDig z f (nI s) = nI a) : okD z f s lo hi ↔ lo ≤ a ∧ a ≤ hi := by
  unfold okD
  rw [e, nI_ltI (by omega) (by omega), nI_ltI (by omega) (by omega)]
  omega
theorem okD_nat {z s lo hi : Nat} {f : Nat → Int32} (hh : hi ≤ 9) (h : okD z f s lo hi) (hl : lo ≤ 9) : ∃ j : Nat, lo ≤ j ∧ j ≤ hi ∧ vDig z f (nI s) = nI j := by
  obtain ⟨h1, h2⟩ := h
  have h0 : ¬ vDig z f (nI s) < 0 := fun q => h1 (by
    rw [Int32.lt_iff_toInt_lt] at q ⊢
    rw [nI_toInt (by omega)]
    have e0 : (0 : Int32).toInt = 0 := rfl
    omega)
  obtain ⟨j, hj, e⟩ := nI_of h0
  rw [e, nI_ltI hj (by omega)] at h1
  rw [e, nI_ltI (by omega) hj] at h2
  exact ⟨j, by omega, by omega, e⟩
theorem okD_sign {z s lo hi : Nat} {f : Nat → Int32} (hl : lo ≤ 9) (h : okD z f s lo hi) : vDof (vSign z f (nI s)) = -1 := by
  have hd := okD_ne hl h
  unfold vDig at hd
  by_cases q1 : vSign z f (nI s) < 48
  · rw [if_pos q1] at hd; exact absurd rfl hd
  · rw [if_neg q1] at hd
    by_cases q2 : 57 < vSign z f (nI s)
    · rw [if_pos q2] at hd; exact absurd rfl hd
    · have k : ∀ c : Int32, 57 < c → ¬ vSign z f (nI s) = c := fun c h1 h2 => q2 (by rw [h2]; exact h1)
      unfold vDof
      rw [if_neg (k 98 (by decide)), if_neg (k 101 (by decide)), if_neg (k 103 (by decide)), if_neg (k 108 (by decide)), if_neg (k 112 (by decide)), if_neg (k 114 (by decide))]
/-- a number of one digit, and of two -/
abbrev FigP (z : Nat) (f : Nat → Int32) (s : Nat) (ah : Int32) (lo hi : Nat) (r : Int32) (u : Nat) : Prop := (r = -1 ∧ u = s ∧ (ah = -1 ∨ ¬ okD z f s lo hi)) ∨ (¬ ah = -1 ∧ okD z f s lo hi ∧ r = vDig z f (nI s) ∧ u = s + 1)
def hi2 (z : Nat) (f : Nat → Int32) (s : Nat) : Nat := if vDig z f (nI s) = 1 then 6 else 9
abbrev FigP2 (z : Nat) (f : Nat → Int32) (s : Nat) (ah : Int32) (r : Int32) (u : Nat) : Prop := (r = -1 ∧ u = s ∧ (ah = -1 ∨ ¬ okD z f s 0 1)) ∨ (r = -1 ∧ u = s + 1 ∧ ¬ ah = -1 ∧ okD z f s 0 1 ∧ ¬ okD z f (s + 1) 0 (hi2 z f s)) ∨ (¬ ah = -1 ∧ okD z f s 0 1 ∧ okD z f (s + 1) 0 (hi2 z f s) ∧ (∃ j k : Nat, j ≤ 1 ∧ k ≤ 9 ∧ vDig z f (nI s) = nI j ∧ vDig z f (nI (s + 1)) = nI k ∧ r = nI (10 * j + k)) ∧ u = s + 2)
theorem figP_ah {z s lo hi : Nat} {f : Nat → Int32} {ah : Int32} (h : ah = -1) : FigP z f s ah lo hi (-1) s := Or.inl ⟨rfl, rfl, Or.inl h⟩
theorem figP_m1 {z s lo hi : Nat} {f : Nat → Int32} {ah : Int32} (hl : lo ≤ 9) (h : vDig z f (nI s) = -1) : FigP z f s ah lo hi (-1) s := Or.inl ⟨rfl, rfl, Or.inr (okD_m1 hl h)⟩
theorem figP_no {z s a lo hi : Nat} {f : Nat → Int32} {ah : Int32} (hl : lo ≤ 9) (hh : hi ≤ 9) (ha : a ≤ 9) (e : vDig z f (nI s) = nI a) (h : ¬ (lo ≤ a ∧ a ≤ hi)) : FigP z f s ah lo hi (-1) s := Or.inl ⟨rfl, rfl, Or.inr (fun q => h ((okD_of ha hh hl e).mp q))⟩
theorem figP_ok {z s a lo hi : Nat} {f : Nat → Int32} {ah : Int32} (hn : ¬ ah = -1) (hl : lo ≤ 9) (hh : hi ≤ 9) (ha : a ≤ 9) (e : vDig z f (nI s) = nI a) (h1 : lo ≤ a) (h2 : a ≤ hi) : FigP z f s ah lo hi (nI a) (s + 1) := Or.inr ⟨hn, (okD_of ha hh hl e).mpr ⟨h1, h2⟩, e.symm, rfl⟩
theorem figQ_ah {z s : Nat} {f : Nat → Int32} {ah : Int32} (h : ah = -1) : FigP2 z f s ah (-1) s := Or.inl ⟨rfl, rfl, Or.inl h⟩
theorem figQ_m1 {z s : Nat} {f : Nat → Int32} {ah : Int32} (h : vDig z f (nI s) = -1) : FigP2 z f s ah (-1) s := Or.inl ⟨rfl, rfl, Or.inr (okD_m1 (by decide) h)⟩
theorem figQ_no {z s a : Nat} {f : Nat → Int32} {ah : Int32} (ha : a ≤ 9) (e : vDig z f (nI s) = nI a) (h : 16 < a * 10) : FigP2 z f s ah (-1) s := Or.inl ⟨rfl, rfl, Or.inr (fun q => by have := (okD_of ha (by decide) (by decide) e).mp q; omega)⟩
theorem hi2_le {z s : Nat} {f : Nat → Int32} : hi2 z f s ≤ 9 := by unfold hi2; split <;> decide
theorem figQ_m2 {z s a : Nat} {f : Nat → Int32} {ah : Int32} (hn : ¬ ah = -1) (ha : a ≤ 9) (e : vDig z f (nI s) = nI a) (h : ¬ 16 < a * 10) (h2 : vDig z f (nI (s + 1)) = -1) : FigP2 z f s ah (-1) (s + 1) := Or.inr (Or.inl ⟨rfl, rfl, hn, (okD_of ha (by decide) (by decide) e).mpr ⟨by omega, by omega⟩, okD_m1 (by decide) h2⟩)
theorem hi2_of {z s a : Nat} {f : Nat → Int32} (ha : a ≤ 9) (e : vDig z f (nI s) = nI a) : hi2 z f s = if a = 1 then 6 else 9 := by
  unfold hi2
  rw [e]
  by_cases q : a = 1
  · rw [if_pos q, if_pos (by rw [q]; rfl)]
  · rw [if_neg q, if_neg (show ¬ nI a = 1 from fun h => q ((nI_eq (b := 1) (by omega) (by omega)).mp h))]
theorem figQ_n2 {z s a c : Nat} {f : Nat → Int32} {ah : Int32} (hn : ¬ ah = -1) (ha : a ≤ 9) (e : vDig z f (nI s) = nI a) (h : ¬ 16 < a * 10) (hc : c ≤ 9) (e2 : vDig z f (nI (s + 1)) = nI c) (h2 : 16 < a * 10 + c) : FigP2 z f s ah (-1) (s + 1) := Or.inr (Or.inl ⟨rfl, rfl, hn, (okD_of ha (by decide) (by decide) e).mpr ⟨by omega, by omega⟩, fun q => by
  have := (okD_of hc hi2_le (by decide) e2).mp q
  rw [hi2_of ha e] at this
  split at this <;> omega⟩)
theorem figQ_ok {z s a c : Nat} {f : Nat → Int32} {ah : Int32} (hn : ¬ ah = -1) (ha : a ≤ 9) (e : vDig z f (nI s) = nI a) (h : ¬ 16 < a * 10) (hc : c ≤ 9) (e2 : vDig z f (nI (s + 1)) = nI c) (h2 : ¬ 16 < a * 10 + c) : FigP2 z f s ah (nI (a * 10 + c)) (s + 2) := Or.inr (Or.inr ⟨hn, (okD_of ha (by decide) (by decide) e).mpr ⟨by omega, by omega⟩, (okD_of hc hi2_le (by decide) e2).mpr ⟨by omega, by
  rw [hi2_of ha e]
  split <;> omega⟩, ⟨a, c, by omega, hc, e, e2, by rw [Nat.mul_comm]⟩, rfl⟩)
/-- what is allowed where a digit is wanted -/
theorem fig_yes {z s lo hi : Nat} {f : Nat → Int32} {cm mi : Int32} (hl : lo ≤ 9) (h9 : s < 2 ^ 31) (o : okD z f s lo hi) (h1 : vLeast cm mi = nI lo) (h2 : vGreat cm mi (vDig z f (nI s - 1)) = nI hi) (hm : ¬ mi ≤ 0) : tErr z f s cm mi = tErr z f (s + 1) cm (mi + -1) :=
  tErr_ok (okD_lt hl h9 o) hm ⟨by rw [h1]; exact o.1, by rw [h2]; exact o.2⟩
theorem fig_not {z s lo hi : Nat} {f : Nat → Int32} {cm mi : Int32} (hs : s ≤ z) (o : ¬ okD z f s lo hi) (h1 : vLeast cm mi = nI lo) (h2 : vGreat cm mi (vDig z f (nI s - 1)) = nI hi) (hm : ¬ mi ≤ 0) : tErr z f s cm mi = nI s := by
  rcases Nat.lt_or_ge s z with q | q
  · exact tErr_no q hm (fun a => o ⟨by rw [← h1]; exact a.1, by rw [← h2]; exact a.2⟩)
  · obtain rfl : s = z := by omega
    exact tErr_end hm
/-- the class's command at a place: whether it is done, and the hotel behind it -/
def vCmd (z : Nat) (f : Nat → Int32) (s : Nat) (x : HS) : Int32 × HS :=
  if vSign z f (nI s) = 103 then (if okC (hN x) (vDig z f (nI (s + 1))) (vDig z f (nI (s + 2))) (vDig z f (nI (s + 3))) (vDig z f (nI (s + 4))) then 1 else 0, hAdm (hN x) (vDig z f (nI (s + 1))) (vDig z f (nI (s + 2))) (vDig z f (nI (s + 3))) (vDig z f (nI (s + 4))) x)
  else if vSign z f (nI s) = 112 then (zb (hReas x (vDig z f (nI (s + 1))) = 0), hWill (hN x) x (vDig z f (nI (s + 1))))
  else if vSign z f (nI s) = 114 then (1, hRest (hN x) x)
  else if vSign z f (nI s) = 108 then (zb (¬ hGr x (vDig z f (nI (s + 1))) = -1), hLeave (hN x) x (vDig z f (nI (s + 1))))
  else if vSign z f (nI s) = 101 then (zb (¬ hSetR x (vDig z f (nI (s + 1))) (10 * vDig z f (nI (s + 2)) + vDig z f (nI (s + 3))) = -1), hSet (vDig z f (nI (s + 1))) (10 * vDig z f (nI (s + 2)) + vDig z f (nI (s + 3))) x)
  else if vSign z f (nI s) = 98 then (1, hWill (hN x) x (hBst (hN x) x))
  else (0, x)
/-- the commands of a text, from the left: how many are left out, and the hotel -/
def sLd (z : Nat) (f : Nat → Int32) : Nat → Int32 × HS → Int32 × HS := fun s y => if vDof (vSign z f (nI s)) = -1 then y else (if (vCmd z f s y.2).1 = 0 then y.1 + 1 else y.1, (vCmd z f s y.2).2)
theorem ld_skip {z : Nat} {f : Nat → Int32} : ∀ (k s : Nat) (y : Int32 × HS), (∀ i, i < k → vDof (vSign z f (nI (s + i))) = -1) → lpN (sLd z f) k s y = y
  | 0, s, y, h => rfl
  | k + 1, s, y, h => by
    show lpN (sLd z f) k (s + 1) (sLd z f s y) = y
    have e : sLd z f s y = y := by unfold sLd; rw [if_pos (show vDof (vSign z f (nI s)) = -1 from h 0 (by omega))]
    rw [e]
    exact ld_skip k (s + 1) y (fun i hi => by rw [show s + 1 + i = s + (i + 1) by omega]; exact h (i + 1) (by omega))
theorem ld_cmd {z s k : Nat} {f : Nat → Int32} {y : Int32 × HS} (h0 : ¬ vDof (vSign z f (nI s)) = -1) (h : ∀ i, i < k → vDof (vSign z f (nI (s + 1 + i))) = -1) : lpN (sLd z f) (k + 1) s y = (if (vCmd z f s y.2).1 = 0 then y.1 + 1 else y.1, (vCmd z f s y.2).2) := by
  show lpN (sLd z f) k (s + 1) (sLd z f s y) = _
  rw [ld_skip k (s + 1) _ h]
  unfold sLd
  rw [if_neg h0]
/-- one command of the reference: done, with what the class does; or what is wrong -/
abbrev RcP (z : Nat) (f : Nat → Int32) (s : Nat) (x : HS) (ou r : Int32) (u : Nat × Int32 × HS) : Prop :=
  (r = 1 ∧ s < u.1 ∧ u.1 ≤ z ∧ tErr z f s 0 0 = tErr z f u.1 0 0 ∧ ∃ x2, lpN (sLd z f) (u.1 - s) s (ou, x) = (u.2.1, x2) ∧ RelX x2 u.2.2) ∨ (r = 0 ∧ tErr z f s 0 0 = nI u.1 ∧ u.1 < 2 ^ 31)
theorem rc_nar {z s : Nat} {f : Nat → Int32} {x : HS} {ou r : Int32} {u : Nat × Int32 × HS} (h : RcP z f s x ou r u) : narrow .boolean (.int r) = .int r := by
  rcases h with ⟨h, -⟩ | ⟨h, -⟩ <;> rw [h] <;> rfl
theorem rc_bad {z s : Nat} {f : Nat → Int32} {x w : HS} {ou ou2 : Int32} (hz : z ≤ 120) (hs : s < z) (h : vDof (vSign z f (nI s)) = -1) : RcP z f s x ou 0 (s, ou2, w) := Or.inr ⟨rfl, tErr_bad hs h, show s < 2 ^ 31 by omega⟩
theorem rc_done {z s k : Nat} {f : Nat → Int32} {x w : HS} {ou ou2 : Int32} (he : tErr z f s 0 0 = tErr z f (s + 1 + k) 0 0) (hk : s + 1 + k ≤ z) (h0 : ¬ vDof (vSign z f (nI s)) = -1) (h : ∀ i, i < k → vDof (vSign z f (nI (s + 1 + i))) = -1) (ho : ou2 = if (vCmd z f s x).1 = 0 then ou + 1 else ou) (hR : RelX (vCmd z f s x).2 w) : RcP z f s x ou 1 (s + 1 + k, ou2, w) :=
  Or.inl ⟨rfl, by omega, hk, he, _, by rw [show s + 1 + k - s = k + 1 by omega, ld_cmd h0 h, ho], hR⟩
theorem relN_hN {n : Nat} {x w : HS} (hn : n ≤ 4) (h : RelN n x w) : hN x = n := by unfold hN; rw [h.1, nI_clamp (by omega)]
theorem dg {z s lo hi : Nat} {f : Nat → Int32} {cm mi m2 : Int32} (hl : lo ≤ 9) (h9 : s < 2 ^ 31) (o : okD z f s lo hi) (h1 : vLeast cm mi = nI lo) (h2 : vGreat cm mi (vDig z f (nI s - 1)) = nI hi) (hm : ¬ mi ≤ 0) (h3 : mi + -1 = m2) : tErr z f s cm mi = tErr z f (s + 1) cm m2 := by rw [← h3]; exact fig_yes hl h9 o h1 h2 hm
theorem cmd_1 {z s : Nat} {f : Nat → Int32} {cm k : Int32} (hs : s < z) (hg : vSign z f (nI s) = cm) (hk : vDof cm = k) (h : ¬ k = -1) : tErr z f s 0 0 = tErr z f (s + 1) cm k := by
  rw [tErr_cmd hs (by rw [hg, hk]; exact h), hg, hk]
section RCG
variable {z s : Nat} {f : Nat → Int32}
theorem rg_1 (hs : s < z) (hg : vSign z f (nI s) = 103) : tErr z f s 0 0 = tErr z f (s + 1) 103 4 := cmd_1 hs hg (by decide) (by decide)
theorem rg_2 (hz : z ≤ 120) (hs : s < z) (hg : vSign z f (nI s) = 103) (o1 : okD z f (s + 1) 0 6) : tErr z f s 0 0 = tErr z f (s + 2) 103 3 := (rg_1 hs hg).trans (dg (by decide) (by omega) o1 (by decide) rfl (by decide) (by decide))
theorem rg_3 (hz : z ≤ 120) (hs : s < z) (hg : vSign z f (nI s) = 103) (o1 : okD z f (s + 1) 0 6) (o2 : okD z f (s + 2) 0 6) : tErr z f s 0 0 = tErr z f (s + 3) 103 2 := (rg_2 hz hs hg o1).trans (dg (by decide) (by omega) o2 (by decide) rfl (by decide) (by decide))
theorem rg_4 (hz : z ≤ 120) (hs : s < z) (hg : vSign z f (nI s) = 103) (o1 : okD z f (s + 1) 0 6) (o2 : okD z f (s + 2) 0 6) (o3 : okD z f (s + 3) 0 6) : tErr z f s 0 0 = tErr z f (s + 4) 103 1 := (rg_3 hz hs hg o1 o2).trans (dg (by decide) (by omega) o3 (by decide) rfl (by decide) (by decide))
theorem rg_5 (hz : z ≤ 120) (hs : s < z) (hg : vSign z f (nI s) = 103) (o1 : okD z f (s + 1) 0 6) (o2 : okD z f (s + 2) 0 6) (o3 : okD z f (s + 3) 0 6) (o4 : okD z f (s + 4) 1 4) : tErr z f s 0 0 = tErr z f (s + 1 + 4) 0 0 := ((rg_4 hz hs hg o1 o2 o3).trans (dg (by decide) (by omega) o4 (by decide) rfl (by decide) (by decide))).trans (tErr_0 _ _)
theorem rgn_1 (hs : s < z) (hg : vSign z f (nI s) = 103) (o : ¬ okD z f (s + 1) 0 6) : tErr z f s 0 0 = nI (s + 1) := (rg_1 hs hg).trans (fig_not (by omega) o (by decide) rfl (by decide))
theorem rgn_2 (hz : z ≤ 120) (hs : s < z) (hg : vSign z f (nI s) = 103) (o1 : okD z f (s + 1) 0 6) (o : ¬ okD z f (s + 2) 0 6) : tErr z f s 0 0 = nI (s + 2) := (rg_2 hz hs hg o1).trans (fig_not (by have := okD_lt (by decide) (by omega) o1; omega) o (by decide) rfl (by decide))
theorem rgn_3 (hz : z ≤ 120) (hs : s < z) (hg : vSign z f (nI s) = 103) (o1 : okD z f (s + 1) 0 6) (o2 : okD z f (s + 2) 0 6) (o : ¬ okD z f (s + 3) 0 6) : tErr z f s 0 0 = nI (s + 3) := (rg_3 hz hs hg o1 o2).trans (fig_not (by have := okD_lt (by decide) (by omega) o2; omega) o (by decide) rfl (by decide))
theorem rgn_4 (hz : z ≤ 120) (hs : s < z) (hg : vSign z f (nI s) = 103) (o1 : okD z f (s + 1) 0 6) (o2 : okD z f (s + 2) 0 6) (o3 : okD z f (s + 3) 0 6) (o : ¬ okD z f (s + 4) 1 4) : tErr z f s 0 0 = nI (s + 4) := (rg_4 hz hs hg o1 o2 o3).trans (fig_not (by have := okD_lt (by decide) (by omega) o3; omega) o (by decide) rfl (by decide))
theorem rp_1 {cm : Int32} (hs : s < z) (hg : vSign z f (nI s) = cm) (hc : cm = 112 ∨ cm = 108) : tErr z f s 0 0 = tErr z f (s + 1) cm 1 := by
  rcases hc with rfl | rfl
  · exact cmd_1 hs hg (by decide) (by decide)
  · exact cmd_1 hs hg (by decide) (by decide)
theorem rp_2 {cm : Int32} (hz : z ≤ 120) (hs : s < z) (hg : vSign z f (nI s) = cm) (hc : cm = 112 ∨ cm = 108) (o1 : okD z f (s + 1) 0 3) : tErr z f s 0 0 = tErr z f (s + 1 + 1) 0 0 := by
  refine (rp_1 hs hg hc).trans ((dg (m2 := 0) (by decide) (by omega) o1 ?_ ?_ (by decide) (by decide)).trans (tErr_0 _ _))
  · rcases hc with rfl | rfl <;> decide
  · rcases hc with rfl | rfl <;> rfl
theorem rpn_1 {cm : Int32} (hs : s < z) (hg : vSign z f (nI s) = cm) (hc : cm = 112 ∨ cm = 108) (o : ¬ okD z f (s + 1) 0 3) : tErr z f s 0 0 = nI (s + 1) := by
  refine (rp_1 hs hg hc).trans (fig_not (by omega) o ?_ ?_ (by decide))
  · rcases hc with rfl | rfl <;> decide
  · rcases hc with rfl | rfl <;> rfl
theorem re_1 (hs : s < z) (hg : vSign z f (nI s) = 101) : tErr z f s 0 0 = tErr z f (s + 1) 101 3 := cmd_1 hs hg (by decide) (by decide)
theorem re_2 (hz : z ≤ 120) (hs : s < z) (hg : vSign z f (nI s) = 101) (o1 : okD z f (s + 1) 0 2) : tErr z f s 0 0 = tErr z f (s + 2) 101 2 := (re_1 hs hg).trans (dg (by decide) (by omega) o1 (by decide) rfl (by decide) (by decide))
theorem re_3 (hz : z ≤ 120) (hs : s < z) (hg : vSign z f (nI s) = 101) (o1 : okD z f (s + 1) 0 2) (o2 : okD z f (s + 2) 0 1) : tErr z f s 0 0 = tErr z f (s + 3) 101 1 := (re_2 hz hs hg o1).trans (dg (by decide) (by omega) o2 (by decide) rfl (by decide) (by decide))
theorem hi2_g : vGreat 101 1 (vDig z f (nI (s + 3) - 1)) = nI (hi2 z f (s + 2)) := by
  rw [nI_pred (s + 2)]
  show (if vDig z f (nI (s + 2)) = 1 then (6 : Int32) else 9) = _
  unfold hi2
  split <;> rfl
theorem re_4 (hz : z ≤ 120) (hs : s < z) (hg : vSign z f (nI s) = 101) (o1 : okD z f (s + 1) 0 2) (o2 : okD z f (s + 2) 0 1) (o3 : okD z f (s + 3) 0 (hi2 z f (s + 2))) : tErr z f s 0 0 = tErr z f (s + 1 + 3) 0 0 := ((re_3 hz hs hg o1 o2).trans (dg (m2 := 0) (by decide) (by omega) o3 (by decide) hi2_g (by decide) (by decide))).trans (tErr_0 _ _)
theorem ren_1 (hs : s < z) (hg : vSign z f (nI s) = 101) (o : ¬ okD z f (s + 1) 0 2) : tErr z f s 0 0 = nI (s + 1) := (re_1 hs hg).trans (fig_not (by omega) o (by decide) rfl (by decide))
theorem ren_2 (hz : z ≤ 120) (hs : s < z) (hg : vSign z f (nI s) = 101) (o1 : okD z f (s + 1) 0 2) (o : ¬ okD z f (s + 2) 0 1) : tErr z f s 0 0 = nI (s + 2) := (re_2 hz hs hg o1).trans (fig_not (by have := okD_lt (by decide) (by omega) o1; omega) o (by decide) rfl (by decide))
theorem ren_3 (hz : z ≤ 120) (hs : s < z) (hg : vSign z f (nI s) = 101) (o1 : okD z f (s + 1) 0 2) (o2 : okD z f (s + 2) 0 1) (o : ¬ okD z f (s + 3) 0 (hi2 z f (s + 2))) : tErr z f s 0 0 = nI (s + 3) := (re_3 hz hs hg o1 o2).trans (fig_not (by have := okD_lt (by decide) (by omega) o2; omega) o (by decide) hi2_g (by decide))
variable {n : Nat} {x w : HS} {ou : Int32}
theorem four {P : Nat → Prop} (h0 : P 0) (h1 : P 1) (h2 : P 2) (h3 : P 3) : ∀ i, i < 4 → P i := fun i hi => by
  rcases (show i = 0 ∨ i = 1 ∨ i = 2 ∨ i = 3 by omega) with q | q | q | q <;> subst q <;> assumption
theorem three {P : Nat → Prop} (h0 : P 0) (h1 : P 1) (h2 : P 2) : ∀ i, i < 3 → P i := fun i hi => by
  rcases (show i = 0 ∨ i = 1 ∨ i = 2 by omega) with q | q | q <;> subst q <;> assumption
theorem one {P : Nat → Prop} (h0 : P 0) : ∀ i, i < 1 → P i := fun i hi => by
  obtain rfl : i = 0 := by omega
  exact h0
theorem okF_6 {j : Nat} (h : j ≤ 6) : okF (nI j) := okF_nI (by omega)
theorem rc_g (hz : z ≤ 120) (hs : s < z) (hg : vSign z f (nI s) = 103) (hn : n ≤ 4) (hR : RelN n x w) (o1 : okD z f (s + 1) 0 6) (o2 : okD z f (s + 2) 0 6) (o3 : okD z f (s + 3) 0 6) (o4 : okD z f (s + 4) 1 4) {j1 j2 j3 j4 : Nat} (h1 : j1 ≤ 6) (h2 : j2 ≤ 6) (h3 : j3 ≤ 6) (h4 : 1 ≤ j4) (h5 : j4 ≤ 4) (e1 : vDig z f (nI (s + 1)) = nI j1) (e2 : vDig z f (nI (s + 2)) = nI j2) (e3 : vDig z f (nI (s + 3)) = nI j3) (e4 : vDig z f (nI (s + 4)) = nI j4) :
    (n < 4 → RcP z f s x ou 1 (s + 1 + 4, ou, hCome n (nI j1) (nI j2) (nI j3) (nI j4) w)) ∧ (4 ≤ n → RcP z f s x ou 1 (s + 1 + 4, ou + 1, w)) := by
  have e : vCmd z f s x = (if okC n (nI j1) (nI j2) (nI j3) (nI j4) then 1 else 0, hAdm n (nI j1) (nI j2) (nI j3) (nI j4) x) := by
    unfold vCmd
    rw [if_pos hg, e1, e2, e3, e4, relN_hN hn hR]
  have l4 := okD_lt (by decide) (by omega) o4
  have dd : ∀ i, i < 4 → vDof (vSign z f (nI (s + 1 + i))) = -1 := four (P := fun i => vDof (vSign z f (nI (s + 1 + i))) = -1) (okD_sign (by decide) o1) (okD_sign (by decide) o2) (okD_sign (by decide) o3) (okD_sign (by decide) o4)
  constructor
  · intro h
    have ok : okC n (nI j1) (nI j2) (nI j3) (nI j4) := ⟨okF_6 h1, okF_6 h2, okF_6 h3, okW_nI h4 h5, h⟩
    refine rc_done (rg_5 hz hs hg o1 o2 o3 o4) (by omega) (by rw [hg]; decide) dd ?_ ?_
    · rw [e, if_pos ok, if_neg (show ¬ (1 : Int32) = 0 by decide)]
    · rw [e]
      show RelX (hAdm n (nI j1) (nI j2) (nI j3) (nI j4) x) _
      rw [hAdm, if_pos ok]
      exact ⟨n + 1, h, relN_come hR ok.1 ok.2.1 ok.2.2.1⟩
  · intro h
    have ok : ¬ okC n (nI j1) (nI j2) (nI j3) (nI j4) := fun q => by have := q.2.2.2.2; omega
    refine rc_done (rg_5 hz hs hg o1 o2 o3 o4) (by omega) (by rw [hg]; decide) dd ?_ ?_
    · rw [e, if_neg ok, if_pos rfl]
    · rw [e]
      exact relX_full hn h hR
theorem rc_p (hz : z ≤ 120) (hs : s < z) (hg : vSign z f (nI s) = 112) (hn : n ≤ 4) (hR : RelN n x w) (o1 : okD z f (s + 1) 0 3) {j : Nat} (h1 : j ≤ 3) (e1 : vDig z f (nI (s + 1)) = nI j) :
    (j < n → hReas x (nI j) = 0 → RcP z f s x ou 1 (s + 1 + 1, ou, mPress n j w)) ∧ (¬ hReas x (nI j) = 0 → RcP z f s x ou 1 (s + 1 + 1, ou + 1, w)) := by
  have e : vCmd z f s x = (zb (hReas x (nI j) = 0), hWill n x (nI j)) := by
    unfold vCmd
    rw [hg, if_neg (by decide), if_pos rfl, e1, relN_hN hn hR]
  have l1 := okD_lt (by decide) (by omega) o1
  have dd : ∀ i, i < 1 → vDof (vSign z f (nI (s + 1 + i))) = -1 := one (P := fun i => vDof (vSign z f (nI (s + 1 + i))) = -1) (okD_sign (by decide) o1)
  constructor
  · intro hj h
    refine rc_done (rp_2 hz hs hg (Or.inl rfl) o1) (by omega) (by rw [hg]; decide) dd ?_ ?_
    · rw [e, if_neg (zb_ne.mpr h)]
    · rw [e]
      have q := relX_press hn hR hj
      unfold hPress at q
      show RelX (hWill n x (nI j)) _
      unfold hWill
      rw [if_pos h] at q ⊢
      exact q
  · intro h
    refine rc_done (rp_2 hz hs hg (Or.inl rfl) o1) (by omega) (by rw [hg]; decide) dd ?_ ?_
    · rw [e, if_pos (zb_eq.mpr h)]
    · rw [e]
      show RelX (hWill n x (nI j)) _
      unfold hWill
      rw [if_neg h]
      exact ⟨n, hn, hR⟩
theorem rc_l (hz : z ≤ 120) (hs : s < z) (hg : vSign z f (nI s) = 108) (hn : n ≤ 4) (hR : RelN n x w) (o1 : okD z f (s + 1) 0 3) {j : Nat} (h1 : j ≤ 3) (e1 : vDig z f (nI (s + 1)) = nI j) :
    (j < n → RcP z f s x ou 1 (s + 1 + 1, ou, hDis n j w)) ∧ (¬ isG (nI n) (nI j) → RcP z f s x ou 1 (s + 1 + 1, ou + 1, w)) := by
  have e : vCmd z f s x = (zb (¬ hGr x (nI j) = -1), hLeave n x (nI j)) := by
    unfold vCmd
    rw [hg, if_neg (by decide), if_neg (by decide), if_neg (by decide), if_pos rfl, e1, relN_hN hn hR]
  have l1 := okD_lt (by decide) (by omega) o1
  have dd : ∀ i, i < 1 → vDof (vSign z f (nI (s + 1 + i))) = -1 := one (P := fun i => vDof (vSign z f (nI (s + 1 + i))) = -1) (okD_sign (by decide) o1)
  constructor
  · intro hj
    have h : ¬ hGr x (nI j) = -1 := fun q => gr_nn hR hj (by rw [← gr_at hn hR hj, q]; decide)
    refine rc_done (rp_2 hz hs hg (Or.inr rfl) o1) (by omega) (by rw [hg]; decide) dd ?_ ?_
    · rw [e, if_neg (zb_ne.mpr h)]
    · rw [e]
      exact relX_dis hn hR hj
  · intro hj
    refine rc_done (rp_2 hz hs hg (Or.inr rfl) o1) (by omega) (by rw [hg]; decide) dd ?_ ?_
    · rw [e, if_pos (zb_eq.mpr (fun q => q (gr_no hR.1 hj)))]
    · rw [e]
      exact relX_ndis hn hR hj
theorem rc_e (hz : z ≤ 120) (hs : s < z) (hg : vSign z f (nI s) = 101) (hn : n ≤ 4) (hR : RelN n x w) (o1 : okD z f (s + 1) 0 2) (o2 : okD z f (s + 2) 0 1) (o3 : okD z f (s + 3) 0 (hi2 z f (s + 2))) {j a c : Nat} (h1 : j ≤ 2) (ha : a ≤ 1) (hc : c ≤ 9) (e1 : vDig z f (nI (s + 1)) = nI j) (e2 : vDig z f (nI (s + 2)) = nI a) (e3 : vDig z f (nI (s + 3)) = nI c) :
    (okSV (nI j) (nI (10 * a + c)) → RcP z f s x ou 1 (s + 1 + 3, ou, mSetS j (nI (10 * a + c)) w)) ∧ (¬ okSV (nI j) (nI (10 * a + c)) → RcP z f s x ou 1 (s + 1 + 3, ou + 1, w)) := by
  have e10 : 10 * nI a + nI c = nI (10 * a + c) := by
    show nI 10 * nI a + nI c = _
    rw [pk_mul, nI_add]
  have e : vCmd z f s x = (zb (¬ hSetR x (nI j) (nI (10 * a + c)) = -1), hSet (nI j) (nI (10 * a + c)) x) := by
    unfold vCmd
    rw [hg, if_neg (by decide), if_neg (by decide), if_neg (by decide), if_neg (by decide), if_pos rfl, e1, e2, e3, e10]
  have l1 := okD_lt (lo := 0) (by decide) (by omega) o3
  have dd : ∀ i, i < 3 → vDof (vSign z f (nI (s + 1 + i))) = -1 := three (P := fun i => vDof (vSign z f (nI (s + 1 + i))) = -1) (okD_sign (by decide) o1) (okD_sign (by decide) o2) (okD_sign (lo := 0) (by decide) o3)
  have cl : (nI j).toNatClampNeg = j := nI_clamp (by omega)
  constructor
  · intro h
    have hh : ¬ hSetR x (nI j) (nI (10 * a + c)) = -1 := fun q => by
      rw [hSetR, if_pos h, cl, hR.2.1.2.1] at q
      exact sg_nn hR (show j < 3 by omega) (by rw [q]; decide)
    refine rc_done (re_4 hz hs hg o1 o2 o3) (by omega) (by rw [hg]; decide) dd ?_ ?_
    · rw [e, if_neg (zb_ne.mpr hh)]
    · rw [e]
      have q := relX_set hn hR h
      rw [cl] at q
      exact q
  · intro h
    refine rc_done (re_4 hz hs hg o1 o2 o3) (by omega) (by rw [hg]; decide) dd ?_ ?_
    · rw [e, if_pos (zb_eq.mpr (fun q => q (by rw [hSetR, if_neg h])))]
    · rw [e]
      show RelX (hSet (nI j) (nI (10 * a + c)) x) _
      rw [hSet, if_neg h]
      exact ⟨n, hn, hR⟩
theorem none' {P : Nat → Prop} : ∀ i, i < 0 → P i := fun i hi => absurd hi (Nat.not_lt_zero i)
theorem rc_r (hs : s < z) (hg : vSign z f (nI s) = 114) (hn : n ≤ 4) (hR : RelN n x w) : RcP z f s x ou 1 (s + 1 + 0, ou, mRest n w) := by
  have e : vCmd z f s x = (1, hRest n x) := by
    unfold vCmd
    rw [hg, if_neg (by decide), if_neg (by decide), if_pos rfl, relN_hN hn hR]
  refine rc_done ((cmd_1 hs hg (k := 0) (by decide) (by decide)).trans (tErr_0 _ _)) (by omega) (by rw [hg]; decide) none' ?_ ?_
  · rw [e, if_neg (show ¬ (1 : Int32) = 0 by decide)]
  · rw [e]; exact ⟨n, hn, relN_rest hR⟩
theorem best_some {n k : Nat} {x : HS} : ∀ m i, i + m ≤ n → lpE (sBest n k x) (fun _ => -1) m i () = -1 ∨ ∃ g, g < n ∧ lpE (sBest n k x) (fun _ => -1) m i () = nI g ∧ hReas x (nI g) = 0 := by
  intro m
  induction m with
  | zero => exact fun i _ => Or.inl rfl
  | succ m ih =>
    intro i hi
    by_cases h : hReas x (nI i) = 0 ∧ dfsB n k (hGo n i x) = true
    · exact Or.inr ⟨i, by omega, by simp only [lpE, sBest_yes h.1 h.2], h.1⟩
    · simp only [lpE, sBest_no h]
      exact ih (i + 1) (by omega)
theorem best_will {n : Nat} {x : HS} (h : ¬ hBst n x = -1) : ∃ g, g < n ∧ hBst n x = nI g ∧ hReas x (nI g) = 0 := by
  unfold hBst at h ⊢
  by_cases q : 0 < hFew n x
  · rw [if_pos q] at h ⊢
    rcases best_some (n := n) (k := (hFew n x - 1).toNatClampNeg) (x := x) n 0 (by omega) with a | a
    · exact absurd a h
    · exact a
  · rw [if_neg q] at h; exact absurd rfl h
theorem rc_b (hs : s < z) (hg : vSign z f (nI s) = 98) (hn : n ≤ 4) (hR : RelN n x w) :
    (∀ g, g < n → hBst n x = nI g → hReas x (nI g) = 0 → RcP z f s x ou 1 (s + 1 + 0, ou, mPress n g w)) ∧ (hBst n x = -1 → RcP z f s x ou 1 (s + 1 + 0, ou, w)) := by
  have e : vCmd z f s x = (1, hWill n x (hBst n x)) := by
    unfold vCmd
    rw [hg, if_neg (by decide), if_neg (by decide), if_neg (by decide), if_neg (by decide), if_neg (by decide), if_pos rfl, relN_hN hn hR]
  constructor
  · intro g hj eb h
    refine rc_done ((cmd_1 hs hg (k := 0) (by decide) (by decide)).trans (tErr_0 _ _)) (by omega) (by rw [hg]; decide) none' ?_ ?_
    · rw [e, if_neg (show ¬ (1 : Int32) = 0 by decide)]
    · rw [e, eb]
      have q := relX_press hn hR hj
      unfold hPress at q
      show RelX (hWill n x (nI g)) _
      unfold hWill
      rw [if_pos h] at q ⊢
      exact q
  · intro eb
    refine rc_done ((cmd_1 hs hg (k := 0) (by decide) (by decide)).trans (tErr_0 _ _)) (by omega) (by rw [hg]; decide) none' ?_ ?_
    · rw [e, if_neg (show ¬ (1 : Int32) = 0 by decide)]
    · rw [e, eb]
      show RelX (hWill n x (-1)) _
      unfold hWill
      rw [reas_no hR.1 (fun q => q.1 (by decide)), if_neg (by decide)]
      exact ⟨n, hn, hR⟩
end RCG
/-- the grudges of all guests together are a natural number -/
theorem ag_nat {n : Nat} {x : HS} (h : okX n x) : ∃ k : Nat, k ≤ 9 * n ∧ hAG n x = nI k := by
  obtain ⟨nn, ⟨sg, bu, wa, ho, we, st, gr, po, ri⟩⟩ := x
  have key : ∀ m i a, i + m ≤ n → ∃ k : Nat, k ≤ a + 9 * m ∧ lpN (sAG gr) m i (nI a) = nI k := by
    intro m
    induction m with
    | zero => exact fun i a _ => ⟨a, by omega, rfl⟩
    | succ m ih =>
      intro i a hi
      obtain ⟨c, hc, ec⟩ := (h.2 i (by omega)).2.2
      have ec : gr i = nI c := ec
      obtain ⟨k, hk, ek⟩ := ih (i + 1) (a + c) (by omega)
      refine ⟨k, by omega, ?_⟩
      show lpN (sAG gr) m (i + 1) (nI a + gr i) = _
      rw [ec, nI_add]
      exact ek
  obtain ⟨k, hk, e⟩ := key n 0 0 (by omega)
  exact ⟨k, by omega, e⟩
theorem agM_nn {n : Nat} {x w : HS} (hn : n ≤ 4) (h : RelN n x w) : ¬ hAG n w < 0 := by
  rw [rel_ag h.2.1]
  obtain ⟨k, hk, e⟩ := ag_nat h.2.2.1
  rw [e]
  exact nI_pos (by omega)
/-- reading a text whole -/
def vLd (z : Nat) (f : Nat → Int32) : Int32 × HS := lpN (sLd z f) (z - 1) 1 (0, hot0)
abbrev RtP (z : Nat) (f : Nat → Int32) (r : Int32) (u : Int32 × Int32 × HS × HS) : Prop := r = vErr z f ∧ (vErr z f = -1 → RelX (vLd z f).2 u.2.2.1 ∧ u.2.1 = (vLd z f).1)
theorem rt_no {z : Nat} {f : Nat → Int32} {u : Int32 × Int32 × HS × HS} (h : ¬ vSign z f 0 = 72) : RtP z f 0 u := by
  have e : vErr z f = 0 := by unfold vErr; rw [if_neg h]
  rw [RtP, e]
  exact ⟨rfl, fun q => absurd q (by decide)⟩
theorem err_t {z : Nat} {f : Nat → Int32} (h : vSign z f 0 = 72) : vErr z f = tErr z f 1 0 0 := by
  unfold vErr
  rw [if_pos h]
  exact tErr_0 (-1) 0
theorem rt_bad {z s : Nat} {f : Nat → Int32} {u : Int32 × Int32 × HS × HS} {p : Nat} (h : vSign z f 0 = 72) (hv : tErr z f s 0 0 = tErr z f 1 0 0) (e : tErr z f s 0 0 = nI p) (hp : p < 2 ^ 31) : RtP z f (nI p) u := by
  have e2 : vErr z f = nI p := by rw [err_t h, ← hv, e]
  rw [RtP, e2]
  exact ⟨rfl, fun q => absurd q (ne_m1 hp)⟩
theorem rt_ok {z s : Nat} {f : Nat → Int32} {u : Int32 × Int32 × HS × HS} {x : HS} (h : vSign z f 0 = 72) (hs : s ≤ z) (hz : z ≤ s) (hv : tErr z f s 0 0 = tErr z f 1 0 0) (hl : lpN (sLd z f) (z - s) s (u.2.1, x) = vLd z f) (hR : RelX x u.2.2.1) : RtP z f (-1) u := by
  obtain rfl : s = z := by omega
  have e2 : vErr s f = -1 := by rw [err_t h, ← hv]; exact tErr_fin
  rw [RtP, e2]
  refine ⟨rfl, fun _ => ?_⟩
  rw [Nat.sub_self] at hl
  rw [← hl]
  exact ⟨hR, rfl⟩
theorem ld_on {z s s2 : Nat} {f : Nat → Int32} {y y2 : Int32 × HS} {X : Int32 × HS} (h1 : s < s2) (h2 : s2 ≤ z) (hl : lpN (sLd z f) (z - s) s y = X) (h : lpN (sLd z f) (s2 - s) s y = y2) : lpN (sLd z f) (z - s2) s2 y2 = X := by
  rw [← hl, ← h, show z - s = (s2 - s) + (z - s2) by omega, lpN_add, show s + (s2 - s) = s2 by omega]
