/-! what a press depends on, and what it keeps -/
theorem lpN_inv {α : Type} {f : Nat → α → α} {n : Nat} (P : α → Prop) (hs : ∀ i y, i < n → P y → P (f i y)) : ∀ (k i : Nat) (x : α), i + k ≤ n → P x → P (lpN f k i x)
  | 0, _, _, _, h => h
  | k + 1, i, x, hk, h => lpN_inv P hs k (i + 1) (f i x) (by omega) (hs i x (by omega) h)
theorem lpN_rel {α β : Type} {f : Nat → α → α} {g : Nat → β → β} {n : Nat} (P : α → β → Prop) (hs : ∀ i y z, i < n → P y z → P (f i y) (g i z)) : ∀ (k i : Nat) (x : α) (y : β), i + k ≤ n → P x y → P (lpN f k i x) (lpN g k i y)
  | 0, _, _, _, _, h => h
  | k + 1, i, x, y, hk, h => lpN_rel P hs k (i + 1) (f i x) (g i y) (by omega) (hs i x y (by omega) h)
theorem Co_pr {j : Nat} {x : HS} : Co (hPr j x) x := by
  obtain ⟨⟨gu, fl, se, pr, re, go, ch⟩, ⟨sg, bu, wa, ho, we, st, gr, po, ri⟩⟩ := x
  exact ⟨rfl, rfl, rfl, rfl, rfl, rfl, rfl, rfl, rfl⟩
theorem Co_tv {n : Nat} {t : Int32} {x y : HS} (h : Co x y) : Co (hTv n t x) (hTv n t y) := by
  obtain ⟨⟨gu, fl, se, pr, re, go, ch⟩, ⟨sg, bu, wa, ho, we, st, gr, po, ri⟩⟩ := x
  obtain ⟨⟨gu2, fl2, se2, pr2, re2, go2, ch2⟩, ⟨sg2, bu2, wa2, ho2, we2, st2, gr2, po2, ri2⟩⟩ := y
  obtain ⟨h1, h2, h3, h4, h5, h6, h7, h8, h9⟩ := h
  simp only at h1 h2 h3 h4 h5 h6 h7 h8 h9
  subst h1; subst h2; subst h3; subst h4; subst h5; subst h6; subst h7; subst h8; subst h9
  have k := lpN_rel (n := n) (f := sTv (vLo t fl) (vHi t fl) (vHi t fl - vLo t fl) st ho wa) (g := sTv (vLo t fl) (vHi t fl) (vHi t fl - vLo t fl) st ho wa) (fun (a b : (Nat → Int32) × (Nat → Int32)) => a.1 = b.1) (fun i a b _ q => by simp only [sTv, q]) n 0 (gr, ri) (gr, ri2) (by omega) rfl
  exact ⟨rfl, rfl, rfl, rfl, rfl, rfl, rfl, rfl, k⟩
theorem Co_out {n : Nat} {x y : HS} (h : Co x y) : Co (hOut n x) (hOut n y) := by
  obtain ⟨⟨gu, fl, se, pr, re, go, ch⟩, ⟨sg, bu, wa, ho, we, st, gr, po, ri⟩⟩ := x
  obtain ⟨⟨gu2, fl2, se2, pr2, re2, go2, ch2⟩, ⟨sg2, bu2, wa2, ho2, we2, st2, gr2, po2, ri2⟩⟩ := y
  obtain ⟨h1, h2, h3, h4, h5, h6, h7, h8, h9⟩ := h
  simp only at h1 h2 h3 h4 h5 h6 h7 h8 h9
  subst h1; subst h2; subst h3; subst h4; subst h5; subst h6; subst h7; subst h8; subst h9
  have k := lpN_rel (n := n) (f := sOut fl ho) (g := sOut fl ho) (fun (a b : Int32 × (Nat → Int32) × (Nat → Int32)) => a.2 = b.2) (fun i a b _ q => by
    simp only [sOut, q]
    split
    · split
      · rfl
      · exact q
    · exact q) n 0 (ch, st, gr) (ch2, st, gr) (by omega) rfl
  have ka := congrArg Prod.fst k
  have kb := congrArg Prod.snd k
  exact ⟨rfl, rfl, rfl, rfl, rfl, rfl, rfl, ka, kb⟩
theorem Co_in {n : Nat} {x y : HS} (h : Co x y) : Co (hIn n x) (hIn n y) := by
  obtain ⟨⟨gu, fl, se, pr, re, go, ch⟩, ⟨sg, bu, wa, ho, we, st, gr, po, ri⟩⟩ := x
  obtain ⟨⟨gu2, fl2, se2, pr2, re2, go2, ch2⟩, ⟨sg2, bu2, wa2, ho2, we2, st2, gr2, po2, ri2⟩⟩ := y
  obtain ⟨h1, h2, h3, h4, h5, h6, h7, h8, h9⟩ := h
  simp only at h1 h2 h3 h4 h5 h6 h7 h8 h9
  subst h1; subst h2; subst h3; subst h4; subst h5; subst h6; subst h7; subst h8; subst h9
  exact ⟨rfl, rfl, rfl, rfl, rfl, rfl, rfl, rfl, rfl⟩
theorem Co_go {n j : Nat} {x y : HS} (h : Co x y) : Co (hGo n j x) (hGo n j y) := by
  unfold hGo
  rw [h.2.2.2.1]
  exact Co_in (Co_out (Co_tv ((Co_pr.tr h).tr Co_pr.sy)))
theorem Co_reas {x y : HS} {g : Int32} (h : Co x y) : hReas x g = hReas y g := by
  obtain ⟨⟨gu, fl, se, pr, re, go, ch⟩, ⟨sg, bu, wa, ho, we, st, gr, po, ri⟩⟩ := x
  obtain ⟨⟨gu2, fl2, se2, pr2, re2, go2, ch2⟩, ⟨sg2, bu2, wa2, ho2, we2, st2, gr2, po2, ri2⟩⟩ := y
  obtain ⟨h1, h2, h3, h4, h5, h6, h7, h8, h9⟩ := h
  simp only at h1 h2 h3 h4 h5 h6 h7 h8 h9
  subst h1; subst h2; subst h3; subst h4; subst h5; subst h6; subst h7; subst h8; subst h9
  rfl
theorem Co_gi {n : Nat} {x y : HS} {w : Int32} (h : Co x y) : hGI n x w = hGI n y w := by
  obtain ⟨⟨gu, fl, se, pr, re, go, ch⟩, ⟨sg, bu, wa, ho, we, st, gr, po, ri⟩⟩ := x
  obtain ⟨⟨gu2, fl2, se2, pr2, re2, go2, ch2⟩, ⟨sg2, bu2, wa2, ho2, we2, st2, gr2, po2, ri2⟩⟩ := y
  obtain ⟨h1, h2, h3, h4, h5, h6, h7, h8, h9⟩ := h
  simp only at h1 h2 h3 h4 h5 h6 h7 h8 h9
  subst h8
  rfl
theorem Co_pos {n : Nat} {x y : HS} (h : Co x y) : hPos n x = hPos n y := by
  obtain ⟨⟨gu, fl, se, pr, re, go, ch⟩, ⟨sg, bu, wa, ho, we, st, gr, po, ri⟩⟩ := x
  obtain ⟨⟨gu2, fl2, se2, pr2, re2, go2, ch2⟩, ⟨sg2, bu2, wa2, ho2, we2, st2, gr2, po2, ri2⟩⟩ := y
  obtain ⟨h1, h2, h3, h4, h5, h6, h7, h8, h9⟩ := h
  simp only at h1 h2 h3 h4 h5 h6 h7 h8 h9
  subst h2; subst h8; subst h9
  rfl
/-- the small numbers of a hotel: floors, states, grudges -/
def okX (n : Nat) (x : HS) : Prop := (∃ a : Nat, a < 7 ∧ x.1.2.1 = nI a) ∧ ∀ g : Nat, g < n → (∃ a : Nat, a < 7 ∧ x.2.2.1 g = nI a) ∧ (∃ a : Nat, a < 3 ∧ x.2.2.2.2.2.2.1 g = nI a) ∧ (∃ a : Nat, a < 10 ∧ x.2.2.2.2.2.2.2.1 g = nI a)
theorem okX.p {n : Nat} {x : HS} (h : okX n x) : okP n x := by
  obtain ⟨⟨a, ha, ea⟩, h2⟩ := h
  refine ⟨⟨a, by omega, ea⟩, fun g hg => ?_⟩
  obtain ⟨-, ⟨b, hb, eb⟩, c, hc, ec⟩ := h2 g hg
  exact ⟨⟨b, by omega, eb⟩, c, by omega, ec⟩
theorem okX.co {n : Nat} {x y : HS} (h : okX n x) (k : Co x y) : okX n y := by
  obtain ⟨k1, k2, k3, k4, k5, k6, k7, k8, k9⟩ := k
  unfold okX
  rw [← k2, ← k4, ← k8, ← k9]
  exact h
abbrev smallR (n m : Nat) (f : Nat → Int32) : Prop := ∀ g : Nat, g < n → ∃ a : Nat, a < m ∧ f g = nI a
theorem small_upd {n m i : Nat} {f : Nat → Int32} {v : Int32} (h : smallR n m f) (hv : ∃ a : Nat, a < m ∧ v = nI a) : smallR n m (upd f i v) := by
  intro g hg
  unfold upd
  split
  · exact hv
  · exact h g hg
theorem small_add {n i : Nat} {f : Nat → Int32} (hi : i < n) (h : smallR n 10 f) : smallR n 10 (vAdd f i) := by
  unfold vAdd
  split
  · exact h
  · rename_i q
    refine small_upd h ?_
    obtain ⟨a, ha, ea⟩ := h i hi
    rw [ea] at q ⊢
    refine ⟨a + 1, ?_, nI_1 a⟩
    rcases Nat.lt_or_ge a 9 with z | z
    · omega
    · exact absurd (nI_le (a := 9) z (by omega)) q
theorem upd_ne {f : Nat → Int32} {i g : Nat} {v : Int32} (h : g ≠ i) : upd f i v g = f g := by unfold upd; rw [if_neg h]
theorem vAdd_ne {f : Nat → Int32} {i g : Nat} (h : g ≠ i) : vAdd f i g = f g := by
  unfold vAdd
  split
  · rfl
  · exact upd_ne h
theorem go_keep {n j : Nat} {x : HS} (hj : j < n) (hx : okX n x) : Fr n x (hGo n j x) ∧ okX n (hGo n j x) := by
  obtain ⟨⟨gu, fl, se, pr, re, go, ch⟩, ⟨sg, bu, wa, ho, we, st, gr, po, ri⟩⟩ := x
  obtain ⟨-, h2⟩ := hx
  simp only at h2
  -- the floors that are passed
  obtain ⟨t, ht⟩ : ∃ t, t = bu j := ⟨_, rfl⟩
  have k1 := lpN_inv (n := n) (f := sTv (vLo t fl) (vHi t fl) (vHi t fl - vLo t fl) st ho wa) (fun (a : (Nat → Int32) × (Nat → Int32)) => smallR n 10 a.1 ∧ ∀ g, n ≤ g → a.1 g = gr g) (fun i a hi q => by
    simp only [sTv]
    split
    · exact q
    · split
      · exact q
      · exact ⟨small_add hi q.1, fun g hg => (vAdd_ne (by omega)).trans (q.2 g hg)⟩) n 0 (gr, ri) (by omega) ⟨fun g hg => (h2 g hg).2.2, fun _ _ => rfl⟩
  generalize hg1 : lpN (sTv (vLo t fl) (vHi t fl) (vHi t fl - vLo t fl) st ho wa) n 0 (gr, ri) = y1 at k1
  have k2 := lpN_inv (n := n) (f := sOut t ho) (fun (a : Int32 × (Nat → Int32) × (Nat → Int32)) => (smallR n 3 a.2.1 ∧ ∀ g, n ≤ g → a.2.1 g = st g) ∧ smallR n 10 a.2.2 ∧ ∀ g, n ≤ g → a.2.2 g = gr g) (fun i a hi q => by
    simp only [sOut]
    split
    · split
      · exact ⟨⟨small_upd q.1.1 ⟨2, by decide, rfl⟩, fun g hg => (upd_ne (by omega)).trans (q.1.2 g hg)⟩, small_upd q.2.1 ⟨0, by decide, rfl⟩, fun g hg => (upd_ne (by omega)).trans (q.2.2 g hg)⟩
      · exact q
    · exact q) n 0 (ch, st, y1.1) (by omega) ⟨⟨fun g hg => (h2 g hg).2.1, fun _ _ => rfl⟩, k1⟩
  generalize hg2 : lpN (sOut t ho) n 0 (ch, st, y1.1) = y2 at k2
  have k3 := lpN_inv (n := n) (f := sIn t (sg 0) wa we) (fun (a : Int32 × (Nat → Int32) × (Nat → Int32)) => (smallR n 3 a.2.1 ∧ ∀ g, n ≤ g → a.2.1 g = st g) ∧ smallR n 10 a.2.2 ∧ ∀ g, n ≤ g → a.2.2 g = gr g) (fun i a hi q => by
    simp only [sIn]
    split
    · split
      · split
        · exact ⟨q.1, small_add hi q.2.1, fun g hg => (vAdd_ne (by omega)).trans (q.2.2 g hg)⟩
        · exact ⟨⟨small_upd q.1.1 ⟨1, by decide, rfl⟩, fun g hg => (upd_ne (by omega)).trans (q.1.2 g hg)⟩, small_upd q.2.1 ⟨0, by decide, rfl⟩, fun g hg => (upd_ne (by omega)).trans (q.2.2 g hg)⟩
      · exact q
    · exact q) n 0 (lpN (sWR y2.2.1 we) n 0 0, y2.2.1, y2.2.2) (by omega) k2
  generalize hg3 : lpN (sIn t (sg 0) wa we) n 0 (lpN (sWR y2.2.1 we) n 0 0, y2.2.1, y2.2.2) = y3 at k3
  have e : hGo n j ((gu, fl, se, pr, re, go, ch), (sg, bu, wa, ho, we, st, gr, po, ri)) = ((gu, t, se + ((vHi t fl - vLo t fl) * sg 2 + 5), pr + 1, re, go + (vHi t fl - vLo t fl), y2.1), (sg, bu, wa, ho, we, y3.2.1, y3.2.2, upd po j (po j + 1), y1.2)) := by
    show hIn n (hOut n (hTv n (bu j) (hPr j _))) = _
    rw [← ht]
    simp only [hPr, hTv, hg1, hOut, hg2, hIn, hg3]
  rw [e]
  refine ⟨⟨rfl, rfl, rfl, rfl, rfl, rfl, fun g hg => (k3.1.2 g hg).symm, fun g hg => (k3.2.2 g hg).symm⟩, ⟨?_, fun g hg => ⟨(h2 g hg).1, k3.1.1 g hg, k3.2.1 g hg⟩⟩⟩
  obtain ⟨a, ha, ea⟩ := (h2 j hj).1
  exact ⟨a, ha, ht.trans ea⟩
/-- whether some row of k presses that are not refused brings all home -/
def dfsB (n : Nat) : Nat → HS → Bool
  | 0, x => decide (hGI n x 2 = x.1.1)
  | k + 1, x => (List.range n).any (fun g => decide (hReas x (nI g) = 0) && dfsB n k (hGo n g x))
theorem Co_dfs {n : Nat} : ∀ {k : Nat} {x y : HS}, Co x y → dfsB n k x = dfsB n k y
  | 0, x, y, h => by simp only [dfsB, Co_gi h, h.1]
  | k + 1, x, y, h => by
    simp only [dfsB]
    congr 1
    funext g
    rw [Co_reas h, Co_dfs (Co_go h)]
theorem dfs_yes {n k g : Nat} {x : HS} (hg : g < n) (h1 : hReas x (nI g) = 0) (h2 : dfsB n k (hGo n g x) = true) : dfsB n (k + 1) x = true := by
  simp only [dfsB, List.any_eq_true]
  exact ⟨g, List.mem_range.mpr hg, by rw [h1, h2]; rfl⟩
theorem dfs_no {n k : Nat} {x : HS} (h : ∀ g, g < n → ¬ (hReas x (nI g) = 0 ∧ dfsB n k (hGo n g x) = true)) : ¬ dfsB n (k + 1) x = true := by
  simp only [dfsB, List.any_eq_true]
  rintro ⟨g, hg, q⟩
  simp only [Bool.and_eq_true, decide_eq_true_eq] at q
  exact h g (List.mem_range.mp hg) q
