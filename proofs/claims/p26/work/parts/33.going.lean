theorem in_rel {n : Nat} {t mx : Int32} {wa wb we st gr : Nat → Int32} (hw : ∀ g, g < n → st g = 0 → wb g = wa g) (hgr : smallR n 10 gr) : (lpN (sIn t mx wa we) n 0 (lpN (sWR st we) n 0 0, st, gr)).2 = lpN (sInM t mx wb we n) n 0 (st, gr) ∧ ∀ g, (lpN (sIn t mx wa we) n 0 (lpN (sWR st we) n 0 0, st, gr)).2.1 g = st g ∨ (st g = 0 ∧ wa g = t ∧ (lpN (sIn t mx wa we) n 0 (lpN (sWR st we) n 0 0, st, gr)).2.1 g = 1) := by
  have k := lpN_rel (n := n) (f := sIn t mx wa we) (g := sInM t mx wb we n) (fun (a : Int32 × (Nat → Int32) × (Nat → Int32)) (b : (Nat → Int32) × (Nat → Int32)) => a.2 = b ∧ a.1 = lpN (sWR a.2.1 we) n 0 0 ∧ smallR n 10 a.2.2 ∧ ∀ g, a.2.1 g = st g ∨ (st g = 0 ∧ wa g = t ∧ a.2.1 g = 1)) (fun i a b hi q => by
    obtain ⟨rfl, q2, q3, q4⟩ := q
    obtain ⟨rw1, s1, g1⟩ := a
    simp only at q2 q3 q4
    by_cases h0 : s1 i = 0
    · have hs : st i = 0 := by
        rcases q4 i with z | ⟨-, -, z⟩
        · exact z.symm.trans h0
        · rw [h0] at z; exact absurd z (by decide)
      have hwi := hw i hi hs
      by_cases h1 : wa i = t
      · by_cases h2 : mx < rw1 + we i
        · have e1 : sIn t mx wa we i (rw1, s1, g1) = (rw1, s1, vAdd g1 i) := by simp only [sIn, if_pos h0, if_pos h1, if_pos h2]
          have e2 : sInM t mx wb we n i (s1, g1) = (s1, vAddM g1 i) := by simp only [sInM, if_pos h0, hwi, if_pos h1, ← q2, if_pos h2]
          have e3 : vAdd g1 i = vAddM g1 i := by
            funext g
            rw [vAdd_v, vAddM_v, addAB (q3 i hi)]
          rw [e1, e2]
          exact ⟨by rw [e3], q2, small_add hi q3, q4⟩
        · have e1 : sIn t mx wa we i (rw1, s1, g1) = (rw1 + we i, upd s1 i 1, upd g1 i 0) := by simp only [sIn, if_pos h0, if_pos h1, if_neg h2]
          have e2 : sInM t mx wb we n i (s1, g1) = (upd s1 i 1, upd g1 i 0) := by simp only [sInM, if_pos h0, hwi, if_pos h1, ← q2, if_neg h2]
          rw [e1, e2]
          refine ⟨rfl, ?_, small_upd q3 ⟨0, by decide, rfl⟩, fun g => ?_⟩
          · show rw1 + we i = lpN (sWR (upd s1 i 1) we) n 0 0
            rw [sum_in (by rw [h0]; decide), if_pos (by omega), q2]
          · show upd s1 i 1 g = st g ∨ (st g = 0 ∧ wa g = t ∧ upd s1 i 1 g = 1)
            rw [upd_v]
            by_cases hg : g = i
            · subst hg
              exact Or.inr ⟨hs, h1, if_pos rfl⟩
            · rw [if_neg hg]; exact q4 g
      · have e1 : sIn t mx wa we i (rw1, s1, g1) = (rw1, s1, g1) := by simp only [sIn, if_pos h0, if_neg h1]
        have e2 : sInM t mx wb we n i (s1, g1) = (s1, g1) := by simp only [sInM, if_pos h0, hwi, if_neg h1]
        rw [e1, e2]
        exact ⟨rfl, q2, q3, q4⟩
    · have e1 : sIn t mx wa we i (rw1, s1, g1) = (rw1, s1, g1) := by simp only [sIn, if_neg h0]
      have e2 : sInM t mx wb we n i (s1, g1) = (s1, g1) := by simp only [sInM, if_neg h0]
      rw [e1, e2]
      exact ⟨rfl, q2, q3, q4⟩) n 0 (lpN (sWR st we) n 0 0, st, gr) (st, gr) (by omega) ⟨rfl, rfl, hgr, fun _ => Or.inl rfl⟩
  exact ⟨k.1, k.2.2.2⟩
theorem out_v {fl : Int32} {ho : Nat → Int32} (k i : Nat) (x : Int32 × (Nat → Int32) × (Nat → Int32)) (g : Nat) : (lpN (sOut fl ho) k i x).2.1 g = if i ≤ g ∧ g < i + k then (if x.2.1 g = 1 then (if ho g = fl then 2 else x.2.1 g) else x.2.1 g) else x.2.1 g :=
  lpN_pt (fun y => y.2.1) (fun g a => if a = 1 then (if ho g = fl then 2 else a) else a) (fun i y g => by
    have same : y.2.1 g = if g = i then y.2.1 i else y.2.1 g := by
      split
      · rename_i q; rw [q]
      · rfl
    simp only [sOut]
    by_cases h1 : y.2.1 i = 1
    · rw [if_pos h1, if_pos h1]
      by_cases h2 : ho i = fl
      · rw [if_pos h2, if_pos h2]; exact upd_v
      · rw [if_neg h2, if_neg h2]; exact same
    · rw [if_neg h1, if_neg h1]; exact same) k i x g
theorem rel_go {n j : Nat} {x y : HS} (h : Rel n x y) (hx : okX n x) (hj : j < n) : Rel n (hGo n j x) (mGo n j y) := by
  obtain ⟨⟨gu, fl, se, pr, re, go, ch⟩, ⟨sg, bu, wa, ho, we, st, gr, po, ri⟩⟩ := x
  obtain ⟨⟨gu2, fl2, se2, pr2, re2, go2, ch2⟩, ⟨sg2, bu2, wb, ho2, we2, st2, gr2, po2, ri2⟩⟩ := y
  obtain ⟨h1, h2, h3, h4, h5, h6, h7, h8, h9, hat⟩ := h
  simp only at h1 h2 h3 h4 h5 h6 h7 h8 h9 hat
  cases h1; subst h2; subst h3; subst h4; subst h5; subst h6; subst h7; subst h8; subst h9
  obtain ⟨⟨F, hF, eF⟩, hx2⟩ := hx
  simp only at eF hx2
  subst eF
  obtain ⟨T, hT, eT⟩ := (hx2 j hj).1
  obtain ⟨d, hd⟩ : ∃ d, d = if T ≤ F then F - T else T - F := ⟨_, rfl⟩
  have ed : distF (bu j) (nI F) = d := by rw [eT, hd]; exact distF_nat hF hT
  have ex : hGo n j ((gu, nI F, se, pr, re, go, ch), (sg, bu, wa, ho, we, st, gr, po, ri)) = hIn n (hOut n ((gu, nI T, se + ((vHi (nI T) (nI F) - vLo (nI T) (nI F)) * sg 2 + 5), pr + 1, re, go + (vHi (nI T) (nI F) - vLo (nI T) (nI F)), ch), (sg, bu, wa, ho, we, st, (lpN (sTv (vLo (nI T) (nI F)) (vHi (nI T) (nI F)) (vHi (nI T) (nI F) - vLo (nI T) (nI F)) st ho wa) n 0 (gr, ri)).1, upd po j (po j + 1), (lpN (sTv (vLo (nI T) (nI F)) (vHi (nI T) (nI F)) (vHi (nI T) (nI F) - vLo (nI T) (nI F)) st ho wa) n 0 (gr, ri)).2))) := by
    show hIn n (hOut n (hTv n (bu j) (hPr j _))) = _
    rw [eT]
    rfl
  have ey : mGo n j ((gu, nI F, se, pr, re, go, ch), (sg, bu, wb, ho, we, st, gr, po, ri)) = mInn n (hOut n ((gu, (lpN (sWay n (nI T) (vBy (nI T) (nI F)) st wb ho) d 0 (nI F, gr)).1, se + (nI d * sg 2 + 5), pr + 1, re, go + nI d, ch), (sg, bu, (lpN (sGoM (nI d) (nI T) st) n 0 (wb, ri)).1, ho, we, st, (lpN (sWay n (nI T) (vBy (nI T) (nI F)) st wb ho) d 0 (nI F, gr)).2, upd po j (po j + 1), (lpN (sGoM (nI d) (nI T) st) n 0 (wb, ri)).2))) := by
    show mGoD n j (distF (bu j) (nI F)) _ = _
    rw [ed]
    show mStops n (mGo2 n j (bu j) (vBy (bu j) (nI F)) (nI d) (mWay n d (bu j) (vBy (bu j) (nI F)) _)) = _
    rw [eT]
    rfl
  have q1 : vHi (nI T) (nI F) - vLo (nI T) (nI F) = nI d := by
    unfold vHi vLo
    by_cases q : F ≤ T
    · rw [if_pos (nI_le q (by omega)), if_pos (nI_le q (by omega)), pk_sub q]
      congr 1
      split at hd <;> omega
    · rw [if_neg (nI_ge (by omega) (by omega)), if_neg (nI_ge (by omega) (by omega)), pk_sub (by omega)]
      congr 1
      split at hd <;> omega
  obtain ⟨w1, w2⟩ := way_v (n := n) (st := st) (wa := wb) (ho := ho) (gr := gr) hF hT hd d (Nat.le_refl d)
  have w1 := w1.trans ((vFl_end hF hT hd (Nat.le_refl d)).mpr rfl)
  have eG : (lpN (sTv (vLo (nI T) (nI F)) (vHi (nI T) (nI F)) (nI d) st ho wa) n 0 (gr, ri)).1 = (lpN (sWay n (nI T) (vBy (nI T) (nI F)) st wb ho) d 0 (nI F, gr)).2 := by
    funext g
    rw [tv_1]
    by_cases hg : g < n
    · rw [if_pos (by omega)]
      have ps := passed (wa := wa) (wb := wb) (ho := ho) hF hT hd (hx2 g hg).2.1 (hat g hg).1
      by_cases hq : onWay st wb ho F T d d g
      · rw [(w2 g).1 ⟨hq, hg⟩, if_neg (ps.mp hq).1, if_neg (ps.mp hq).2]
        exact addAB (hx2 g hg).2.2
      · rw [(w2 g).2 (fun z => hq z.1)]
        by_cases a1 : vHope st ho wa g ≤ vLo (nI T) (nI F)
        · rw [if_pos a1]
        · rw [if_neg a1, if_pos (Classical.byContradiction fun a2 => hq (ps.mpr ⟨a1, a2⟩))]
    · rw [if_neg (by omega), (w2 g).2 (fun z => hg z.2)]
  have eR : (lpN (sTv (vLo (nI T) (nI F)) (vHi (nI T) (nI F)) (nI d) st ho wa) n 0 (gr, ri)).2 = (lpN (sGoM (nI d) (nI T) st) n 0 (wb, ri)).2 := by
    funext g
    rw [tv_2, go_2]
  have hc : ∀ g, g < n → (lpN (sGoM (nI d) (nI T) st) n 0 (wb, ri)).1 g = if st g = 1 then nI T else wb g := fun g hg => by
    rw [go_1, if_pos (by omega)]
  have k1 := lpN_inv (n := n) (f := sTv (vLo (nI T) (nI F)) (vHi (nI T) (nI F)) (nI d) st ho wa) (fun (a : (Nat → Int32) × (Nat → Int32)) => smallR n 10 a.1) (fun i a hi q => by
    simp only [sTv]
    split
    · exact q
    · split
      · exact q
      · exact small_add hi q) n 0 (gr, ri) (by omega) (fun g hg => (hx2 g hg).2.2)
  rw [ex, ey, q1, w1, ← eG, ← eR]
  generalize (lpN (sTv (vLo (nI T) (nI F)) (vHi (nI T) (nI F)) (nI d) st ho wa) n 0 (gr, ri)).1 = G1 at k1
  generalize (lpN (sTv (vLo (nI T) (nI F)) (vHi (nI T) (nI F)) (nI d) st ho wa) n 0 (gr, ri)).2 = R1
  generalize (lpN (sGoM (nI d) (nI T) st) n 0 (wb, ri)).1 = wc at hc
  have k2 := lpN_inv (n := n) (f := sOut (nI T) ho) (fun (a : Int32 × (Nat → Int32) × (Nat → Int32)) => smallR n 10 a.2.2) (fun i a hi q => by
    simp only [sOut]
    split
    · split
      · exact small_upd q ⟨0, by decide, rfl⟩
      · exact q
    · exact q) n 0 (ch, st, G1) (by omega) k1
  have o1 : ∀ g, g < n → (lpN (sOut (nI T) ho) n 0 (ch, st, G1)).2.1 g = if st g = 1 then (if ho g = nI T then 2 else st g) else st g := fun g hg => by
    rw [out_v, if_pos (by omega)]
  simp only [hOut, hIn, mInn]
  generalize lpN (sOut (nI T) ho) n 0 (ch, st, G1) = O at k2 o1
  have z0 : ∀ g, g < n → O.2.1 g = 0 → st g = 0 := fun g hg q => by
    rw [o1 g hg] at q
    split at q
    · split at q
      · exact absurd q (by decide)
      · exact q
    · exact q
  have hwc : ∀ g, g < n → O.2.1 g = 0 → wc g = wa g := fun g hg q => by
    have s0 := z0 g hg q
    rw [hc g hg, if_neg (by rw [s0]; decide)]
    exact (hat g hg).1 s0
  obtain ⟨r1, r2⟩ := in_rel (n := n) (t := nI T) (mx := sg 0) (wa := wa) (wb := wc) (we := we) (st := O.2.1) (gr := O.2.2) hwc k2
  rw [← r1]
  refine ⟨rfl, rfl, rfl, rfl, rfl, rfl, rfl, rfl, rfl, fun g hg => ?_⟩
  simp only
  rcases r2 g with q | ⟨q0, q1, q2⟩
  · rw [q]
    refine ⟨fun z => hwc g hg z, fun z => ?_, fun z => ?_⟩
    · rw [hc g hg]
      rw [o1 g hg] at z
      by_cases s1 : st g = 1
      · rw [if_pos s1]
      · rw [if_neg s1] at z; exact absurd z s1
    · rw [hc g hg]
      rw [o1 g hg] at z
      by_cases s1 : st g = 1
      · rw [if_pos s1] at z ⊢
        by_cases s2 : ho g = nI T
        · exact s2.symm
        · rw [if_neg s2, s1] at z; exact absurd z (by decide)
      · rw [if_neg s1] at z ⊢
        exact (hat g hg).2.2 z
  · rw [q2]
    exact ⟨fun z => absurd z (by decide), fun _ => (hwc g hg q0).trans q1, fun z => absurd z (by decide)⟩
