/-! what holds between the class' state and the reference's, and is kept by every command -/
def relM (l : List HS) (d : Nat → HS) : Prop := ∀ (k : Nat) (x : HS), l[k]? = some x → RelX x (d k)
def relS (o : Option HQ) (a : Int32) (y : HS) : Prop := (o = none ∧ a = 0) ∨ ∃ q, o = some q ∧ ¬ a = 0 ∧ RelX q.2 y
def RelL (S : BS) (U : MS) : Prop := RelX S.2.2.2.2.1.2 U.2.2.1.1 ∧ (S.1.2 = U.2.1 ∧ U.1.2.1 = nI S.1.1 ∧ okT S.1.1 S.1.2) ∧ (S.2.1.1 ≤ S.2.1.2.length ∧ S.2.1.2.length ≤ 14 ∧ U.1.2.2.1 = nI S.2.1.1 ∧ relM (memo S.2.1.1 S.2.1.2) U.2.2.2.1) ∧ (relS S.2.2.2.2.2.1 (U.2.2.2.2.2 0) (U.2.2.2.2.1 0) ∧ relS S.2.2.2.2.2.2 (U.2.2.2.2.2 1) (U.2.2.2.2.1 1))
theorem memo_l2 {ct : Nat} {L : List HQ} (h : ct ≤ L.length) : (memo ct L).length = ct := by
  unfold memo
  rw [List.length_map, List.length_take]
  omega
theorem relM_push {l : List HS} {d : Nat → HS} {ct : Nat} {x y : HS} (hl : l.length = ct) (hc : ct ≤ 14) (h : relM l d) (hx : RelX x y) : relM (pushM l x) (mRem ct y d) := by
  intro k w hk
  unfold pushM at hk
  unfold mRem
  by_cases c : ct = 14
  · rw [if_pos (hl.trans c)] at hk
    rw [if_pos c]
    have hd : (l.drop 1).length = 13 := by rw [List.length_drop, hl, c]
    rcases Nat.lt_trichotomy k 13 with q | q | q
    · rw [List.getElem?_append_left (by rw [hd]; exact q), List.getElem?_drop] at hk
      rw [va_up_ne _ _ (by omega)]
      unfold downD
      rw [if_pos q]
      exact h (k + 1) w (by rw [Nat.add_comm]; exact hk)
    · subst q
      rw [List.getElem?_append_right (by rw [hd]; exact Nat.le_refl _), hd] at hk
      rw [va_up_self]
      obtain rfl : x = w := Option.some.inj hk
      exact hx
    · rw [List.getElem?_append_right (by rw [hd]; omega), hd, List.getElem?_eq_none (by show 1 ≤ k - 13; omega)] at hk
      cases hk
  · rw [if_neg (fun q => c (hl.symm.trans q))] at hk
    rw [if_neg c]
    rcases Nat.lt_trichotomy k ct with q | q | q
    · rw [List.getElem?_append_left (by rw [hl]; exact q)] at hk
      rw [va_up_ne _ _ (by omega)]
      exact h k w hk
    · subst q
      rw [List.getElem?_append_right (by rw [hl]; exact Nat.le_refl _), hl, Nat.sub_self] at hk
      rw [va_up_self]
      obtain rfl : x = w := Option.some.inj hk
      exact hx
    · rw [List.getElem?_append_right (by rw [hl]; omega), hl, List.getElem?_eq_none (by show 1 ≤ k - ct; omega)] at hk
      cases hk
theorem pushM_len {l : List HS} {x : HS} {ct : Nat} (hl : l.length = ct) (hc : ct ≤ 14) : (pushM l x).length = mAc ct := by
  unfold pushM mAc
  rw [List.length_append]
  by_cases c : ct = 14
  · rw [if_pos (hl.trans c), if_pos c, List.length_drop, hl, c]; rfl
  · rw [if_neg (fun q => c (hl.symm.trans q)), if_neg c, hl]; rfl
section RL
variable {z ct sx : Nat} {f tx : Nat → Int32} {L : List HQ} {q3 q4 : (Int32 × (Nat → Int32) × (Nat → Int32)) × HS} {y1 y2 x x2 : HS} {nw nw2 : Nat → Nat} {o0 o1 : Option HQ} {rf rf2 sn ac sp ou sp2 ou2 : Int32} {yn yt y3 yn2 yt2 y32 : HS} {di ke : Nat → HS} {ik : Nat → Int32} {n : Nat}
theorem rl_same (h : RelL ((z, f), (ct, L), q3, y1, (nw, x), (o0, o1)) ((rf, sn, ac, sp, ou), tx, (yn, yt, y3), di, ke, ik)) : RelL ((z, f), (ct, L), q4, y2, (nw2, x), (o0, o1)) ((rf2, sn, ac, sp2, ou2), tx, (yn, yt2, y32), di, ke, ik) := h
theorem rl_push (h : RelL ((z, f), (ct, L), q3, y1, (nw, x), (o0, o1)) ((rf, sn, ac, sp, ou), tx, (yn, yt, y3), di, ke, ik)) {c2 : Nat} {L2 : List HQ} (h2 : c2 ≤ L2.length ∧ L2.length ≤ 14 ∧ memo c2 L2 = pushM (memo ct L) x) (hx : RelX x2 yn2) : RelL ((z, f), (c2, L2), q3, y1, (nw, x2), (o0, o1)) ((0, sn, nI (mAc ct), sp, ou), tx, (yn2, yt, y3), mRem ct yn di, ke, ik) := by
  obtain ⟨a1, a2, ⟨b1, b2, b3, b4⟩, a4⟩ := h
  obtain ⟨d1, d2, d3⟩ := h2
  have hm : (memo ct L).length = ct := memo_l2 b1
  have hc : ct ≤ 14 := Nat.le_trans b1 b2
  refine ⟨hx, a2, ⟨d1, d2, ?_, ?_⟩, a4⟩
  · have e := pushM_len (x := x) hm hc
    rw [← d3, memo_l2 d1] at e
    show nI (mAc ct) = nI c2
    rw [e]
  · show relM (memo c2 L2) (mRem ct yn di)
    rw [d3]
    exact relM_push hm hc b4 a1
end RL
/-- a command that the class may refuse: what the law compares, and what holds behind it -/
theorem st_gen {K R : Int32} {PR : Int32 → BS → Prop} {fo : Nat → Int64} {S : BS} {U U0 : MS} {k r : Int32} {u1 : LwS} {u2 : MS} (hS : RelL S U) (h1 : lawP K PR fo S k u1) (h2 : mPost K r R u2 U0 U) (h0 : ∀ (r1 : Int32) (u : BS), K = 0 → PR r1 u → r1 = R ∧ RelL u U0 ∧ U0.1.1 = 0) : u2.1.1 = k ∧ (k = 0 → u1.1 0 = r.toInt64) ∧ RelL u1.2 u2 := by
  rcases h1 with ⟨a1, rfl, r1, a2, a3⟩ | ⟨a1, rfl, rfl⟩
  · rcases h2 with ⟨b1, rfl, rfl⟩ | ⟨b1, -, -⟩
    · obtain ⟨c1, c2, c3⟩ := h0 r1 _ a1 a3
      exact ⟨c3, fun _ => by rw [a2, c1], c2⟩
    · exact absurd a1 b1
  · rcases h2 with ⟨b1, -, -⟩ | ⟨b1, rfl, rfl⟩
    · exact absurd b1 a1
    · exact ⟨rfl, fun h => absurd h a1, hS⟩
/-! presses refused count for nothing that is asked -/
def eR (k : Int32) (x : HS) : HS := ((x.1.1, x.1.2.1, x.1.2.2.1, x.1.2.2.2.1, k, x.1.2.2.2.2.2.1, x.1.2.2.2.2.2.2), x.2)
theorem eR_reas {k : Int32} {x : HS} {g : Int32} : hReas (eR k x) g = hReas x g := by
  obtain ⟨⟨gu, fl, se, pr, re, go, ch⟩, ⟨sg, bu, wa, ho, we, st, gr, po, ri⟩⟩ := x
  rfl
theorem eR_go {n j : Nat} {k : Int32} {x : HS} : hGo n j (eR k x) = eR k (hGo n j x) := by
  obtain ⟨⟨gu, fl, se, pr, re, go, ch⟩, ⟨sg, bu, wa, ho, we, st, gr, po, ri⟩⟩ := x
  rfl
theorem eR_ref {k : Int32} {x : HS} : ∃ k2, hRef (eR k x) = eR k2 x := by
  obtain ⟨⟨gu, fl, se, pr, re, go, ch⟩, ⟨sg, bu, wa, ho, we, st, gr, po, ri⟩⟩ := x
  exact ⟨_, rfl⟩
theorem eR_self {x : HS} : x = eR x.1.2.2.2.2.1 x := by
  obtain ⟨⟨gu, fl, se, pr, re, go, ch⟩, ⟨sg, bu, wa, ho, we, st, gr, po, ri⟩⟩ := x
  rfl
theorem eR_press {n : Nat} {k : Int32} {x : HS} {g : Int32} : ∃ k2, hPress n (eR k x) g = eR k2 (hWill n x g) := by
  unfold hPress hWill
  rw [eR_reas]
  by_cases c : hReas x g = 0
  · rw [if_pos c, if_pos c]
    exact ⟨k, eR_go⟩
  · rw [if_neg c, if_neg c]
    by_cases c2 : hReas x g = -1
    · rw [if_pos c2]; exact ⟨k, rfl⟩
    · rw [if_neg c2]; exact eR_ref
theorem hN_gu {x y : HS} (h : y.1.1 = x.1.1) : hN y = hN x := by unfold hN; rw [h]
theorem will_gu {n : Nat} {x : HS} {g : Int32} : (hWill n x g).1.1 = x.1.1 := by
  unfold hWill
  split
  · exact go_sg.2
  · rfl
theorem eR_loop {n m r : Nat} : ∀ (q i : Nat) (k : Int32) (x : HS), hN x = n → ∃ k2, lpN (sPrC n m r) q i (eR k x) = eR k2 (lpN (sPr m r) q i x)
  | 0, i, k, x, _ => ⟨k, rfl⟩
  | q + 1, i, k, x, h => by
    show ∃ k2, lpN (sPrC n m r) q (i + 1) (hPress n (eR k x) (nI (r / 10 ^ (m - 1 - i) % 10))) = eR k2 (lpN (sPr m r) q (i + 1) (hWill (hN x) x (nI (r / 10 ^ (m - 1 - i) % 10))))
    rw [h]
    obtain ⟨k2, e⟩ := eR_press (n := n) (k := k) (x := x) (g := nI (r / 10 ^ (m - 1 - i) % 10))
    rw [e]
    exact eR_loop q (i + 1) k2 _ ((hN_gu will_gu).trans h)
theorem eR_ifp {n : Nat} {k : Int32} {x w : HS} {a : Int32} : vIfp n x (eR k w) a = vIfp n x w a := by
  obtain ⟨⟨gu, fl, se, pr, re, go, ch⟩, ⟨sg, bu, wa, ho, we, st, gr, po, ri⟩⟩ := w
  rfl
theorem ifp_same {n m r : Nat} {x : HS} {a : Int32} (h : hN x = n) : vIfp n x (lpN (sPrC n m r) m 0 x) a = vIfp n x (lpN (sPr m r) m 0 x) a := by
  obtain ⟨k2, e⟩ := eR_loop (n := n) (m := m) (r := r) m 0 x.1.2.2.2.2.1 x h
  rw [← eR_self] at e
  rw [e, eR_ifp]
