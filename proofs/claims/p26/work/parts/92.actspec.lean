/-! what one of the law's acts does -/
def aAct (v : AV) (k : Nat) : Int32 × AV :=
  if k % 16 < 3 then aCome v (nI (k / 16 % 7)) (nI (k / 16 / 7 % 7)) (nI (k / 16 / 49 % 7)) (nI (1 + k / 16 / 343 % 4))
  else if k % 16 = 3 then (if hN v.1 < 2 then (-1, v) else aLeave v (nI (k / 16 % hN v.1)))
  else if k % 16 = 4 then aRest v
  else if k % 16 = 5 then (if k / 16 % 3 = 0 then aLay v 0 (nI (4 + k / 16 / 3 % 13)) else aLay v (nI (k / 16 % 3)) (nI (1 + k / 16 / 3 % 9)))
  else if k % 16 = 6 then (if Cnt v.1 < 2 then (-1, v) else aUndo v)
  else if k % 16 = 7 then (if k / 16 % 2 = 0 then aKeep v (nI (k / 16 / 2 % 2)) else aBack v (nI (k / 16 / 2 % 2)))
  else if k % 16 = 8 then (if hBst (hN v.1) v.1 = -1 then (-1, v) else aPress v (hBst (hN v.1) v.1))
  else aPress v (nI (k / 16 % hN v.1))
section ACT
variable {B n k : Nat} {v : AV}
theorem act_012 (h : k % 16 < 3) : aAct v k = aCome v (nI (k / 16 % 7)) (nI (k / 16 / 7 % 7)) (nI (k / 16 / 49 % 7)) (nI (1 + k / 16 / 343 % 4)) := by
  unfold aAct
  rw [if_pos h]
theorem act_3a (hx : Hx B n v.1) (h : k % 16 = 3) (q : n < 2) : aAct v k = (-1, v) := by
  unfold aAct
  rw [if_neg (by omega), if_pos h, hx.n, if_pos q]
theorem act_3b (hx : Hx B n v.1) (h : k % 16 = 3) (q : ¬ n < 2) : aAct v k = aLeave v (nI (k / 16 % n)) := by
  unfold aAct
  rw [if_neg (by omega), if_pos h, hx.n, if_neg q]
theorem act_4 (h : k % 16 = 4) : aAct v k = aRest v := by
  unfold aAct
  rw [if_neg (by omega), if_neg (by omega), if_pos h]
theorem act_5a (h : k % 16 = 5) (q : k / 16 % 3 = 0) : aAct v k = aLay v 0 (nI (4 + k / 16 / 3 % 13)) := by
  unfold aAct
  rw [if_neg (by omega), if_neg (by omega), if_neg (by omega), if_pos h, if_pos q]
theorem act_5b (h : k % 16 = 5) (q : ¬ k / 16 % 3 = 0) : aAct v k = aLay v (nI (k / 16 % 3)) (nI (1 + k / 16 / 3 % 9)) := by
  unfold aAct
  rw [if_neg (by omega), if_neg (by omega), if_neg (by omega), if_pos h, if_neg q]
theorem act_6a (h : k % 16 = 6) (q : Cnt v.1 < 2) : aAct v k = (-1, v) := by
  unfold aAct
  rw [if_neg (by omega), if_neg (by omega), if_neg (by omega), if_neg (by omega), if_pos h, if_pos q]
theorem act_6b (h : k % 16 = 6) (q : ¬ Cnt v.1 < 2) : aAct v k = aUndo v := by
  unfold aAct
  rw [if_neg (by omega), if_neg (by omega), if_neg (by omega), if_neg (by omega), if_pos h, if_neg q]
theorem act_7a (h : k % 16 = 7) (q : k / 16 % 2 = 0) : aAct v k = aKeep v (nI (k / 16 / 2 % 2)) := by
  unfold aAct
  rw [if_neg (by omega), if_neg (by omega), if_neg (by omega), if_neg (by omega), if_neg (by omega), if_pos h, if_pos q]
theorem act_7b (h : k % 16 = 7) (q : ¬ k / 16 % 2 = 0) : aAct v k = aBack v (nI (k / 16 / 2 % 2)) := by
  unfold aAct
  rw [if_neg (by omega), if_neg (by omega), if_neg (by omega), if_neg (by omega), if_neg (by omega), if_pos h, if_neg q]
theorem act_8a (hx : Hx B n v.1) (h : k % 16 = 8) (q : hBst n v.1 = -1) : aAct v k = (-1, v) := by
  unfold aAct
  rw [if_neg (by omega), if_neg (by omega), if_neg (by omega), if_neg (by omega), if_neg (by omega), if_neg (by omega), if_pos h, hx.n, if_pos q]
theorem act_8b (hx : Hx B n v.1) (h : k % 16 = 8) (q : ¬ hBst n v.1 = -1) : aAct v k = aPress v (hBst n v.1) := by
  unfold aAct
  rw [if_neg (by omega), if_neg (by omega), if_neg (by omega), if_neg (by omega), if_neg (by omega), if_neg (by omega), if_pos h, hx.n, if_neg q]
theorem act_9 (hx : Hx B n v.1) (h : 9 ≤ k % 16) : aAct v k = aPress v (nI (k / 16 % n)) := by
  unfold aAct
  rw [if_neg (by omega), if_neg (by omega), if_neg (by omega), if_neg (by omega), if_neg (by omega), if_neg (by omega), if_neg (by omega), hx.n]
theorem cnt_of {x : HS} (hx : Hx B n x) : ∃ p r : Nat, x.1.2.2.2.1 = nI p ∧ x.1.2.2.2.2.1 = nI r ∧ p + r ≤ B ∧ (B < 2 ^ 31 → Cnt x = p + r) := by
  obtain ⟨s, p, r, e1, e2, e3, h2, h3, h4⟩ := hx.2.1
  refine ⟨p, r, e2, e3, h4, fun hB => ?_⟩
  unfold Cnt
  rw [e2, e3, nI_add, nI_clamp (by omega)]
/-- an act keeps what holds, and leaves a guest -/
theorem inv_act (hB : B ≤ 1000) (h : Inv B v) : Inv (B + 1) (aAct v k).2 := by
  have hup := h.up (Nat.le_succ B)
  obtain ⟨⟨n, hn1, hx⟩, hM, hC, hL, hs0, hs1⟩ := id h
  obtain ⟨hn, hgu, hok⟩ := hx.ok
  obtain ⟨p, r, ep, er, hpr, hc⟩ := cnt_of hx
  have hc := hc (by omega)
  -- a hotel that counts one more at most
  have key : ∀ (m : Nat) (y : HS), 1 ≤ m → Hx (B + 1) m y → (∃ p2 r2 : Nat, y.1.2.2.2.1 = nI p2 ∧ y.1.2.2.2.2.1 = nI r2 ∧ p2 + r2 ≤ p + r + 1) → Inv (B + 1) (aPush v y) := fun m y hm hy ⟨p2, r2, a1, a2, a3⟩ => by
    refine inv_push h ⟨m, hm, hy⟩ ?_
    rw [hc]
    unfold Cnt
    rw [a1, a2, nI_add, nI_clamp (by omega)]
    exact a3
  have press : ∀ g : Int32, Inv (B + 1) (aPress v g).2 := fun g => by
    by_cases q : isG (nI n) g
    · obtain ⟨j, hj, rfl⟩ := isG_of hn q
      rw [aPress_g hx hj]
      refine key n _ hn1 (hx_press hx hj) ?_
      by_cases z : hReas v.1 (nI j) = 0
      · rw [press_0 hn hj z]
        obtain ⟨g1, g2, g3, g4, g5, -⟩ := go_spec hj hok (fun i hi => (hx.2.2.2 i hi).2.2.2.2.2)
        exact ⟨p + 1, r, by rw [g4, ep, nI_1], by rw [g5, er], by omega⟩
      · rw [press_1 hn hgu hj z]
        generalize v.1 = y at ep er ⊢
        obtain ⟨⟨gu, fl, se, pr, re, go, ch⟩, rows⟩ := y
        exact ⟨p, r + 1, ep, by show re + 1 = _; rw [show re = nI r from er, nI_1], by omega⟩
    · rw [aPress_no hx q]
      exact hup
  rcases (show k % 16 < 3 ∨ k % 16 = 3 ∨ k % 16 = 4 ∨ k % 16 = 5 ∨ k % 16 = 6 ∨ k % 16 = 7 ∨ k % 16 = 8 ∨ 9 ≤ k % 16 by omega) with z | z | z | z | z | z | z | z
  · rw [act_012 z]
    unfold aCome
    split
    · rename_i hk
      have ho := kCome_0 hk
      rw [hx.n] at ho ⊢
      refine key (n + 1) _ (by omega) (hx_come hx ho) ?_
      generalize v.1 = y at ep er ⊢
      obtain ⟨⟨gu, fl, se, pr, re, go, ch⟩, ⟨sg, bu, wa, ho, we, st, gr, po, ri⟩⟩ := y
      exact ⟨p, r, ep, er, by omega⟩
    · exact hup
  · by_cases q : n < 2
    · rw [act_3a hx z q]; exact hup
    · rw [act_3b hx z q]
      have hj : k / 16 % n < n := Nat.mod_lt _ (by omega)
      have e9 : aLeave v (nI (k / 16 % n)) = (hGr v.1 (nI (k / 16 % n)), aPush v (hLeave n v.1 (nI (k / 16 % n)))) := by
        unfold aLeave
        rw [if_pos (kG_at hx hj), hx.n]
      rw [e9]
      have hl := hx_leave hx hj
      refine key (n - 1) _ (by omega) hl ?_
      have e0 : (hLeave n v.1 (nI (k / 16 % n))).1.2 = v.1.1.2 := by
        unfold hLeave
        rw [hgu, if_pos (isG_nI hn hj), nI_clamp (by omega)]
        show (lpN sMv _ _ v.1).1.2 = _
        rw [(mv_n _ _ _).1]
      rw [e0]
      exact ⟨p, r, ep, er, by omega⟩
  · rw [act_4 z]
    unfold aRest
    rw [hx.n]
    refine key n _ hn1 (hx_rest hx) ?_
    generalize v.1 = y at ep er ⊢
    obtain ⟨⟨gu, fl, se, pr, re, go, ch⟩, ⟨sg, bu, wa, ho, we, st, gr, po, ri⟩⟩ := y
    exact ⟨p, r, ep, er, by omega⟩
  · have lay : ∀ w q : Int32, Inv (B + 1) (aLay v w q).2 := fun w q => by
      unfold aLay
      by_cases c : okSV w q
      · rw [if_pos (show kSet w q = 0 from if_pos c)]
        refine key n _ hn1 (hx_set hx c) ?_
        rw [show hSet w q v.1 = mSetS w.toNatClampNeg q v.1 from if_pos c]
        generalize v.1 = y at ep er ⊢
        obtain ⟨⟨gu, fl, se, pr, re, go, ch⟩, ⟨sg, bu, wa, ho, we, st, gr, po, ri⟩⟩ := y
        exact ⟨p, r, ep, er, by omega⟩
      · rw [if_neg (show ¬ kSet w q = 0 by rw [show kSet w q = 1 from if_neg c]; decide)]
        exact hup
    by_cases q : k / 16 % 3 = 0
    · rw [act_5a z q]; exact lay _ _
    · rw [act_5b z q]; exact lay _ _
  · by_cases q : Cnt v.1 < 2
    · rw [act_6a z q]; exact hup
    · rw [act_6b z q]
      unfold aUndo
      cases hm : v.2.1.getLast? with
      | none => exact hup
      | some y =>
        have hne : v.2.1 ≠ [] := by
          intro e
          rw [e] at hm
          simp at hm
        have ey : v.2.1 = v.2.1.dropLast ++ [y] := by
          have e1 := List.dropLast_concat_getLast hne
          have e2 : v.2.1.getLast hne = y := by
            rw [List.getLast?_eq_some_getLast hne] at hm
            exact Option.some_inj.mp hm
          rw [e2] at e1
          exact e1.symm
        obtain ⟨-, hM2, hC2, hL2, hs02, hs12⟩ := hup
        rw [ey] at hC2
        obtain ⟨c1, c2⟩ := Chn.two hC2
        have hy := hM2 y (by rw [ey]; exact List.mem_append_right _ (List.mem_singleton.mpr rfl))
        obtain ⟨m, hxm, hm1⟩ := hy
        refine ⟨⟨m, ?_, hxm⟩, fun m hm => hM2 m (List.dropLast_subset _ hm), c1, ?_, hs02, hs12⟩
        · rcases hm1 with w | w
          · exact w
          · omega
        · show v.2.1.dropLast.length ≤ 14
          rw [List.length_dropLast]
          omega
  · by_cases q : k / 16 % 2 = 0
    · rw [act_7a z q]
      unfold aKeep
      split
      · obtain ⟨hg2, hM2, hC2, hL2, hs02, hs12⟩ := hup
        refine ⟨hg2, hM2, hC2, hL2, fun q e => ?_, fun q e => ?_⟩
        · have e : (if nI (k / 16 / 2 % 2) = 0 then (some v.1, v.2.2.2) else (v.2.2.1, some v.1)).1 = some q := e
          split at e
          · obtain rfl : v.1 = q := Option.some_inj.mp e
            exact hg2
          · exact hs02 q e
        · have e : (if nI (k / 16 / 2 % 2) = 0 then (some v.1, v.2.2.2) else (v.2.2.1, some v.1)).2 = some q := e
          split at e
          · exact hs12 q e
          · obtain rfl : v.1 = q := Option.some_inj.mp e
            exact hg2
      · exact hup
    · rw [act_7b z q]
      unfold aBack
      split
      · split
        · exact hup
        · rename_i y hy
          obtain ⟨hg2, hM2, hC2, hL2, hs02, hs12⟩ := hup
          refine ⟨?_, fun m hm => absurd hm List.not_mem_nil, trivial, Nat.zero_le _, hs02, hs12⟩
          split at hy
          · exact hs02 y hy
          · exact hs12 y hy
      · exact hup
  · by_cases q : hBst n v.1 = -1
    · rw [act_8a hx z q]; exact hup
    · rw [act_8b hx z q]; exact press _
  · rw [act_9 hx z]; exact press _
end ACT
