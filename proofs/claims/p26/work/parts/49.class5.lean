/-! save, restore, load -/
theorem sl_up0 {o0 o1 : Option HQ} {q : HQ} : va_up (slF o0 o1) 0 (some (q.1 0)) = slF (some q) o1 := by
  funext k
  unfold va_up slF
  by_cases h : k = 0
  · rw [if_pos h, if_pos h]; rfl
  · rw [if_neg h, if_neg h, if_neg h]
theorem sl_up1 {o0 o1 : Option HQ} {q : HQ} : va_up (slF o0 o1) 1 (some (q.1 0)) = slF o0 (some q) := by
  funext k
  unfold va_up slF
  by_cases h : k = 1
  · subst h; rfl
  · rw [if_neg h, if_neg h, if_neg h]
theorem sl_00 {o0 o1 : Option HQ} : va_up (va_up (slF o0 o1) 0 none) 1 none = slF none none := by
  funext k
  unfold va_up slF
  by_cases h1 : k = 1
  · subst h1; rfl
  · by_cases h0 : k = 0
    · subst h0; rfl
    · rw [if_neg h1, if_neg h0, if_neg h0, if_neg h1, if_neg h0, if_neg h1]
def kRst (o0 o1 : Option HQ) (v : Int32) : Int32 := if inL v.toInt64 0 1 then (if (if v = 0 then o0 else o1).isNone = true then 2 else 0) else 1
def kLoad (z : Nat) (f : Nat → Int32) : Int32 := if vErr z f = -1 then 0 else 1
theorem hN_eq {n : Nat} {x : HS} (hn : n ≤ 4) (hg : x.1.1 = nI n) : hN x = n := by unfold hN; rw [hg, nI_clamp (by omega)]
section VC
variable {z s n : Nat} {f : Nat → Int32} {x : HS}
theorem vc_g (h : vSign z f (nI s) = 103) (e : hN x = n) : vCmd z f s x = (if okC n (vDig z f (nI (s + 1))) (vDig z f (nI (s + 2))) (vDig z f (nI (s + 3))) (vDig z f (nI (s + 4))) then 1 else 0, hAdm n (vDig z f (nI (s + 1))) (vDig z f (nI (s + 2))) (vDig z f (nI (s + 3))) (vDig z f (nI (s + 4))) x) := by
  unfold vCmd
  rw [if_pos h, e]
theorem vc_p (h : vSign z f (nI s) = 112) (e : hN x = n) : vCmd z f s x = (zb (hReas x (vDig z f (nI (s + 1))) = 0), hWill n x (vDig z f (nI (s + 1)))) := by
  unfold vCmd
  rw [h, if_neg (by decide), if_pos rfl, e]
theorem vc_r (h : vSign z f (nI s) = 114) (e : hN x = n) : vCmd z f s x = (1, hRest n x) := by
  unfold vCmd
  rw [h, if_neg (by decide), if_neg (by decide), if_pos rfl, e]
theorem vc_l (h : vSign z f (nI s) = 108) (e : hN x = n) : vCmd z f s x = (zb (¬ hGr x (vDig z f (nI (s + 1))) = -1), hLeave n x (vDig z f (nI (s + 1)))) := by
  unfold vCmd
  rw [h, if_neg (by decide), if_neg (by decide), if_neg (by decide), if_pos rfl, e]
theorem vc_e (h : vSign z f (nI s) = 101) : vCmd z f s x = (zb (¬ hSetR x (vDig z f (nI (s + 1))) (10 * vDig z f (nI (s + 2)) + vDig z f (nI (s + 3))) = -1), hSet (vDig z f (nI (s + 1))) (10 * vDig z f (nI (s + 2)) + vDig z f (nI (s + 3))) x) := by
  unfold vCmd
  rw [h, if_neg (by decide), if_neg (by decide), if_neg (by decide), if_neg (by decide), if_pos rfl]
theorem vc_b (h : vSign z f (nI s) = 98) (e : hN x = n) : vCmd z f s x = (1, hWill n x (hBst n x)) := by
  unfold vCmd
  rw [h, if_neg (by decide), if_neg (by decide), if_neg (by decide), if_neg (by decide), if_neg (by decide), if_pos rfl, e]
theorem vc_0 (h : vDof (vSign z f (nI s)) = -1) : vCmd z f s x = (0, x) := by
  have k : ∀ c : Int32, ¬ vDof c = -1 → ¬ vSign z f (nI s) = c := fun c h1 h2 => h1 (by rw [← h2]; exact h)
  unfold vCmd
  rw [if_neg (k 103 (by decide)), if_neg (k 112 (by decide)), if_neg (k 114 (by decide)), if_neg (k 108 (by decide)), if_neg (k 101 (by decide)), if_neg (k 98 (by decide))]
end VC
theorem okc_y {P : Prop} [Decidable P] {a : Int32} (h : ¬ (if P then a else -1) = -1) : P := Classical.byContradiction fun q => h (if_neg q)
theorem okc_n {P : Prop} [Decidable P] {n : Nat} (hn : n ≤ 4) (h : (if P then nI n else -1) = -1) : ¬ P := fun q => ne_m1 (k := n) (by omega) (by rw [← h, if_pos q])
theorem ok_cmd {z s : Nat} {f : Nat → Int32} {x : HS} (h : OkH x) : OkH (vCmd z f s x).2 := by
  by_cases q1 : vSign z f (nI s) = 103
  · rw [vc_g q1 rfl]
    exact (ok_adm h : OkH (hAdm (hN x) (vDig z f (nI (s + 1))) (vDig z f (nI (s + 2))) (vDig z f (nI (s + 3))) (vDig z f (nI (s + 4))) x))
  · by_cases q2 : vSign z f (nI s) = 112
    · rw [vc_p q2 rfl]
      exact (ok_will h : OkH (hWill (hN x) x (vDig z f (nI (s + 1)))))
    · by_cases q3 : vSign z f (nI s) = 114
      · rw [vc_r q3 rfl]
        exact (ok_rest h : OkH (hRest (hN x) x))
      · by_cases q4 : vSign z f (nI s) = 108
        · rw [vc_l q4 rfl]
          exact (ok_leave h : OkH (hLeave (hN x) x (vDig z f (nI (s + 1)))))
        · by_cases q5 : vSign z f (nI s) = 101
          · rw [vc_e q5]
            exact (ok_set h : OkH (hSet (vDig z f (nI (s + 1))) (10 * vDig z f (nI (s + 2)) + vDig z f (nI (s + 3))) x))
          · by_cases q6 : vSign z f (nI s) = 98
            · rw [vc_b q6 rfl]
              exact (ok_will h : OkH (hWill (hN x) x (hBst (hN x) x)))
            · unfold vCmd
              rw [if_neg q1, if_neg q2, if_neg q3, if_neg q4, if_neg q5, if_neg q6]
              exact h
theorem err_pos {z : Nat} {f : Nat → Int32} (h : vErr z f = -1) : 1 ≤ z := by
  by_cases q : vSign z f 0 = 72
  · exact vSign_pos q
  · unfold vErr at h
    rw [if_neg q] at h
    exact absurd h (by decide)
theorem ok_hot0 : OkH hot0 := ⟨hot0, 0, by decide, relN_hot0⟩
theorem ld_no {z i : Nat} {f : Nat → Int32} {c : Int32} {x : HS} (h : ¬ ¬ vDof (vSign z f (nI i)) = -1) : sLd z f i (c, x) = (c, x) := by
  unfold sLd
  rw [if_pos (Classical.not_not.mp h)]
theorem ld_y1 {z i : Nat} {f : Nat → Int32} {c : Int32} {x : HS} (h : ¬ vDof (vSign z f (nI i)) = -1) (h0 : ¬ (vCmd z f i x).1 = 0) : sLd z f i (c, x) = (c, (vCmd z f i x).2) := by
  unfold sLd
  rw [if_neg h]
  show (if (vCmd z f i x).1 = 0 then c + 1 else c, _) = _
  rw [if_neg h0]
theorem ld_y0 {z i : Nat} {f : Nat → Int32} {c : Int32} {x : HS} (h : ¬ vDof (vSign z f (nI i)) = -1) (h0 : (vCmd z f i x).1 = 0) : sLd z f i (c, x) = (c + 1, (vCmd z f i x).2) := by
  unfold sLd
  rw [if_neg h]
  show (if (vCmd z f i x).1 = 0 then c + 1 else c, _) = _
  rw [if_pos h0]
theorem cmd_nar {z s : Nat} {f : Nat → Int32} {x : HS} : narrow .boolean (.int (vCmd z f s x).1) = .int (vCmd z f s x).1 := by
  have k : ∀ r : Int32, r = 0 ∨ r = 1 → narrow .boolean (.int r) = .int r := fun r h => by rcases h with h | h <;> subst h <;> rfl
  have b : ∀ (P : Prop) [Decidable P], zb P = 0 ∨ zb P = 1 := fun P _ => by unfold zb; split; exact Or.inr rfl; exact Or.inl rfl
  refine k _ ?_
  unfold vCmd
  split
  · split
    · exact Or.inr rfl
    · exact Or.inl rfl
  · split
    · exact b _
    · split
      · exact Or.inr rfl
      · split
        · exact b _
        · split
          · exact b _
          · split
            · exact Or.inr rfl
            · exact Or.inl rfl
