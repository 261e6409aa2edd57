/-! the class's contents and the reference's: alike but for where a guest is once the guest does not wait -/
def Rel (n : Nat) (x y : HS) : Prop := x.1 = y.1 ∧ x.2.1 = y.2.1 ∧ x.2.2.1 = y.2.2.1 ∧ x.2.2.2.2.1 = y.2.2.2.2.1 ∧ x.2.2.2.2.2.1 = y.2.2.2.2.2.1 ∧ x.2.2.2.2.2.2.1 = y.2.2.2.2.2.2.1 ∧ x.2.2.2.2.2.2.2.1 = y.2.2.2.2.2.2.2.1 ∧ x.2.2.2.2.2.2.2.2.1 = y.2.2.2.2.2.2.2.2.1 ∧ x.2.2.2.2.2.2.2.2.2 = y.2.2.2.2.2.2.2.2.2 ∧
  ∀ g : Nat, g < n → (x.2.2.2.2.2.2.1 g = 0 → y.2.2.2.1 g = x.2.2.2.1 g) ∧ (x.2.2.2.2.2.2.1 g = 1 → y.2.2.2.1 g = x.1.2.1) ∧ (x.2.2.2.2.2.2.1 g = 2 → y.2.2.2.1 g = x.2.2.2.2.1 g)
theorem lpN_last {α : Type} {f : Nat → α → α} : ∀ (k i : Nat) (x : α), lpN f (k + 1) i x = f (i + k) (lpN f k i x)
  | 0, i, x => rfl
  | k + 1, i, x => by
    show lpN f (k + 1) (i + 1) (f i x) = _
    rw [lpN_last k (i + 1), show i + 1 + k = i + (k + 1) by omega]
    rfl
/-- a loop whose step i changes the place i alone, by what stands there -/
theorem lpN_pt {σ : Type} {f : Nat → σ → σ} (P : σ → Nat → Int32) (v : Nat → Int32 → Int32) (hf : ∀ (i : Nat) (y : σ) (g : Nat), P (f i y) g = if g = i then v i (P y i) else P y g) : ∀ (k i : Nat) (x : σ) (g : Nat), P (lpN f k i x) g = if i ≤ g ∧ g < i + k then v g (P x g) else P x g
  | 0, i, x, g => by rw [if_neg (by omega)]; rfl
  | k + 1, i, x, g => by
    show P (lpN f k (i + 1) (f i x)) g = _
    rw [lpN_pt P v hf k (i + 1) (f i x) g, hf i x g]
    by_cases h : g = i
    · subst h
      rw [if_neg (by omega), if_pos rfl, if_pos (by omega)]
    · rw [if_neg h]
      by_cases h2 : i + 1 ≤ g ∧ g < i + 1 + k
      · rw [if_pos h2, if_pos (by omega)]
      · rw [if_neg h2, if_neg (by omega)]
theorem upd_v {f : Nat → Int32} {i g : Nat} {v : Int32} : upd f i v g = if g = i then v else f g := rfl
def addA (a : Int32) : Int32 := if 9 ≤ a then a else a + 1
def addB (a : Int32) : Int32 := if 9 ≤ a then 9 else a + 1
theorem vAdd_v {f : Nat → Int32} {i g : Nat} : vAdd f i g = if g = i then addA (f i) else f g := by
  unfold vAdd addA
  by_cases h : 9 ≤ f i
  · rw [if_pos h, if_pos h]
    split
    · rename_i q; rw [q]
    · rfl
  · rw [if_neg h, if_neg h]; rfl
theorem vAddM_v {f : Nat → Int32} {i g : Nat} : vAddM f i g = if g = i then addB (f i) else f g := rfl
theorem addAB {a : Int32} (h : ∃ k : Nat, k < 10 ∧ a = nI k) : addA a = addB a := by
  obtain ⟨k, hk, rfl⟩ := h
  unfold addA addB
  by_cases q : (9 : Int32) ≤ nI k
  · rw [if_pos q, if_pos q]
    have := (nI_leI (a := 9) (b := k) (by omega) (by omega)).mp q
    obtain rfl : k = 9 := by omega
    rfl
  · rw [if_neg q, if_neg q]
theorem tv_1 {lo hi di : Int32} {st ho wa : Nat → Int32} (k i : Nat) (x : (Nat → Int32) × (Nat → Int32)) (g : Nat) : (lpN (sTv lo hi di st ho wa) k i x).1 g = if i ≤ g ∧ g < i + k then (if vHope st ho wa g ≤ lo then x.1 g else if hi ≤ vHope st ho wa g then x.1 g else addA (x.1 g)) else x.1 g :=
  lpN_pt (fun y => y.1) (fun g a => if vHope st ho wa g ≤ lo then a else if hi ≤ vHope st ho wa g then a else addA a) (fun i y g => by
    simp only [sTv]
    by_cases h1 : vHope st ho wa i ≤ lo
    · rw [if_pos h1, if_pos h1]
      split
      · rename_i q; rw [q]
      · rfl
    · rw [if_neg h1, if_neg h1]
      by_cases h2 : hi ≤ vHope st ho wa i
      · rw [if_pos h2, if_pos h2]
        split
        · rename_i q; rw [q]
        · rfl
      · rw [if_neg h2, if_neg h2]
        exact vAdd_v) k i x g
theorem tv_2 {lo hi di : Int32} {st ho wa : Nat → Int32} (k i : Nat) (x : (Nat → Int32) × (Nat → Int32)) (g : Nat) : (lpN (sTv lo hi di st ho wa) k i x).2 g = if i ≤ g ∧ g < i + k then (if st g = 1 then x.2 g + di else x.2 g) else x.2 g :=
  lpN_pt (fun y => y.2) (fun g a => if st g = 1 then a + di else a) (fun i y g => by
    simp only [sTv]
    by_cases h1 : st i = 1
    · rw [if_pos h1, if_pos h1]; exact upd_v
    · rw [if_neg h1, if_neg h1]
      split
      · rename_i q; rw [q]
      · rfl) k i x g
theorem go_1 {n3 t : Int32} {st : Nat → Int32} (k i : Nat) (x : (Nat → Int32) × (Nat → Int32)) (g : Nat) : (lpN (sGoM n3 t st) k i x).1 g = if i ≤ g ∧ g < i + k then (if st g = 1 then t else x.1 g) else x.1 g :=
  lpN_pt (fun y => y.1) (fun g a => if st g = 1 then t else a) (fun i y g => by
    simp only [sGoM]
    by_cases h1 : st i = 1
    · rw [if_pos h1, if_pos h1]; exact upd_v
    · rw [if_neg h1, if_neg h1]
      split
      · rename_i q; rw [q]
      · rfl) k i x g
theorem go_2 {n3 t : Int32} {st : Nat → Int32} (k i : Nat) (x : (Nat → Int32) × (Nat → Int32)) (g : Nat) : (lpN (sGoM n3 t st) k i x).2 g = if i ≤ g ∧ g < i + k then (if st g = 1 then x.2 g + n3 else x.2 g) else x.2 g :=
  lpN_pt (fun y => y.2) (fun g a => if st g = 1 then a + n3 else a) (fun i y g => by
    simp only [sGoM]
    by_cases h1 : st i = 1
    · rw [if_pos h1, if_pos h1]; exact upd_v
    · rw [if_neg h1, if_neg h1]
      split
      · rename_i q; rw [q]
      · rfl) k i x g
theorem pass_v {st wa ho : Nat → Int32} {f : Int32} (k i : Nat) (x : Nat → Int32) (g : Nat) : lpN (sPass st wa ho f) k i x g = if i ≤ g ∧ g < i + k then (if (st g = 0 ∧ wa g = f) ∨ (st g = 1 ∧ ho g = f) then addB (x g) else x g) else x g :=
  lpN_pt (fun y => y) (fun g a => if (st g = 0 ∧ wa g = f) ∨ (st g = 1 ∧ ho g = f) then addB a else a) (fun i y g => by
    have same : y g = if g = i then y i else y g := by
      split
      · rename_i q; rw [q]
      · rfl
    simp only [sPass]
    by_cases h0 : st i = 0
    · have h1 : ¬ st i = 1 := by rw [h0]; decide
      rw [if_pos h0]
      by_cases h2 : wa i = f
      · rw [if_pos h2, if_pos (Or.inl ⟨h0, h2⟩)]; exact vAddM_v
      · have nc : ¬ ((st i = 0 ∧ wa i = f) ∨ (st i = 1 ∧ ho i = f)) := fun q => q.elim (fun q => h2 q.2) (fun q => h1 q.1)
        rw [if_neg h2, if_neg h1, if_neg nc]; exact same
    · rw [if_neg h0]
      by_cases h1 : st i = 1
      · rw [if_pos h1]
        by_cases h2 : ho i = f
        · rw [if_pos h2, if_pos (Or.inr ⟨h1, h2⟩)]; exact vAddM_v
        · have nc : ¬ ((st i = 0 ∧ wa i = f) ∨ (st i = 1 ∧ ho i = f)) := fun q => q.elim (fun q => h0 q.1) (fun q => h2 q.2)
          rw [if_neg h2, if_neg nc]; exact same
      · have nc : ¬ ((st i = 0 ∧ wa i = f) ∨ (st i = 1 ∧ ho i = f)) := fun q => q.elim (fun q => h0 q.1) (fun q => h1 q.1)
        rw [if_neg h1, if_neg nc]; exact same) k i x g
/-- the floors of the way are all different -/
theorem vFl_inj {F T d s s2 : Nat} (hF : F < 7) (hT : T < 7) (hd : d = if T ≤ F then F - T else T - F) (h1 : s ≤ d) (h2 : s2 ≤ d) (h : vFl F T s = vFl F T s2) : s = s2 := by
  unfold vFl at h
  split at hd <;> rename_i q
  · rw [if_pos q, if_pos q, nI_eq (by omega) (by omega)] at h; omega
  · rw [if_neg q, if_neg q, nI_eq (by omega) (by omega)] at h; omega
/-- whether one of the first i floors on the way, the last apart, is the one that the guest hopes for -/
def onWay (st wa ho : Nat → Int32) (F T d i g : Nat) : Prop := ∃ s, 1 ≤ s ∧ s ≤ i ∧ s < d ∧ ((st g = 0 ∧ wa g = vFl F T s) ∨ (st g = 1 ∧ ho g = vFl F T s))
theorem way_v {n F T d : Nat} {st wa ho gr : Nat → Int32} (hF : F < 7) (hT : T < 7) (hd : d = if T ≤ F then F - T else T - F) : ∀ i : Nat, i ≤ d → (lpN (sWay n (nI T) (vBy (nI T) (nI F)) st wa ho) i 0 (nI F, gr)).1 = vFl F T i ∧ ∀ g, (onWay st wa ho F T d i g ∧ g < n → (lpN (sWay n (nI T) (vBy (nI T) (nI F)) st wa ho) i 0 (nI F, gr)).2 g = addB (gr g)) ∧ (¬ (onWay st wa ho F T d i g ∧ g < n) → (lpN (sWay n (nI T) (vBy (nI T) (nI F)) st wa ho) i 0 (nI F, gr)).2 g = gr g) := by
  intro i
  induction i with
  | zero =>
    intro _
    refine ⟨vFl_0.symm, fun g => ⟨fun ⟨⟨s, h1, h2, _⟩, _⟩ => by omega, fun _ => rfl⟩⟩
  | succ i ih =>
    intro hi
    obtain ⟨a, b⟩ := ih (by omega)
    rw [lpN_last]
    generalize lpN (sWay n (nI T) (vBy (nI T) (nI F)) st wa ho) i 0 (nI F, gr) = y at a b
    have hn := vFl_next hF hT hd (show i < d by omega)
    have e1 : (sWay n (nI T) (vBy (nI T) (nI F)) st wa ho (0 + i) y).1 = vFl F T (i + 1) := by
      unfold sWay
      rw [a, hn]
      split <;> rfl
    refine ⟨e1, fun g => ?_⟩
    by_cases hl : d = i + 1
    · have e2 : (sWay n (nI T) (vBy (nI T) (nI F)) st wa ho (0 + i) y).2 = y.2 := by
        unfold sWay
        rw [a, hn, if_pos ((vFl_end hF hT hd hi).mpr hl)]
      rw [e2]
      have e3 : onWay st wa ho F T d (i + 1) g ↔ onWay st wa ho F T d i g := ⟨fun ⟨s, h1, h2, h3, h4⟩ => ⟨s, h1, by omega, h3, h4⟩, fun ⟨s, h1, h2, h3, h4⟩ => ⟨s, h1, by omega, h3, h4⟩⟩
      rw [e3]
      exact b g
    · have e2 : (sWay n (nI T) (vBy (nI T) (nI F)) st wa ho (0 + i) y).2 = lpN (sPass st wa ho (vFl F T (i + 1))) n 0 y.2 := by
        unfold sWay
        rw [a, hn, if_neg (fun q => hl ((vFl_end hF hT hd hi).mp q))]
      rw [e2, pass_v]
      by_cases hg : g < n
      · rw [if_pos (by omega)]
        by_cases hc : (st g = 0 ∧ wa g = vFl F T (i + 1)) ∨ (st g = 1 ∧ ho g = vFl F T (i + 1))
        · rw [if_pos hc]
          have no : ¬ onWay st wa ho F T d i g := by
            rintro ⟨s, h1, h2, h3, h4⟩
            have : s = i + 1 := vFl_inj hF hT hd (by omega) (by omega) (by
              rcases h4 with ⟨p1, p2⟩ | ⟨p1, p2⟩ <;> rcases hc with ⟨q1, q2⟩ | ⟨q1, q2⟩
              · exact p2.symm.trans q2
              · rw [p1] at q1; exact absurd q1 (by decide)
              · rw [p1] at q1; exact absurd q1 (by decide)
              · exact p2.symm.trans q2)
            omega
          rw [(b g).2 (fun q => no q.1)]
          exact ⟨fun _ => rfl, fun q => absurd ⟨⟨i + 1, by omega, by omega, by omega, hc⟩, hg⟩ q⟩
        · rw [if_neg hc]
          have e3 : onWay st wa ho F T d (i + 1) g ↔ onWay st wa ho F T d i g := ⟨fun ⟨s, h1, h2, h3, h4⟩ => ⟨s, h1, by
            rcases Nat.lt_or_ge s (i + 1) with q | q
            · omega
            · obtain rfl : s = i + 1 := by omega
              exact absurd h4 hc, h3, h4⟩, fun ⟨s, h1, h2, h3, h4⟩ => ⟨s, h1, by omega, h3, h4⟩⟩
          rw [e3]
          exact b g
      · rw [if_neg (by omega)]
        exact ⟨fun q => absurd q.2 hg, fun _ => (b g).2 (fun q => hg q.2)⟩
/-- which guests are passed: the two ways to tell it -/
theorem passed {F T d g : Nat} {st ho wa wb : Nat → Int32} (hF : F < 7) (hT : T < 7) (hd : d = if T ≤ F then F - T else T - F) (h3 : ∃ a : Nat, a < 3 ∧ st g = nI a) (hw : st g = 0 → wb g = wa g) : onWay st wb ho F T d d g ↔ (¬ vHope st ho wa g ≤ vLo (nI T) (nI F) ∧ ¬ vHi (nI T) (nI F) ≤ vHope st ho wa g) := by
  have hlo : vLo (nI T) (nI F) = nI (if T ≤ F then T else F) := by
    unfold vLo
    by_cases q : F ≤ T
    · rw [if_pos (nI_le q (by omega))]; congr 1; split <;> omega
    · rw [if_neg (nI_ge (by omega) (by omega)), if_pos (by omega)]
  have hhi : vHi (nI T) (nI F) = nI (if T ≤ F then F else T) := by
    unfold vHi
    by_cases q : F ≤ T
    · rw [if_pos (nI_le q (by omega))]; congr 1; split <;> omega
    · rw [if_neg (nI_ge (by omega) (by omega)), if_pos (by omega)]
  have core : ∀ hp : Int32, (∃ s, 1 ≤ s ∧ s ≤ d ∧ s < d ∧ hp = vFl F T s) ↔ (¬ hp ≤ vLo (nI T) (nI F) ∧ ¬ vHi (nI T) (nI F) ≤ hp) := by
    intro hp
    rw [hlo, hhi]
    constructor
    · rintro ⟨s, h1, h2, h4, rfl⟩
      unfold vFl
      split at hd <;> rename_i q
      · rw [if_pos q, if_pos q, if_pos q]
        exact ⟨nI_ge (by omega) (by omega), nI_ge (by omega) (by omega)⟩
      · rw [if_neg q, if_neg q, if_neg q]
        exact ⟨nI_ge (by omega) (by omega), nI_ge (by omega) (by omega)⟩
    · rintro ⟨h1, h2⟩
      have h0 : ¬ hp < 0 := fun q => h1 (by
        have q2 := Int32.lt_iff_toInt_lt.mp q
        rw [Int32.le_iff_toInt_le, nI_toInt (by split <;> omega)]
        have : (0 : Int32).toInt = 0 := rfl
        omega)
      obtain ⟨c, hc, rfl⟩ := nI_of h0
      rw [nI_leI hc (by split <;> omega)] at h1
      rw [nI_leI (by split <;> omega) hc] at h2
      unfold vFl
      split at hd <;> rename_i q
      · rw [if_pos q] at h1 h2
        refine ⟨F - c, by omega, by omega, by omega, ?_⟩
        rw [if_pos q]
        congr 1
        omega
      · rw [if_neg q] at h1 h2
        refine ⟨c - F, by omega, by omega, by omega, ?_⟩
        rw [if_neg q]
        congr 1
        omega
  obtain ⟨a, ha, ea⟩ := h3
  rcases (show a = 0 ∨ a = 1 ∨ a = 2 by omega) with q | q | q <;> subst q
  · have e0 : st g = 0 := ea
    have e : vHope st ho wa g = wa g := by unfold vHope; rw [e0, if_neg (by decide), if_neg (by decide)]
    rw [e, ← core (wa g)]
    exact ⟨fun ⟨s, h1, h2, h4, h5⟩ => ⟨s, h1, h2, h4, h5.elim (fun z => (hw e0).symm.trans z.2) (fun z => by rw [e0] at z; exact absurd z.1 (by decide))⟩, fun ⟨s, h1, h2, h4, h5⟩ => ⟨s, h1, h2, h4, Or.inl ⟨e0, (hw e0).trans h5⟩⟩⟩
  · have e1 : st g = 1 := ea
    have e : vHope st ho wa g = ho g := by unfold vHope; rw [e1, if_neg (by decide), if_pos rfl]
    rw [e, ← core (ho g)]
    exact ⟨fun ⟨s, h1, h2, h4, h5⟩ => ⟨s, h1, h2, h4, h5.elim (fun z => by rw [e1] at z; exact absurd z.1 (by decide)) (fun z => z.2)⟩, fun ⟨s, h1, h2, h4, h5⟩ => ⟨s, h1, h2, h4, Or.inr ⟨e1, h5⟩⟩⟩
  · have e2 : st g = 2 := ea
    have e : vHope st ho wa g = -1 := by unfold vHope; rw [e2, if_pos rfl]
    rw [e]
    refine ⟨fun ⟨s, h1, h2, h4, h5⟩ => by rw [e2] at h5; exact h5.elim (fun z => absurd z.1 (by decide)) (fun z => absurd z.1 (by decide)), fun z => absurd ?_ z.1⟩
    rw [hlo, Int32.le_iff_toInt_le, nI_toInt (by split <;> omega)]
    have : (-1 : Int32).toInt = -1 := rfl
    omega
theorem sum_in {st we : Nat → Int32} {i : Nat} (h0 : ¬ st i = 1) : ∀ (k j : Nat) (a : Int32), lpN (sWR (upd st i 1) we) k j a = (if j ≤ i ∧ i < j + k then lpN (sWR st we) k j a + we i else lpN (sWR st we) k j a)
  | 0, j, a => by rw [if_neg (by omega)]; rfl
  | k + 1, j, a => by
    show lpN (sWR (upd st i 1) we) k (j + 1) (sWR (upd st i 1) we j a) = if _ then lpN (sWR st we) k (j + 1) (sWR st we j a) + we i else lpN (sWR st we) k (j + 1) (sWR st we j a)
    have sh : ∀ (k j : Nat) (a c : Int32), lpN (sWR st we) k j (a + c) = lpN (sWR st we) k j a + c := by
      intro k
      induction k with
      | zero => intro j a c; rfl
      | succ k ih =>
        intro j a c
        show lpN (sWR st we) k (j + 1) (sWR st we j (a + c)) = lpN (sWR st we) k (j + 1) (sWR st we j a) + c
        rw [← ih]
        congr 1
        unfold sWR
        split
        · rw [Int32.add_assoc, Int32.add_assoc, Int32.add_comm c]
        · rfl
    rw [sum_in h0 k (j + 1)]
    by_cases hj : j = i
    · subst hj
      rw [if_neg (by omega), if_pos (by omega), ← sh]
      congr 1
      unfold sWR
      rw [upd_v, if_pos rfl, if_pos rfl, if_neg h0]
    · have e : sWR (upd st i 1) we j a = sWR st we j a := by
        unfold sWR
        rw [upd_v, if_neg hj]
      rw [e]
      by_cases h2 : j + 1 ≤ i ∧ i < j + 1 + k
      · rw [if_pos h2, if_pos (by omega)]
      · rw [if_neg h2, if_neg (by omega)]
