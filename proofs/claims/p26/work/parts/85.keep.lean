/-! what holds of all that an object keeps; remembering and taking back -/
def Cnt (x : HS) : Nat := (x.1.2.2.2.1 + x.1.2.2.2.2.1).toNatClampNeg
def Good (B : Nat) (x : HS) : Prop := ∃ n, 1 ≤ n ∧ Hx B n x
def Weak (B : Nat) (x : HS) : Prop := ∃ n, Hx B n x ∧ (1 ≤ n ∨ Cnt x = 0)
/-- each counts at most one more than the one before -/
def Chn : List HS → Prop
  | [] => True
  | [_] => True
  | a :: b :: l => Cnt b ≤ Cnt a + 1 ∧ Chn (b :: l)
theorem Chn.tail {a : HS} {l : List HS} (h : Chn (a :: l)) : Chn l := by
  cases l with
  | nil => trivial
  | cons b l => exact h.2
theorem Chn.drop {l : List HS} : ∀ {k : List HS}, Chn (k ++ l) → Chn l
  | [], h => h
  | _ :: k, h => Chn.drop (k := k) (Chn.tail h)
theorem Chn.add {x y : HS} (hxy : Cnt y ≤ Cnt x + 1) : ∀ {l : List HS}, Chn (l ++ [x]) → Chn (l ++ [x] ++ [y])
  | [], _ => ⟨hxy, trivial⟩
  | [a], h => ⟨h.1, hxy, trivial⟩
  | a :: b :: l, h => ⟨h.1, Chn.add hxy (l := b :: l) h.2⟩
theorem Chn.two {x y : HS} : ∀ {l : List HS}, Chn (l ++ [x] ++ [y]) → Chn (l ++ [x]) ∧ Cnt y ≤ Cnt x + 1
  | [], h => ⟨trivial, h.1⟩
  | [a], h => ⟨⟨h.1, trivial⟩, h.2.1⟩
  | a :: b :: l, h => by
    obtain ⟨h1, h2⟩ := Chn.two (l := b :: l) h.2
    exact ⟨⟨h.1, h1⟩, h2⟩
def Inv (B : Nat) (v : AV) : Prop := Good B v.1 ∧ (∀ m ∈ v.2.1, Weak B m) ∧ Chn (v.2.1 ++ [v.1]) ∧ v.2.1.length ≤ 14 ∧ (∀ q, v.2.2.1 = some q → Good B q) ∧ ∀ q, v.2.2.2 = some q → Good B q
theorem Inv.Ok {B : Nat} {v : AV} (h : Inv B v) : Okv v := by
  obtain ⟨⟨n, -, h1⟩, -, -, -, h2, h3⟩ := h
  exact ⟨h1.O, fun q e => by obtain ⟨k, -, w⟩ := h2 q e; exact w.O, fun q e => by obtain ⟨k, -, w⟩ := h3 q e; exact w.O⟩
theorem Good.up {B C : Nat} {x : HS} (h : Good B x) (hBC : B ≤ C) : Good C x := by
  obtain ⟨n, h1, h2⟩ := h
  exact ⟨n, h1, h2.up hBC⟩
theorem Weak.up {B C : Nat} {x : HS} (h : Weak B x) (hBC : B ≤ C) : Weak C x := by
  obtain ⟨n, h1, h2⟩ := h
  exact ⟨n, h1.up hBC, h2⟩
theorem Good.weak {B : Nat} {x : HS} (h : Good B x) : Weak B x := by
  obtain ⟨n, h1, h2⟩ := h
  exact ⟨n, h2, Or.inl h1⟩
theorem Inv.up {B C : Nat} {v : AV} (h : Inv B v) (hBC : B ≤ C) : Inv C v := by
  obtain ⟨h1, h2, h3, h4, h5, h6⟩ := h
  exact ⟨h1.up hBC, fun m hm => (h2 m hm).up hBC, h3, h4, fun q e => (h5 q e).up hBC, fun q e => (h6 q e).up hBC⟩
/-- the same but for remembered ones that were forgotten -/
def Sfx (v w : AV) : Prop := v.1 = w.1 ∧ v.2.2 = w.2.2 ∧ ∃ l, w.2.1 = l ++ v.2.1
theorem Sfx.rf {v : AV} : Sfx v v := ⟨rfl, rfl, [], rfl⟩
theorem Sfx.tr {u v w : AV} (h : Sfx u v) (k : Sfx v w) : Sfx u w := by
  obtain ⟨h1, h2, l, h3⟩ := h
  obtain ⟨k1, k2, m, k3⟩ := k
  exact ⟨h1.trans k1, h2.trans k2, m ++ l, by rw [k3, h3, List.append_assoc]⟩
theorem Inv.sfx {B : Nat} {v w : AV} (h : Inv B w) (k : Sfx v w) : Inv B v := by
  obtain ⟨h1, h2, h3, h4, h5, h6⟩ := h
  obtain ⟨k1, k2, l, k3⟩ := k
  rw [k3] at h2 h3 h4
  refine ⟨by rw [k1]; exact h1, fun m hm => h2 m (List.mem_append_right _ hm), ?_, ?_, by rw [k2]; exact h5, by rw [k2]; exact h6⟩
  · rw [k1]
    rw [List.append_assoc] at h3
    exact h3.drop
  · rw [List.length_append] at h4
    omega
theorem pushM_mem {M : List HS} {x m : HS} (h : m ∈ pushM M x) : m ∈ M ∨ m = x := by
  unfold pushM at h
  rcases List.mem_append.mp h with q | q
  · left
    split at q
    · exact List.mem_of_mem_drop q
    · exact q
  · exact Or.inr (List.mem_singleton.mp q)
theorem pushM_len {M : List HS} {x : HS} (h : M.length ≤ 14) : (pushM M x).length ≤ 14 := by
  unfold pushM
  rw [List.length_append, List.length_singleton]
  split
  · rw [List.length_drop]; omega
  · omega
theorem pushM_chn {M : List HS} {x y : HS} (h : Chn (M ++ [x])) (hxy : Cnt y ≤ Cnt x + 1) : Chn (pushM M x ++ [y]) := by
  unfold pushM
  split
  · have e : M ++ [x] = M.take 1 ++ (M.drop 1 ++ [x]) := by rw [← List.append_assoc, List.take_append_drop]
    rw [e] at h
    exact Chn.add hxy h.drop
  · exact Chn.add hxy h
/-- an action that keeps the hotel good -/
theorem inv_push {B : Nat} {v : AV} {y : HS} (h : Inv B v) (hy : Good (B + 1) y) (hc : Cnt y ≤ Cnt v.1 + 1) : Inv (B + 1) (aPush v y) := by
  obtain ⟨h1, h2, h3, h4, h5, h6⟩ := h.up (Nat.le_succ B)
  refine ⟨hy, fun m hm => ?_, pushM_chn h3 hc, pushM_len h4, h5, h6⟩
  rcases pushM_mem hm with q | q
  · exact h2 m q
  · rw [q]; exact h1.weak
/-- k presses on: what k times taking back brings again -/
def Bk (k : Nat) (w v : AV) : Prop := ∃ S xs : List HS, xs.length = k ∧ w.2.1 = S ++ xs ∧ (∃ l, v.2.1 = l ++ S) ∧ w.2.2 = v.2.2 ∧ (xs ++ [w.1]).head? = some v.1 ∧ w.2.1.length ≤ 14
theorem bk_0 {v : AV} (h : v.2.1.length ≤ 14) : Bk 0 v v := ⟨v.2.1, [], rfl, (List.append_nil _).symm, ⟨[], rfl⟩, rfl, rfl, h⟩
theorem bk_push {k : Nat} {w v : AV} {y : HS} (h : Bk k w v) (hk : k < 14) : Bk (k + 1) (aPush w y) v := by
  obtain ⟨S, xs, h1, h2, ⟨l, h3⟩, h4, h5, h6⟩ := h
  have hh : ((xs ++ [w.1]) ++ [y]).head? = some v.1 := by
    cases xs with
    | nil => exact h5
    | cons a t => exact h5
  have hlen := pushM_len (x := w.1) h6
  have e : (aPush w y).2.1 = pushM w.2.1 w.1 := rfl
  by_cases q : w.2.1.length = 14
  · cases S with
    | nil =>
      rw [h2] at q
      simp only [List.nil_append] at q
      omega
    | cons a S =>
      refine ⟨S, xs ++ [w.1], by rw [List.length_append, h1]; rfl, ?_, ⟨l ++ [a], by rw [h3, List.append_assoc]; rfl⟩, h4, hh, hlen⟩
      rw [e]
      unfold pushM
      rw [if_pos q, h2, ← List.append_assoc]
      rfl
  · refine ⟨S, xs ++ [w.1], by rw [List.length_append, h1]; rfl, ?_, ⟨l, h3⟩, h4, hh, hlen⟩
    rw [e]
    unfold pushM
    rw [if_neg q, h2, List.append_assoc]
theorem bk_pop {k : Nat} {w v : AV} (h : Bk (k + 1) w v) : (∃ a : Nat, a < 14 ∧ (aUndo w).1 = nI a) ∧ Bk k (aUndo w).2 v := by
  obtain ⟨S, xs, h1, h2, h3, h4, h5, h6⟩ := h
  obtain ⟨ys, z, rfl⟩ : ∃ ys z, xs = ys ++ [z] := ⟨xs.dropLast, xs.getLast (by intro q; rw [q] at h1; simp at h1), (List.dropLast_concat_getLast _).symm⟩
  have e1 : w.2.1 = (S ++ ys) ++ [z] := by rw [h2, List.append_assoc]
  have e : aUndo w = (nI (w.2.1.length - 1), (z, S ++ ys, w.2.2)) := by
    unfold aUndo
    rw [show w.2.1.getLast? = some z by rw [e1, List.getLast?_concat], show w.2.1.dropLast = S ++ ys by rw [e1, List.dropLast_concat]]
  rw [e]
  refine ⟨⟨w.2.1.length - 1, by omega, rfl⟩, S, ys, ?_, rfl, h3, h4, ?_, ?_⟩
  · rw [List.length_append, List.length_singleton] at h1
    omega
  · cases ys with
    | nil => exact h5
    | cons a t => exact h5
  · show (S ++ ys).length ≤ 14
    rw [e1, List.length_append] at h6
    omega
theorem bk_end {w v : AV} (h : Bk 0 w v) : Sfx w v := by
  obtain ⟨S, xs, h1, h2, ⟨l, h3⟩, h4, h5, h6⟩ := h
  obtain rfl : xs = [] := List.eq_nil_of_length_eq_zero h1
  rw [List.append_nil] at h2
  exact ⟨Option.some_inj.mp h5, h4, l, by rw [h2]; exact h3⟩
theorem bk_len {k : Nat} {w v : AV} (h : Bk k w v) : w.2.2 = v.2.2 := by
  obtain ⟨S, xs, h1, h2, h3, h4, h5, h6⟩ := h
  exact h4
