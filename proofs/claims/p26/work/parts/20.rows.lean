/-! more of the reference's rows -/
theorem okSV_iff {w v : Int32} : okSV w v ↔ (w = 0 ∧ inL v.toInt64 4 16) ∨ ((w = 1 ∨ w = 2) ∧ inL v.toInt64 1 9) := by
  have h0 : inL v.toInt64 4 16 ↔ (¬ v < 4 ∧ ¬ 16 < v) := inI (x := v) (a := 4) (c := 16)
  have h1 : inL v.toInt64 1 9 ↔ (¬ v < 1 ∧ ¬ 9 < v) := inI (x := v) (a := 1) (c := 9)
  rw [h0, h1]
  constructor
  · intro ⟨g, a, b⟩
    obtain ⟨j, hj, rfl⟩ := isG_of (n := 3) (by decide) g
    rw [nI_clamp (by omega)] at a b
    rcases (show j = 0 ∨ j = 1 ∨ j = 2 by omega) with h | h | h <;> subst h
    · exact Or.inl ⟨rfl, a, b⟩
    · exact Or.inr ⟨Or.inl rfl, a, b⟩
    · exact Or.inr ⟨Or.inr rfl, a, b⟩
  · rintro (⟨rfl, a, b⟩ | ⟨rfl | rfl, a, b⟩)
    · exact ⟨by decide, a, b⟩
    · exact ⟨by decide, a, b⟩
    · exact ⟨by decide, a, b⟩
