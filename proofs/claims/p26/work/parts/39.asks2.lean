theorem inL_1 {v c : Int32} {k : Nat} (hk : k < 2 ^ 31) (hc : c = nI k) (h : inL v.toInt64 1 c.toInt64) : ∃ w : Nat, 1 ≤ w ∧ w ≤ k ∧ v = nI w := by
  obtain ⟨h1, h2⟩ := (inI (x := v) (a := 1) (c := c)).mp h
  have h0 : ¬ v < 0 := fun q => h1 (by
    rw [Int32.lt_iff_toInt_lt] at q ⊢
    have e0 : (0 : Int32).toInt = 0 := rfl
    have e1 : (1 : Int32).toInt = 1 := rfl
    omega)
  obtain ⟨j, hj, rfl⟩ := nI_of h0
  subst hc
  refine ⟨j, ?_, ?_, rfl⟩
  · rcases Nat.eq_zero_or_pos j with q | q
    · subst q; exact absurd (by decide) h1
    · exact q
  · rcases Nat.lt_or_ge k j with q | q
    · exact absurd (nI_lt q hj) h2
    · exact q
def kIfp (v row what : Int32) : Int32 := if inL v.toInt64 1 5 then (if inL row.toInt64 0 (nI (10 ^ min v.toNatClampNeg 5 - 1)).toInt64 then (if inL what.toInt64 0 4 then 0 else 1) else 1) else 1
def vIfp (n : Nat) (x z : HS) (what : Int32) : Int32 := if what = 0 then z.1.2.2.2.1 - x.1.2.2.2.1 else if what = 1 then z.1.2.2.1 - x.1.2.2.1 else if what = 2 then hAG n z else if what = 3 then hGI n z 2 else z.1.2.1
theorem p10_le {e m : Nat} (h : e ≤ m) : 10 ^ e ≤ 10 ^ m := Nat.pow_le_pow_right (by decide) h
