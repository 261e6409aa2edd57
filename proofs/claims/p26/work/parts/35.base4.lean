/-! rows of presses as numbers to the base 4 -/
def RelX (x y : HS) : Prop := ∃ n : Nat, n ≤ 4 ∧ RelN n x y
