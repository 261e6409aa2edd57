/-! the reference's calls: K the number of the exception (0: none), the answer, the state behind it -/
theorem inL_nat {v c : Int32} {k : Nat} (hk : k < 2 ^ 31) (hc : c = nI k) (h : inL v.toInt64 0 c.toInt64) : ∃ w : Nat, w ≤ k ∧ v = nI w := by
  obtain ⟨h1, h2⟩ := (inI (x := v) (a := 0) (c := c)).mp h
  obtain ⟨j, hj, rfl⟩ := nI_of h1
  subst hc
  refine ⟨j, ?_, rfl⟩
  rcases Nat.lt_or_ge k j with q | q
  · exact absurd (nI_lt q hj) h2
  · exact q
def kG (gu g : Int32) : Int32 := if isG gu g then 0 else 1
def kApp (z : Nat) (v : Int32) : Int32 := if inL v.toInt64 0 255 then (if z = 120 then 2 else 0) else 1
def kAbout (v : Int32) : Int32 := if inL v.toInt64 0 11 then 0 else 1
def kGuest (gu g v : Int32) : Int32 := if isG gu g then (if inL v.toInt64 0 7 then 0 else 2) else 1
def kFloor (f v : Int32) : Int32 := if okF f then (if inL v.toInt64 0 2 then 0 else 2) else 1
def kSetg (v : Int32) : Int32 := if inL v.toInt64 0 2 then 0 else 1
def kCome (n : Nat) (bb a z w : Int32) : Int32 := if okF bb then (if okF a then (if okF z then (if inL w.toInt64 1 4 then (if 4 ≤ n then 3 else 0) else 2) else 1) else 1) else 1
def kSet (w v : Int32) : Int32 := if okSV w v then 0 else 1
def kUndo (a9 : Nat) : Int32 := if a9 = 0 then 1 else 0
def kSave (v : Int32) : Int32 := if inL v.toInt64 0 1 then 0 else 1
