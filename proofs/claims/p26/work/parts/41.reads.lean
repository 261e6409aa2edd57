/-! reading a text: what is wrong from a place on, and what the commands do -/
def hi2 (z : Nat) (f : Nat → Int32) (s : Nat) : Nat := if vDig z f (nI s) = 1 then 6 else 9
/-- the class's command at a place: whether it is done, and the hotel behind it -/
def vCmd (z : Nat) (f : Nat → Int32) (s : Nat) (x : HS) : Int32 × HS :=
  if vSign z f (nI s) = 103 then (if okC (hN x) (vDig z f (nI (s + 1))) (vDig z f (nI (s + 2))) (vDig z f (nI (s + 3))) (vDig z f (nI (s + 4))) then 1 else 0, hAdm (hN x) (vDig z f (nI (s + 1))) (vDig z f (nI (s + 2))) (vDig z f (nI (s + 3))) (vDig z f (nI (s + 4))) x)
  else if vSign z f (nI s) = 112 then (zb (hReas x (vDig z f (nI (s + 1))) = 0), hWill (hN x) x (vDig z f (nI (s + 1))))
  else if vSign z f (nI s) = 114 then (1, hRest (hN x) x)
  else if vSign z f (nI s) = 108 then (zb (¬ hGr x (vDig z f (nI (s + 1))) = -1), hLeave (hN x) x (vDig z f (nI (s + 1))))
  else if vSign z f (nI s) = 101 then (zb (¬ hSetR x (vDig z f (nI (s + 1))) (10 * vDig z f (nI (s + 2)) + vDig z f (nI (s + 3))) = -1), hSet (vDig z f (nI (s + 1))) (10 * vDig z f (nI (s + 2)) + vDig z f (nI (s + 3))) x)
  else if vSign z f (nI s) = 98 then (1, hWill (hN x) x (hBst (hN x) x))
  else (0, x)
/-- the commands of a text, from the left: how many are left out, and the hotel -/
def sLd (z : Nat) (f : Nat → Int32) : Nat → Int32 × HS → Int32 × HS := fun s y => if vDof (vSign z f (nI s)) = -1 then y else (if (vCmd z f s y.2).1 = 0 then y.1 + 1 else y.1, (vCmd z f s y.2).2)
section RCG
variable {z s : Nat} {f : Nat → Int32}
variable {n : Nat} {x w : HS} {ou : Int32}
theorem one {P : Nat → Prop} (h0 : P 0) : ∀ i, i < 1 → P i := fun i hi => by
  obtain rfl : i = 0 := by omega
  exact h0
end RCG
/-- reading a text whole -/
def vLd (z : Nat) (f : Nat → Int32) : Int32 × HS := lpN (sLd z f) (z - 1) 1 (0, hot0)
