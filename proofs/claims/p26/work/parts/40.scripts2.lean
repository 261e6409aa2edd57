/-! commands of a script on both sides -/
theorem m1_ne {k : Nat} (h : k < 2 ^ 31) : ¬ (-1 : Int32) = nI k := fun q => by
  have := congrArg Int32.toInt q
  rw [nI_toInt h] at this
  have e1 : (-1 : Int32).toInt = -1 := rfl
  omega
theorem ne_m1 {k : Nat} (h : k < 2 ^ 31) : ¬ nI k = -1 := fun q => m1_ne h q.symm
/-- a script: its groups from the left -/
def kRun (v : Int32) (s : Int64) : Int32 := if inL v.toInt64 1 3 then (if inL s 0 (lN (100000 ^ min v.toNatClampNeg 3) - 1) then 0 else 1) else 1
def sRun (m k : Nat) : Nat → HS → Int32 ⊕ HS := fun i z => if hScrR (hN z) (k / 100000 ^ (m - 1 - i) % 100000) z = 0 then .inl (nI i) else .inr (hScrU (hN z) (k / 100000 ^ (m - 1 - i) % 100000) z)
def vRun (v : Int32) (s : Int64) (x : HS) : Int32 := lpE (sRun v.toNatClampNeg s.toInt.toNat) (fun _ => -1) v.toNatClampNeg 0 x
theorem p5_le {e m : Nat} (h : e ≤ m) : 100000 ^ e ≤ 100000 ^ m := Nat.pow_le_pow_right (by decide) h
theorem lN_nat {k : Nat} (h : k < 2 ^ 63) : (lN k).toInt.toNat = k := by rw [pk_lT h]; rfl
