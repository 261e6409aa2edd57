/-! the reference's questions -/
def kFew (v : Int32) : Int32 := if inL v.toInt64 0 1 then 0 else 1
/-- a simulation: seed and hotel -/
def hN (z : HS) : Nat := z.1.1.toNatClampNeg
def sNx (s : Int64) : Int64 := s * 6364136223846793005 + 1442695040888963407
def sBits (s : Int64) : Int32 := ((s.toUInt64 >>> ((33 : Int32).toInt64.toUInt64 &&& Int64.toUInt64 63)).toInt64).toInt32
def sSim : Nat → Int64 × HS → Int64 × HS := fun _ y => (sNx y.1, hTurn (hN y.2) (sBits (sNx y.1)) y.2)
theorem relX_n {z y : HS} (h : RelX z y) : hN z ≤ 4 ∧ RelN (hN z) z y := by
  obtain ⟨n, hn, hR⟩ := h
  have e : hN z = n := by unfold hN; rw [hR.1, nI_clamp (by omega)]
  rw [e]
  exact ⟨hn, hR⟩
def kSim (m : Int32) : Int32 := if inL m.toInt64 1 100 then 0 else 1
def vSim (x z : HS) : Int32 := 10000 * (z.1.2.2.2.1 - x.1.2.2.2.1) + 100 * (z.1.2.2.2.2.2.2 - x.1.2.2.2.2.2.2) + hAG (hN z) z
