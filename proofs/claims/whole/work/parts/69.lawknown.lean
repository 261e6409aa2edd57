/-! the law: what is known at its entry, its loop, its start -/
section KN
variable {s : State} {args : Array Value}
theorem kn_int (h : (Cond.arrayClass .int).before args s = true) : ∃ cA, ArrOfT s cA .int ∧ va_RA s cA .int := by
  obtain ⟨c, k, comp, h1, h2, h3⟩ := Cond.arrayClass_spec h
  exact ⟨c, fun n z => ⟨fun k h => (by cases h), k, h2, comp, h3⟩, h1⟩
theorem kn_char (h : (Cond.arrayClass .char).before args s = true) : ∃ cA, ArrOfT s cA .char ∧ va_RA s cA .char := by
  obtain ⟨c, k, comp, h1, h2, h3⟩ := Cond.arrayClass_spec h
  exact ⟨c, fun n z => ⟨fun k h => (by cases h), k, h2, comp, h3⟩, h1⟩
theorem kn_boolean (h : (Cond.arrayClass .boolean).before args s = true) : ∃ cA, ArrOfT s cA .boolean ∧ va_RA s cA .boolean := by
  obtain ⟨c, k, comp, h1, h2, h3⟩ := Cond.arrayClass_spec h
  exact ⟨c, fun n z => ⟨fun k h => (by cases h), k, h2, comp, h3⟩, h1⟩
theorem kn_long (h : (Cond.arrayClass .long).before args s = true) : ∃ cA, ArrOfT s cA .long ∧ va_RA s cA .long := by
  obtain ⟨c, k, comp, h1, h2, h3⟩ := Cond.arrayClass_spec h
  exact ⟨c, fun n z => ⟨fun k h => (by cases h), k, h2, comp, h3⟩, h1⟩
theorem kn_ref {C : String} (h : (Cond.arrayOver (.object C)).before args s = true) : ∃ cA, ArrOfT s cA (.object C) ∧ va_RA s cA (.object C) := by
  obtain ⟨comp, c, k, h1, h2, h3, h4, h5⟩ := Cond.arrayOver_spec h
  exact ⟨c, fun n z => ⟨fun k h => (by cases h), k, h3, comp, h4⟩, k, comp, h3, h4, h1, h5⟩
end KN
theorem hfs_X7 : ∀ j, j < 6 → defaultValue (tyX7 j) = vp_V [.null, .null, .null, .null, .null, .null] j := fun j hj => by
  rcases (show j = 0 ∨ j = 1 ∨ j = 2 ∨ j = 3 ∨ j = 4 ∨ j = 5 by omega) with rfl | rfl | rfl | rfl | rfl | rfl <;> rfl
theorem hfs_X8 : ∀ j, j < 12 → defaultValue (tyX8 j) = vp_V [.int 0, .null, .int 0, .null, .null, .null, .null, .int 0, .null, .null, .int 0, .int 0] j := fun j hj => by
  rcases (show j = 0 ∨ j = 1 ∨ j = 2 ∨ j = 3 ∨ j = 4 ∨ j = 5 ∨ j = 6 ∨ j = 7 ∨ j = 8 ∨ j = 9 ∨ j = 10 ∨ j = 11 by omega) with rfl | rfl | rfl | rfl | rfl | rfl | rfl | rfl | rfl | rfl | rfl | rfl <;> rfl
theorem law_cmp {i Ls : Nat} (hL : Ls ≤ 2560) (hi : i ≤ 2565) : (Int32.ofNat Ls - 5 < nI i) ↔ Ls < i + 5 := by
  have h1 : (nI Ls).toInt = (Ls : Int) := nI_toInt (by omega)
  have h2 : (nI i).toInt = (i : Int) := nI_toInt (by omega)
  have h3 : (nI Ls - 5 : Int32).toInt = (Ls : Int) - 5 := by
    rw [Int32.toInt_sub, h1, show (5 : Int32).toInt = 5 from rfl]
    unfold Int.bmod
    dsimp only
    split <;> omega
  show (nI Ls - 5 : Int32) < nI i ↔ _
  rw [Int32.lt_iff_toInt_lt, h3, h2]
  omega
theorem law_sw {v : Int32} : ∃ k : Nat, k < 32 ∧ v &&& 31 = nI k := by
  refine ⟨(v &&& 31).toNatClampNeg, ?_, ?_⟩
  · have h : (v &&& 31).toInt = ((v &&& 31).toBitVec.toNat : Int) := by
      have e : (v &&& 31).toBitVec.toNat < 32 := by
        show (v.toBitVec &&& 31#32).toNat < 32
        rw [BitVec.toNat_and]
        exact Nat.lt_of_le_of_lt Nat.and_le_right (by decide)
      show (v &&& 31).toBitVec.toInt = _
      rw [BitVec.toInt_eq_toNat_of_lt (by omega)]
    have e : (v &&& 31).toBitVec.toNat < 32 := by
      show (v.toBitVec &&& 31#32).toNat < 32
      rw [BitVec.toNat_and]
      exact Nat.lt_of_le_of_lt Nat.and_le_right (by decide)
    show (v &&& 31).toInt.toNat < 32
    omega
  · have e : (v &&& 31).toBitVec.toNat < 32 := by
      show (v.toBitVec &&& 31#32).toNat < 32
      rw [BitVec.toNat_and]
      exact Nat.lt_of_le_of_lt Nat.and_le_right (by decide)
    have h : (v &&& 31).toInt = ((v &&& 31).toBitVec.toNat : Int) := by
      show (v &&& 31).toBitVec.toInt = _
      rw [BitVec.toInt_eq_toNat_of_lt (by omega)]
    apply Int32.toInt_inj.mp
    rw [nI_toInt (show (v &&& 31).toNatClampNeg < 2 ^ 31 by show (v &&& 31).toInt.toNat < 2 ^ 31; omega)]
    show (v &&& 31).toInt = (((v &&& 31).toInt.toNat : Nat) : Int)
    omega
theorem rl_start {nw : Nat → Nat} : RelL (bg0 nw) ms0 :=
  ⟨⟨0, Nat.zero_le _, relN_hot0⟩, ⟨rfl, rfl, Nat.zero_le _, fun j hj => absurd hj (Nat.not_lt_zero j)⟩, ⟨Nat.zero_le _, Nat.zero_le _, rfl, relM_0⟩, Or.inl ⟨rfl, rfl⟩, Or.inl ⟨rfl, rfl⟩⟩
