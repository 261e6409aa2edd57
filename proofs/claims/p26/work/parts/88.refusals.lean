/-! calls that are refused -/
theorem nin {v a c : Int32} (h : v < a ∨ c < v) : ¬ inL v.toInt64 a.toInt64 c.toInt64 := fun q => h.elim (inI.mp q).1 (inI.mp q).2
theorem neg_m : ∀ m, m < 100 → (-1 : Int32) - nI m < 0 := by decide +kernel
theorem neg_m1 : ∀ m, m < 100 → (-1 : Int32) - nI m < 1 := by decide +kernel
def rNo (n x : Nat) : Int32 := if x % 2 = 0 then -1 - nI (x % 99) else nI (n + x % 99)
def rAw (x : Nat) : Int32 := if x % 2 = 0 then -1 - nI (x % 99) else nI (7 + x % 99)
def rCh (x : Nat) : Int32 := if x % 2 = 0 then -1 - nI (x % 9) else nI (256 + x % 9)
def rWe (x : Nat) : Int32 := if x % 2 = 0 then 0 else nI (5 + x % 9)
def rV0 (x : Nat) : Int32 := if x % 2 = 0 then 3 else nI (17 + x % 9)
def rV1 (x : Nat) : Int32 := if x % 4 < 2 then 0 else nI (10 + x % 9)
def rFe (x : Nat) : Int32 := if x % 2 = 0 then -1 else nI (2 + x % 9)
def rNn (x : Nat) : Int32 := if x % 2 = 0 then 0 else nI (6 + x % 9)
def rRo (x : Nat) : Int32 := if x % 2 = 0 then -1 else nI (100 + x % 99)
theorem rNo_no {n x : Nat} (hn : n ≤ 4) : ¬ isG (nI n) (rNo n x) := by
  unfold rNo
  split
  · exact fun q => q.1 (neg_m _ (by omega))
  · exact fun q => q.2 (nI_le (by omega) (by omega))
theorem rAw_no {x : Nat} : ¬ okF (rAw x) := by
  unfold rAw
  split
  · exact fun q => q.1 (neg_m _ (by omega))
  · exact fun q => q.2 (nI_le (a := 7) (by omega) (by omega))
theorem rCh_no {x : Nat} : ¬ inL (rCh x).toInt64 0 255 := by
  unfold rCh
  split
  · exact nin (a := 0) (c := 255) (Or.inl (neg_m _ (by omega)))
  · exact nin (a := 0) (c := 255) (Or.inr (nI_lt (a := 255) (by omega) (by omega)))
theorem rWe_no {x : Nat} : ¬ inL (rWe x).toInt64 1 4 := by
  unfold rWe
  split
  · exact nin (a := 1) (c := 4) (Or.inl (by decide))
  · exact nin (a := 1) (c := 4) (Or.inr (nI_lt (a := 4) (by omega) (by omega)))
theorem rV0_no {x : Nat} : ¬ okSV 0 (rV0 x) := by
  unfold rV0
  split
  · decide +kernel
  · exact fun q => q.2.2 (show (16 : Int32) < _ from nI_lt (a := 16) (by omega) (by omega))
theorem rV1_no {x : Nat} : ¬ okSV (nI (1 + x % 2)) (rV1 x) := by
  have h9 : ∀ m, m < 2 → fGr (nI (1 + m)).toNatClampNeg = 9 ∧ fLe (nI (1 + m)).toNatClampNeg = 1 := by decide +kernel
  obtain ⟨h1, h2⟩ := h9 (x % 2) (by omega)
  intro q
  obtain ⟨-, q1, q2⟩ := q
  rw [h2] at q1
  rw [h1] at q2
  unfold rV1 at q1 q2
  split at q1
  · exact absurd (show (0 : Int32) < 1 by decide) q1
  · rename_i h
    rw [if_neg h] at q2
    exact q2 (nI_lt (a := 9) (by omega) (by omega))
theorem rFe_no {x : Nat} : ¬ inL (rFe x).toInt64 0 1 := by
  unfold rFe
  split
  · exact nin (a := 0) (c := 1) (Or.inl (by decide))
  · exact nin (a := 0) (c := 1) (Or.inr (nI_lt (a := 1) (by omega) (by omega)))
theorem rNn_no {x : Nat} : ¬ inL (rNn x).toInt64 1 5 := by
  unfold rNn
  split
  · exact nin (a := 1) (c := 5) (Or.inl (by decide))
  · exact nin (a := 1) (c := 5) (Or.inr (nI_lt (a := 5) (by omega) (by omega)))
section RFS
variable {B n : Nat} {v : AV}
theorem qAb_no {q : Int32} (h : ¬ inL q.toInt64 0 11) : qAb v q = -9999002 := by
  have k : kAbout q = 1 := if_neg h
  unfold qAb
  rw [if_neg (by rw [k]; decide)]
theorem qGu_ng {g w : Int32} (hx : Hx B n v.1) (h : ¬ isG (nI n) g) : qGu v g w = -9999001 := by
  have k : kGuest (nI n) g w = 1 := if_neg h
  unfold qGu
  rw [hx.n, if_neg (by rw [k]; decide), if_pos k]
theorem qGu_nw {w : Int32} (hx : Hx B n v.1) (hn : 1 ≤ n) (h : ¬ inL w.toInt64 0 7) : qGu v 0 w = -9999002 := by
  have k : kGuest (nI n) 0 w = 2 := by
    unfold kGuest
    rw [if_pos (show isG (nI n) 0 from isG_nI (n := n) (j := 0) hx.ok.1 hn), if_neg h]
  unfold qGu
  rw [hx.n, if_neg (by rw [k]; decide), if_neg (by rw [k]; decide)]
theorem qFl_nf {f w : Int32} (h : ¬ okF f) : qFl v f w = -9999001 := by
  have k : kFloor f w = 1 := if_neg h
  unfold qFl
  rw [if_neg (by rw [k]; decide), if_pos k]
theorem qFl_nw {w : Int32} (h : ¬ inL w.toInt64 0 2) : qFl v 0 w = -9999002 := by
  have k : kFloor 0 w = 2 := by
    unfold kFloor
    rw [if_pos (show okF 0 by decide), if_neg h]
  unfold qFl
  rw [if_neg (by rw [k]; decide), if_neg (by rw [k]; decide)]
theorem qSe_no {w : Int32} (h : ¬ inL w.toInt64 0 2) : qSe v w = -9999002 := by
  have k : kSetg w = 1 := if_neg h
  unfold qSe
  rw [if_neg (by rw [k]; decide)]
theorem aCome_n1 {b a h w : Int32} (q : ¬ okF b ∨ (okF b ∧ ¬ okF a) ∨ (okF b ∧ okF a ∧ ¬ okF h)) : aCome v b a h w = (-9999001, v) := by
  have k : kCome (hN v.1) b a h w = 1 := by
    unfold kCome
    rcases q with q | ⟨q1, q⟩ | ⟨q1, q2, q⟩
    · rw [if_neg q]
    · rw [if_pos q1, if_neg q]
    · rw [if_pos q1, if_pos q2, if_neg q]
  unfold aCome
  rw [if_neg (by rw [k]; decide), if_pos k]
theorem aCome_n2 {w : Int32} (q : ¬ inL w.toInt64 1 4) : aCome v 0 0 0 w = (-9999002, v) := by
  have k : kCome (hN v.1) 0 0 0 w = 2 := by
    unfold kCome
    rw [if_pos (by decide), if_pos (by decide), if_pos (by decide), if_neg q]
  unfold aCome
  rw [if_neg (by rw [k]; decide), if_neg (by rw [k]; decide), if_pos k]
theorem aCome_n3 (hx : Hx B n v.1) (q : 4 ≤ n) : aCome v 0 0 0 1 = (-9999003, v) := by
  have k : kCome (hN v.1) 0 0 0 1 = 3 := by
    unfold kCome
    rw [hx.n, if_pos (by decide), if_pos (by decide), if_pos (by decide), if_pos (by decide +kernel), if_pos q]
  unfold aCome
  rw [if_neg (by rw [k]; decide), if_neg (by rw [k]; decide), if_neg (by rw [k]; decide)]
theorem kG_no {g : Int32} (hx : Hx B n v.1) (h : ¬ isG (nI n) g) : ¬ kG (nI (hN v.1)) g = 0 := by
  rw [hx.n, show kG (nI n) g = 1 from if_neg h]
  decide
theorem aLeave_no {g : Int32} (hx : Hx B n v.1) (h : ¬ isG (nI n) g) : aLeave v g = (-9999001, v) := if_neg (kG_no hx h)
theorem aPress_no {g : Int32} (hx : Hx B n v.1) (h : ¬ isG (nI n) g) : aPress v g = (-9999001, v) := if_neg (kG_no hx h)
theorem qWh_no {g : Int32} (hx : Hx B n v.1) (h : ¬ isG (nI n) g) : qWh v g = -9999001 := if_neg (kG_no hx h)
theorem qLe_no {g : Int32} (hx : Hx B n v.1) (h : ¬ isG (nI n) g) : qLe v g = -9999001 := if_neg (kG_no hx h)
theorem aLay_no {w q : Int32} (h : ¬ okSV w q) : aLay v w q = (-9999002, v) := by
  have k : kSet w q = 1 := if_neg h
  unfold aLay
  rw [if_neg (by rw [k]; decide)]
theorem qFe_no {q : Int32} (h : ¬ inL q.toInt64 0 1) : qFe v q = -9999002 := by
  have k : kFew q = 1 := if_neg h
  unfold qFe
  rw [if_neg (by rw [k]; decide)]
theorem qIf_n1 {m row w : Int32} (h : ¬ inL m.toInt64 1 5) : qIf v m row w = -9999002 := by
  have k : kIfp m row w = 1 := if_neg h
  unfold qIf
  rw [if_neg (by rw [k]; decide)]
theorem qIf_n2 {x : Nat} {w : Int32} : qIf v 2 (rRo x) w = -9999002 := by
  have h : ¬ inL (rRo x).toInt64 0 (nI (10 ^ min (2 : Int32).toNatClampNeg 5 - 1)).toInt64 := by
    rw [show nI (10 ^ min (2 : Int32).toNatClampNeg 5 - 1) = nI 99 by decide +kernel]
    unfold rRo
    split
    · exact nin (a := 0) (c := nI 99) (Or.inl (by decide))
    · exact nin (a := 0) (c := nI 99) (Or.inr (nI_lt (by omega) (by omega)))
  have k : kIfp 2 (rRo x) w = 1 := by
    unfold kIfp
    rw [if_pos (by decide +kernel), if_neg h]
  unfold qIf
  rw [if_neg (by rw [k]; decide)]
theorem qIf_n3 {w : Int32} (h : ¬ inL w.toInt64 0 4) : qIf v 2 0 w = -9999002 := by
  have k : kIfp 2 0 w = 1 := by
    unfold kIfp
    rw [if_pos (by decide +kernel), if_pos (by decide +kernel), if_neg h]
  unfold qIf
  rw [if_neg (by rw [k]; decide)]
theorem kSave_no {q : Int32} (h : ¬ inL q.toInt64 0 1) : ¬ kSave q = 0 := by
  rw [show kSave q = 1 from if_neg h]
  decide
theorem aKeep_no {q : Int32} (h : ¬ inL q.toInt64 0 1) : aKeep v q = (-9999001, v) := if_neg (kSave_no h)
theorem aBack_no {q : Int32} (h : ¬ inL q.toInt64 0 1) : aBack v q = (-9999001, v) := if_neg (kSave_no h)
theorem qRu_n1 {s : Int64} : qRu v 0 s = -9999002 := by
  have k : kRun 0 s = 1 := if_neg (by decide +kernel)
  unfold qRu
  rw [if_neg (by rw [k]; decide)]
theorem big_s {x : Nat} (hx : x < 2 ^ 20) : ¬ inL (100000 + Int32.toInt64 (nI x)) 0 (lN (100000 ^ min (1 : Int32).toNatClampNeg 3) - 1) := by
  rw [nI_l (show x < 2 ^ 31 by omega), show (lN (100000 ^ min (1 : Int32).toNatClampNeg 3) - 1) = (99999 : Int64) by decide +kernel]
  intro q
  refine q.2 ?_
  have e : (100000 : Int64) + lN x = lN (100000 + x) := lN_add 100000 x
  rw [e]
  exact (lN_lt (a := 99999) (by decide) (by omega)).mpr (by omega)
theorem qRu_n2 {x : Nat} (hx : x < 2 ^ 20) : qRu v 1 (100000 + Int32.toInt64 (nI x)) = -9999002 := by
  have k : kRun 1 (100000 + Int32.toInt64 (nI x)) = 1 := by
    unfold kRun
    rw [if_pos (by decide +kernel), if_neg (big_s hx)]
  unfold qRu
  rw [if_neg (by rw [k]; decide)]
theorem qSi_no {s : Int64} {m : Int32} (h : ¬ inL m.toInt64 1 100) : qSi v s m = -9999002 := by
  have k : kSim m = 1 := if_neg h
  unfold qSi
  rw [if_neg (by rw [k]; decide)]
end RFS
