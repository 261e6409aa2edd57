/-! commands of a script on both sides -/
abbrev ScP (n h9 f9 : Nat) (z : HS) (r : Int32) (u : HS) : Prop := r = hScrR n (h9 * 10000 + f9) z ∧ RelX (hScrU n (h9 * 10000 + f9) z) u
theorem sc_h {h9 k : Nat} (hh : h9 < 10) (hk : k < 10) (c : nI h9 = nI k) : h9 = k := (nI_eq (by omega) (by omega)).mp c
theorem m1_ne {k : Nat} (h : k < 2 ^ 31) : ¬ (-1 : Int32) = nI k := fun q => by
  have := congrArg Int32.toInt q
  rw [nI_toInt h] at this
  have e1 : (-1 : Int32).toInt = -1 := rfl
  omega
theorem ne_m1 {k : Nat} (h : k < 2 ^ 31) : ¬ nI k = -1 := fun q => m1_ne h q.symm
theorem scR1 {n f9 : Nat} {z : HS} (hf : f9 < 10000) : hScrR n (1 * 10000 + f9) z = (if (if okC n (nI (f9 / 1000)) (nI (f9 / 100 % 10)) (nI (f9 / 10 % 10)) (nI (f9 % 10)) then nI n else -1) = -1 then 0 else 1) := by
  unfold hScrR
  rw [show (1 * 10000 + f9) / 10000 = 1 by omega, show (1 * 10000 + f9) / 1000 % 10 = f9 / 1000 by omega, show (1 * 10000 + f9) / 100 % 10 = f9 / 100 % 10 by omega, show (1 * 10000 + f9) / 10 % 10 = f9 / 10 % 10 by omega, show (1 * 10000 + f9) % 10 = f9 % 10 by omega, show (1 * 10000 + f9) % 1000 = f9 % 1000 by omega, show (1 * 10000 + f9) % 10000 = f9 by omega, show (1 * 10000 + f9) % 100 = f9 % 100 by omega]
  rw [if_pos (show nI 1 = 1 from rfl)]
theorem scU1 {n f9 : Nat} {z : HS} (hf : f9 < 10000) : hScrU n (1 * 10000 + f9) z = (hAdm n (nI (f9 / 1000)) (nI (f9 / 100 % 10)) (nI (f9 / 10 % 10)) (nI (f9 % 10)) z) := by
  unfold hScrU
  rw [show (1 * 10000 + f9) / 10000 = 1 by omega, show (1 * 10000 + f9) / 1000 % 10 = f9 / 1000 by omega, show (1 * 10000 + f9) / 100 % 10 = f9 / 100 % 10 by omega, show (1 * 10000 + f9) / 10 % 10 = f9 / 10 % 10 by omega, show (1 * 10000 + f9) % 10 = f9 % 10 by omega, show (1 * 10000 + f9) % 1000 = f9 % 1000 by omega, show (1 * 10000 + f9) % 10000 = f9 by omega, show (1 * 10000 + f9) % 100 = f9 % 100 by omega]
  rw [if_pos (show nI 1 = 1 from rfl)]
theorem scR2 {n f9 : Nat} {z : HS} (hf : f9 < 10000) : hScrR n (2 * 10000 + f9) z = (if f9 % 1000 = 0 then (if hReas z (nI (f9 / 1000)) = 0 then 1 else 0) else 0) := by
  unfold hScrR
  rw [show (2 * 10000 + f9) / 10000 = 2 by omega, show (2 * 10000 + f9) / 1000 % 10 = f9 / 1000 by omega, show (2 * 10000 + f9) / 100 % 10 = f9 / 100 % 10 by omega, show (2 * 10000 + f9) / 10 % 10 = f9 / 10 % 10 by omega, show (2 * 10000 + f9) % 10 = f9 % 10 by omega, show (2 * 10000 + f9) % 1000 = f9 % 1000 by omega, show (2 * 10000 + f9) % 10000 = f9 by omega, show (2 * 10000 + f9) % 100 = f9 % 100 by omega]
  rw [if_neg (show ¬ nI 2 = 1 by decide), if_pos (show nI 2 = 2 from rfl)]
theorem scU2 {n f9 : Nat} {z : HS} (hf : f9 < 10000) : hScrU n (2 * 10000 + f9) z = (if f9 % 1000 = 0 then hPress n z (nI (f9 / 1000)) else z) := by
  unfold hScrU
  rw [show (2 * 10000 + f9) / 10000 = 2 by omega, show (2 * 10000 + f9) / 1000 % 10 = f9 / 1000 by omega, show (2 * 10000 + f9) / 100 % 10 = f9 / 100 % 10 by omega, show (2 * 10000 + f9) / 10 % 10 = f9 / 10 % 10 by omega, show (2 * 10000 + f9) % 10 = f9 % 10 by omega, show (2 * 10000 + f9) % 1000 = f9 % 1000 by omega, show (2 * 10000 + f9) % 10000 = f9 by omega, show (2 * 10000 + f9) % 100 = f9 % 100 by omega]
  rw [if_neg (show ¬ nI 2 = 1 by decide), if_pos (show nI 2 = 2 from rfl)]
theorem scR3 {n f9 : Nat} {z : HS} (hf : f9 < 10000) : hScrR n (3 * 10000 + f9) z = (if 10 ≤ f9 then 0 else 1) := by
  unfold hScrR
  rw [show (3 * 10000 + f9) / 10000 = 3 by omega, show (3 * 10000 + f9) / 1000 % 10 = f9 / 1000 by omega, show (3 * 10000 + f9) / 100 % 10 = f9 / 100 % 10 by omega, show (3 * 10000 + f9) / 10 % 10 = f9 / 10 % 10 by omega, show (3 * 10000 + f9) % 10 = f9 % 10 by omega, show (3 * 10000 + f9) % 1000 = f9 % 1000 by omega, show (3 * 10000 + f9) % 10000 = f9 by omega, show (3 * 10000 + f9) % 100 = f9 % 100 by omega]
  rw [if_neg (show ¬ nI 3 = 1 by decide), if_neg (show ¬ nI 3 = 2 by decide), if_pos (show nI 3 = 3 from rfl)]
theorem scU3 {n f9 : Nat} {z : HS} (hf : f9 < 10000) : hScrU n (3 * 10000 + f9) z = (if 10 ≤ f9 then z else lpN (sRst n) (f9 % 10) 0 z) := by
  unfold hScrU
  rw [show (3 * 10000 + f9) / 10000 = 3 by omega, show (3 * 10000 + f9) / 1000 % 10 = f9 / 1000 by omega, show (3 * 10000 + f9) / 100 % 10 = f9 / 100 % 10 by omega, show (3 * 10000 + f9) / 10 % 10 = f9 / 10 % 10 by omega, show (3 * 10000 + f9) % 10 = f9 % 10 by omega, show (3 * 10000 + f9) % 1000 = f9 % 1000 by omega, show (3 * 10000 + f9) % 10000 = f9 by omega, show (3 * 10000 + f9) % 100 = f9 % 100 by omega]
  rw [if_neg (show ¬ nI 3 = 1 by decide), if_neg (show ¬ nI 3 = 2 by decide), if_pos (show nI 3 = 3 from rfl)]
theorem scR4 {n f9 : Nat} {z : HS} (hf : f9 < 10000) : hScrR n (4 * 10000 + f9) z = (if f9 % 1000 = 0 then (if hGr z (nI (f9 / 1000)) = -1 then 0 else 1) else 0) := by
  unfold hScrR
  rw [show (4 * 10000 + f9) / 10000 = 4 by omega, show (4 * 10000 + f9) / 1000 % 10 = f9 / 1000 by omega, show (4 * 10000 + f9) / 100 % 10 = f9 / 100 % 10 by omega, show (4 * 10000 + f9) / 10 % 10 = f9 / 10 % 10 by omega, show (4 * 10000 + f9) % 10 = f9 % 10 by omega, show (4 * 10000 + f9) % 1000 = f9 % 1000 by omega, show (4 * 10000 + f9) % 10000 = f9 by omega, show (4 * 10000 + f9) % 100 = f9 % 100 by omega]
  rw [if_neg (show ¬ nI 4 = 1 by decide), if_neg (show ¬ nI 4 = 2 by decide), if_neg (show ¬ nI 4 = 3 by decide), if_pos (show nI 4 = 4 from rfl)]
theorem scU4 {n f9 : Nat} {z : HS} (hf : f9 < 10000) : hScrU n (4 * 10000 + f9) z = (if f9 % 1000 = 0 then hLeave n z (nI (f9 / 1000)) else z) := by
  unfold hScrU
  rw [show (4 * 10000 + f9) / 10000 = 4 by omega, show (4 * 10000 + f9) / 1000 % 10 = f9 / 1000 by omega, show (4 * 10000 + f9) / 100 % 10 = f9 / 100 % 10 by omega, show (4 * 10000 + f9) / 10 % 10 = f9 / 10 % 10 by omega, show (4 * 10000 + f9) % 10 = f9 % 10 by omega, show (4 * 10000 + f9) % 1000 = f9 % 1000 by omega, show (4 * 10000 + f9) % 10000 = f9 by omega, show (4 * 10000 + f9) % 100 = f9 % 100 by omega]
  rw [if_neg (show ¬ nI 4 = 1 by decide), if_neg (show ¬ nI 4 = 2 by decide), if_neg (show ¬ nI 4 = 3 by decide), if_pos (show nI 4 = 4 from rfl)]
theorem scR5 {n f9 : Nat} {z : HS} (hf : f9 < 10000) : hScrR n (5 * 10000 + f9) z = (if f9 / 100 % 10 = 0 then (if hSetR z (nI (f9 / 1000)) (nI (f9 % 100)) = -1 then 0 else 1) else 0) := by
  unfold hScrR
  rw [show (5 * 10000 + f9) / 10000 = 5 by omega, show (5 * 10000 + f9) / 1000 % 10 = f9 / 1000 by omega, show (5 * 10000 + f9) / 100 % 10 = f9 / 100 % 10 by omega, show (5 * 10000 + f9) / 10 % 10 = f9 / 10 % 10 by omega, show (5 * 10000 + f9) % 10 = f9 % 10 by omega, show (5 * 10000 + f9) % 1000 = f9 % 1000 by omega, show (5 * 10000 + f9) % 10000 = f9 by omega, show (5 * 10000 + f9) % 100 = f9 % 100 by omega]
  rw [if_neg (show ¬ nI 5 = 1 by decide), if_neg (show ¬ nI 5 = 2 by decide), if_neg (show ¬ nI 5 = 3 by decide), if_neg (show ¬ nI 5 = 4 by decide), if_pos (show nI 5 = 5 from rfl)]
theorem scU5 {n f9 : Nat} {z : HS} (hf : f9 < 10000) : hScrU n (5 * 10000 + f9) z = (if f9 / 100 % 10 = 0 then hSet (nI (f9 / 1000)) (nI (f9 % 100)) z else z) := by
  unfold hScrU
  rw [show (5 * 10000 + f9) / 10000 = 5 by omega, show (5 * 10000 + f9) / 1000 % 10 = f9 / 1000 by omega, show (5 * 10000 + f9) / 100 % 10 = f9 / 100 % 10 by omega, show (5 * 10000 + f9) / 10 % 10 = f9 / 10 % 10 by omega, show (5 * 10000 + f9) % 10 = f9 % 10 by omega, show (5 * 10000 + f9) % 1000 = f9 % 1000 by omega, show (5 * 10000 + f9) % 10000 = f9 by omega, show (5 * 10000 + f9) % 100 = f9 % 100 by omega]
  rw [if_neg (show ¬ nI 5 = 1 by decide), if_neg (show ¬ nI 5 = 2 by decide), if_neg (show ¬ nI 5 = 3 by decide), if_neg (show ¬ nI 5 = 4 by decide), if_pos (show nI 5 = 5 from rfl)]
theorem scR6 {n f9 : Nat} {z : HS} (hf : f9 < 10000) : hScrR n (6 * 10000 + f9) z = (if 10 ≤ f9 % 1000 then 0 else (if hSt z (nI (f9 / 1000)) = nI (f9 % 10) then 1 else 0)) := by
  unfold hScrR
  rw [show (6 * 10000 + f9) / 10000 = 6 by omega, show (6 * 10000 + f9) / 1000 % 10 = f9 / 1000 by omega, show (6 * 10000 + f9) / 100 % 10 = f9 / 100 % 10 by omega, show (6 * 10000 + f9) / 10 % 10 = f9 / 10 % 10 by omega, show (6 * 10000 + f9) % 10 = f9 % 10 by omega, show (6 * 10000 + f9) % 1000 = f9 % 1000 by omega, show (6 * 10000 + f9) % 10000 = f9 by omega, show (6 * 10000 + f9) % 100 = f9 % 100 by omega]
  rw [if_neg (show ¬ nI 6 = 1 by decide), if_neg (show ¬ nI 6 = 2 by decide), if_neg (show ¬ nI 6 = 3 by decide), if_neg (show ¬ nI 6 = 4 by decide), if_neg (show ¬ nI 6 = 5 by decide), if_pos (show nI 6 = 6 from rfl)]
theorem scU6 {n f9 : Nat} {z : HS} (hf : f9 < 10000) : hScrU n (6 * 10000 + f9) z = (z) := by
  unfold hScrU
  rw [show (6 * 10000 + f9) / 10000 = 6 by omega, show (6 * 10000 + f9) / 1000 % 10 = f9 / 1000 by omega, show (6 * 10000 + f9) / 100 % 10 = f9 / 100 % 10 by omega, show (6 * 10000 + f9) / 10 % 10 = f9 / 10 % 10 by omega, show (6 * 10000 + f9) % 10 = f9 % 10 by omega, show (6 * 10000 + f9) % 1000 = f9 % 1000 by omega, show (6 * 10000 + f9) % 10000 = f9 by omega, show (6 * 10000 + f9) % 100 = f9 % 100 by omega]
  rw [if_neg (show ¬ nI 6 = 1 by decide), if_neg (show ¬ nI 6 = 2 by decide), if_neg (show ¬ nI 6 = 3 by decide), if_neg (show ¬ nI 6 = 4 by decide), if_neg (show ¬ nI 6 = 5 by decide)]
theorem scR7 {n f9 : Nat} {z : HS} (hf : f9 < 10000) : hScrR n (7 * 10000 + f9) z = (if 10 ≤ f9 % 1000 then 0 else (if isG z.1.1 (nI (f9 / 1000)) then (if nI (f9 % 10) < hGr z (nI (f9 / 1000)) then 0 else 1) else 0)) := by
  unfold hScrR
  rw [show (7 * 10000 + f9) / 10000 = 7 by omega, show (7 * 10000 + f9) / 1000 % 10 = f9 / 1000 by omega, show (7 * 10000 + f9) / 100 % 10 = f9 / 100 % 10 by omega, show (7 * 10000 + f9) / 10 % 10 = f9 / 10 % 10 by omega, show (7 * 10000 + f9) % 10 = f9 % 10 by omega, show (7 * 10000 + f9) % 1000 = f9 % 1000 by omega, show (7 * 10000 + f9) % 10000 = f9 by omega, show (7 * 10000 + f9) % 100 = f9 % 100 by omega]
  rw [if_neg (show ¬ nI 7 = 1 by decide), if_neg (show ¬ nI 7 = 2 by decide), if_neg (show ¬ nI 7 = 3 by decide), if_neg (show ¬ nI 7 = 4 by decide), if_neg (show ¬ nI 7 = 5 by decide), if_neg (show ¬ nI 7 = 6 by decide), if_pos (show nI 7 = 7 from rfl)]
theorem scU7 {n f9 : Nat} {z : HS} (hf : f9 < 10000) : hScrU n (7 * 10000 + f9) z = (z) := by
  unfold hScrU
  rw [show (7 * 10000 + f9) / 10000 = 7 by omega, show (7 * 10000 + f9) / 1000 % 10 = f9 / 1000 by omega, show (7 * 10000 + f9) / 100 % 10 = f9 / 100 % 10 by omega, show (7 * 10000 + f9) / 10 % 10 = f9 / 10 % 10 by omega, show (7 * 10000 + f9) % 10 = f9 % 10 by omega, show (7 * 10000 + f9) % 1000 = f9 % 1000 by omega, show (7 * 10000 + f9) % 10000 = f9 by omega, show (7 * 10000 + f9) % 100 = f9 % 100 by omega]
  rw [if_neg (show ¬ nI 7 = 1 by decide), if_neg (show ¬ nI 7 = 2 by decide), if_neg (show ¬ nI 7 = 3 by decide), if_neg (show ¬ nI 7 = 4 by decide), if_neg (show ¬ nI 7 = 5 by decide)]
theorem scR8 {n f9 : Nat} {z : HS} (hf : f9 < 10000) : hScrR n (8 * 10000 + f9) z = (if 10 ≤ f9 then 0 else (if hNum n z 5 < nI (f9 % 10) then 0 else 1)) := by
  unfold hScrR
  rw [show (8 * 10000 + f9) / 10000 = 8 by omega, show (8 * 10000 + f9) / 1000 % 10 = f9 / 1000 by omega, show (8 * 10000 + f9) / 100 % 10 = f9 / 100 % 10 by omega, show (8 * 10000 + f9) / 10 % 10 = f9 / 10 % 10 by omega, show (8 * 10000 + f9) % 10 = f9 % 10 by omega, show (8 * 10000 + f9) % 1000 = f9 % 1000 by omega, show (8 * 10000 + f9) % 10000 = f9 by omega, show (8 * 10000 + f9) % 100 = f9 % 100 by omega]
  rw [if_neg (show ¬ nI 8 = 1 by decide), if_neg (show ¬ nI 8 = 2 by decide), if_neg (show ¬ nI 8 = 3 by decide), if_neg (show ¬ nI 8 = 4 by decide), if_neg (show ¬ nI 8 = 5 by decide), if_neg (show ¬ nI 8 = 6 by decide), if_neg (show ¬ nI 8 = 7 by decide), if_pos (show nI 8 = 8 from rfl)]
theorem scU8 {n f9 : Nat} {z : HS} (hf : f9 < 10000) : hScrU n (8 * 10000 + f9) z = (z) := by
  unfold hScrU
  rw [show (8 * 10000 + f9) / 10000 = 8 by omega, show (8 * 10000 + f9) / 1000 % 10 = f9 / 1000 by omega, show (8 * 10000 + f9) / 100 % 10 = f9 / 100 % 10 by omega, show (8 * 10000 + f9) / 10 % 10 = f9 / 10 % 10 by omega, show (8 * 10000 + f9) % 10 = f9 % 10 by omega, show (8 * 10000 + f9) % 1000 = f9 % 1000 by omega, show (8 * 10000 + f9) % 10000 = f9 by omega, show (8 * 10000 + f9) % 100 = f9 % 100 by omega]
  rw [if_neg (show ¬ nI 8 = 1 by decide), if_neg (show ¬ nI 8 = 2 by decide), if_neg (show ¬ nI 8 = 3 by decide), if_neg (show ¬ nI 8 = 4 by decide), if_neg (show ¬ nI 8 = 5 by decide)]
theorem scR9 {n f9 : Nat} {z : HS} (hf : f9 < 10000) : hScrR n (9 * 10000 + f9) z = (if f9 / 1000 = 0 then (if nI (f9 % 1000) < hNum n z 6 then 0 else 1) else 0) := by
  unfold hScrR
  rw [show (9 * 10000 + f9) / 10000 = 9 by omega, show (9 * 10000 + f9) / 1000 % 10 = f9 / 1000 by omega, show (9 * 10000 + f9) / 100 % 10 = f9 / 100 % 10 by omega, show (9 * 10000 + f9) / 10 % 10 = f9 / 10 % 10 by omega, show (9 * 10000 + f9) % 10 = f9 % 10 by omega, show (9 * 10000 + f9) % 1000 = f9 % 1000 by omega, show (9 * 10000 + f9) % 10000 = f9 by omega, show (9 * 10000 + f9) % 100 = f9 % 100 by omega]
  rw [if_neg (show ¬ nI 9 = 1 by decide), if_neg (show ¬ nI 9 = 2 by decide), if_neg (show ¬ nI 9 = 3 by decide), if_neg (show ¬ nI 9 = 4 by decide), if_neg (show ¬ nI 9 = 5 by decide), if_neg (show ¬ nI 9 = 6 by decide), if_neg (show ¬ nI 9 = 7 by decide), if_neg (show ¬ nI 9 = 8 by decide), if_pos (show nI 9 = 9 from rfl)]
theorem scU9 {n f9 : Nat} {z : HS} (hf : f9 < 10000) : hScrU n (9 * 10000 + f9) z = (z) := by
  unfold hScrU
  rw [show (9 * 10000 + f9) / 10000 = 9 by omega, show (9 * 10000 + f9) / 1000 % 10 = f9 / 1000 by omega, show (9 * 10000 + f9) / 100 % 10 = f9 / 100 % 10 by omega, show (9 * 10000 + f9) / 10 % 10 = f9 / 10 % 10 by omega, show (9 * 10000 + f9) % 10 = f9 % 10 by omega, show (9 * 10000 + f9) % 1000 = f9 % 1000 by omega, show (9 * 10000 + f9) % 10000 = f9 by omega, show (9 * 10000 + f9) % 100 = f9 % 100 by omega]
  rw [if_neg (show ¬ nI 9 = 1 by decide), if_neg (show ¬ nI 9 = 2 by decide), if_neg (show ¬ nI 9 = 3 by decide), if_neg (show ¬ nI 9 = 4 by decide), if_neg (show ¬ nI 9 = 5 by decide)]
theorem sc0 {n h9 f9 : Nat} {z w : HS} (hn : n ≤ 4) (hf : f9 < 10000) (hR : RelN n z w) (c1 : ¬ nI h9 = 1) (c2 : ¬ nI h9 = 2) (c3 : ¬ nI h9 = 3) (c4 : ¬ nI h9 = 4) (c5 : ¬ nI h9 = 5) (c6 : ¬ nI h9 = 6) (c7 : ¬ nI h9 = 7) (c8 : ¬ nI h9 = 8) (c9 : ¬ nI h9 = 9) : ScP n h9 f9 z 0 w := by
  have e : (h9 * 10000 + f9) / 10000 = h9 := by omega
  refine ⟨?_, ?_⟩
  · unfold hScrR
    rw [e, if_neg c1, if_neg c2, if_neg c3, if_neg c4, if_neg c5, if_neg c6, if_neg c7, if_neg c8, if_neg c9]
  · unfold hScrU
    rw [e, if_neg c1, if_neg c2, if_neg c3, if_neg c4, if_neg c5]
    exact ⟨n, hn, hR⟩
theorem gr_no {n : Nat} {g : Int32} {z : HS} (h : z.1.1 = nI n) (hj : ¬ isG (nI n) g) : hGr z g = -1 := by
  obtain ⟨⟨gu, fl, se, pr, re, go, ch⟩, ⟨sg, bu, wa, ho, we, st, gr, po, ri⟩⟩ := z
  obtain rfl : gu = nI n := h
  simp only [hGr, if_neg hj]
theorem st_no {n : Nat} {g : Int32} {z : HS} (h : z.1.1 = nI n) (hj : ¬ isG (nI n) g) : hSt z g = -1 := by
  obtain ⟨⟨gu, fl, se, pr, re, go, ch⟩, ⟨sg, bu, wa, ho, we, st, gr, po, ri⟩⟩ := z
  obtain rfl : gu = nI n := h
  simp only [hSt, if_neg hj]
theorem gr_at {n j : Nat} {z w : HS} (hn : n ≤ 4) (hR : RelN n z w) (hj : j < n) : hGr z (nI j) = w.2.2.2.2.2.2.2.1 j := by
  obtain ⟨hg, ⟨h1, h2, h3, h4, h5, h6, h7, h8, h9, hat⟩, -⟩ := hR
  rw [← h7]
  obtain ⟨⟨gu, fl, se, pr, re, go, ch⟩, ⟨sg, bu, wa, ho, we, st, gr, po, ri⟩⟩ := z
  obtain rfl : gu = nI n := hg
  simp only [hGr, if_pos (isG_nI hn hj), nI_clamp (show j < 2 ^ 31 by omega)]
theorem st_at {n j : Nat} {z w : HS} (hn : n ≤ 4) (hR : RelN n z w) (hj : j < n) : hSt z (nI j) = mCol w 3 j := by
  obtain ⟨hg, ⟨h1, h2, h3, h4, h5, h6, h7, h8, h9, hat⟩, -⟩ := hR
  show _ = w.2.2.2.2.2.2.1 j
  rw [← h6]
  obtain ⟨⟨gu, fl, se, pr, re, go, ch⟩, ⟨sg, bu, wa, ho, we, st, gr, po, ri⟩⟩ := z
  obtain rfl : gu = nI n := hg
  simp only [hSt, if_pos (isG_nI hn hj), nI_clamp (show j < 2 ^ 31 by omega)]
theorem gr_nat {n j : Nat} {z w : HS} (hR : RelN n z w) (hj : j < n) : ∃ a : Nat, a < 10 ∧ w.2.2.2.2.2.2.2.1 j = nI a := by
  obtain ⟨a, ha, ea⟩ := (hR.2.2.1.2 j hj).2.2
  exact ⟨a, ha, by rw [← hR.2.1.2.2.2.2.2.2.1]; exact ea⟩
theorem gr_nn {n j : Nat} {z w : HS} (hR : RelN n z w) (hj : j < n) : ¬ w.2.2.2.2.2.2.2.1 j < 0 := by
  obtain ⟨a, ha, ea⟩ := gr_nat hR hj
  rw [ea]
  exact nI_pos (by omega)
theorem sg_nat {n j : Nat} {z w : HS} (hR : RelN n z w) (hj : j < 3) : ∃ a : Nat, a < 17 ∧ w.2.1 j = nI a := by
  obtain ⟨a, ha, ea⟩ := hR.2.2.2 j hj
  exact ⟨a, ha, by rw [← hR.2.1.2.1]; exact ea⟩
theorem sg_nn {n j : Nat} {z w : HS} (hR : RelN n z w) (hj : j < 3) : ¬ w.2.1 j < 0 := by
  obtain ⟨a, ha, ea⟩ := sg_nat hR hj
  rw [ea]
  exact nI_pos (by omega)
theorem sc_1 {n h9 f9 : Nat} {z u : HS} {r : Int32} (h : ScP n h9 f9 z r u) (c : ¬ r = 0) : ScP n h9 f9 z 1 u := by
  refine ⟨?_, h.2⟩
  rcases hScr_01 (n := n) (w := h9 * 10000 + f9) (x := z) with q | q
  · exact absurd (h.1.trans q) c
  · exact q.symm
theorem sc_0 {n h9 f9 : Nat} {z u : HS} {r : Int32} (h : ScP n h9 f9 z r u) (c : r = 0) : ScP n h9 f9 z 0 u := ⟨c.symm.trans h.1, h.2⟩
theorem sc_ng {n h9 f9 : Nat} {z w : HS} (hn : n ≤ 4) (hf : f9 < 10000) (hh : h9 < 10) (hR : RelN n z w) (hc : nI h9 = 2 ∨ nI h9 = 4 ∨ nI h9 = 6 ∨ nI h9 = 7) (h : ¬ isG (nI n) (nI (f9 / 1000))) : ScP n h9 f9 z 0 w := by
  rcases hc with c | c | c | c
  · obtain rfl : h9 = 2 := sc_h hh (by decide) c
    refine ⟨?_, ?_⟩
    · rw [scR2 hf, reas_no hR.1 h, if_neg (show ¬ (-1 : Int32) = 0 by decide)]; split <;> rfl
    · rw [scU2 hf]; split
      · exact relX_npress hn hR h
      · exact ⟨n, hn, hR⟩
  · obtain rfl : h9 = 4 := sc_h hh (by decide) c
    refine ⟨?_, ?_⟩
    · rw [scR4 hf, gr_no hR.1 h, if_pos rfl]; split <;> rfl
    · rw [scU4 hf]; split
      · exact relX_ndis hn hR h
      · exact ⟨n, hn, hR⟩
  · obtain rfl : h9 = 6 := sc_h hh (by decide) c
    refine ⟨?_, ?_⟩
    · rw [scR6 hf, st_no hR.1 h, if_neg (m1_ne (by omega))]; split <;> rfl
    · rw [scU6 hf]; exact ⟨n, hn, hR⟩
  · obtain rfl : h9 = 7 := sc_h hh (by decide) c
    refine ⟨?_, ?_⟩
    · rw [scR7 hf, hR.1, if_neg h]; split <;> rfl
    · rw [scU7 hf]; exact ⟨n, hn, hR⟩
theorem sc1_no {n h9 f9 : Nat} {z w : HS} (hn : n ≤ 4) (hf : f9 < 10000) (hh : h9 < 10) (hR : RelN n z w) (c : nI h9 = 1) (h : ¬ okC n (nI (f9 / 1000)) (nI (f9 / 100 % 10)) (nI (f9 / 10 % 10)) (nI (f9 % 10))) : ScP n h9 f9 z 0 w := by
  obtain rfl : h9 = 1 := sc_h hh (by decide) c
  refine ⟨?_, ?_⟩
  · rw [scR1 hf, if_neg h, if_pos rfl]
  · rw [scU1 hf, hAdm, if_neg h]; exact ⟨n, hn, hR⟩
theorem sc1_yes {n h9 f9 : Nat} {z w : HS} (hn : n ≤ 4) (hf : f9 < 10000) (hh : h9 < 10) (hR : RelN n z w) (c : nI h9 = 1) (h : okC n (nI (f9 / 1000)) (nI (f9 / 100 % 10)) (nI (f9 / 10 % 10)) (nI (f9 % 10))) : ScP n h9 f9 z 1 (hCome n (nI (f9 / 1000)) (nI (f9 / 100 % 10)) (nI (f9 / 10 % 10)) (nI (f9 % 10)) w) := by
  obtain rfl : h9 = 1 := sc_h hh (by decide) c
  refine ⟨?_, ?_⟩
  · rw [scR1 hf, if_pos h, if_neg (ne_m1 (by omega))]
  · rw [scU1 hf, hAdm, if_pos h]; exact ⟨n + 1, h.2.2.2.2, relN_come hR h.1 h.2.1 h.2.2.1⟩
theorem sc2_a {n h9 f9 : Nat} {z w : HS} (hn : n ≤ 4) (hf : f9 < 10000) (hh : h9 < 10) (hR : RelN n z w) (c : nI h9 = 2) (h : ¬ f9 % 1000 = 0) : ScP n h9 f9 z 0 w := by
  obtain rfl : h9 = 2 := sc_h hh (by decide) c
  refine ⟨?_, ?_⟩
  · rw [scR2 hf, if_neg h]
  · rw [scU2 hf, if_neg h]; exact ⟨n, hn, hR⟩
theorem sc2_b {n h9 f9 : Nat} {z w : HS} (hn : n ≤ 4) (hf : f9 < 10000) (hh : h9 < 10) (hR : RelN n z w) (c : nI h9 = 2) (hj : f9 / 1000 < n) (h : f9 % 1000 = 0) (e : ¬ vReas w.1.2.1 w.2.1 w.2.2.1 w.2.2.2.2.2.2.1 w.2.2.2.2.2.2.2.1 (f9 / 1000) = 0) : ScP n h9 f9 z 0 (mPress n (f9 / 1000) w) := by
  obtain rfl : h9 = 2 := sc_h hh (by decide) c
  refine ⟨?_, ?_⟩
  · rw [scR2 hf, if_pos h, ← rel_reas hn hR hj, if_neg e]
  · rw [scU2 hf, if_pos h]; exact relX_press hn hR hj
theorem sc2_c {n h9 f9 : Nat} {z w : HS} (hn : n ≤ 4) (hf : f9 < 10000) (hh : h9 < 10) (hR : RelN n z w) (c : nI h9 = 2) (hj : f9 / 1000 < n) (h : f9 % 1000 = 0) (e : vReas w.1.2.1 w.2.1 w.2.2.1 w.2.2.2.2.2.2.1 w.2.2.2.2.2.2.2.1 (f9 / 1000) = 0) : ScP n h9 f9 z 1 (mPress n (f9 / 1000) w) := by
  obtain rfl : h9 = 2 := sc_h hh (by decide) c
  refine ⟨?_, ?_⟩
  · rw [scR2 hf, if_pos h, ← rel_reas hn hR hj, if_pos e]
  · rw [scU2 hf, if_pos h]; exact relX_press hn hR hj
theorem sc4_a {n h9 f9 : Nat} {z w : HS} (hn : n ≤ 4) (hf : f9 < 10000) (hh : h9 < 10) (hR : RelN n z w) (c : nI h9 = 4) (h : ¬ f9 % 1000 = 0) : ScP n h9 f9 z 0 w := by
  obtain rfl : h9 = 4 := sc_h hh (by decide) c
  refine ⟨?_, ?_⟩
  · rw [scR4 hf, if_neg h]
  · rw [scU4 hf, if_neg h]; exact ⟨n, hn, hR⟩
theorem sc4_c {n h9 f9 : Nat} {z w : HS} (hn : n ≤ 4) (hf : f9 < 10000) (hh : h9 < 10) (hR : RelN n z w) (c : nI h9 = 4) (hj : f9 / 1000 < n) (h : f9 % 1000 = 0) : ScP n h9 f9 z 1 (hDis n (f9 / 1000) w) := by
  obtain rfl : h9 = 4 := sc_h hh (by decide) c
  refine ⟨?_, ?_⟩
  · rw [scR4 hf, if_pos h, gr_at hn hR hj, if_neg (fun q => gr_nn hR hj (by rw [q]; decide))]
  · rw [scU4 hf, if_pos h]; exact relX_dis hn hR hj
theorem sc6_a {n h9 f9 : Nat} {z w : HS} (hn : n ≤ 4) (hf : f9 < 10000) (hh : h9 < 10) (hR : RelN n z w) (c : nI h9 = 6) (h : 10 ≤ f9 % 1000) : ScP n h9 f9 z 0 w := by
  obtain rfl : h9 = 6 := sc_h hh (by decide) c
  refine ⟨?_, ?_⟩
  · rw [scR6 hf, if_pos h]
  · rw [scU6 hf]; exact ⟨n, hn, hR⟩
theorem sc6_b {n h9 f9 : Nat} {z w : HS} (hn : n ≤ 4) (hf : f9 < 10000) (hh : h9 < 10) (hR : RelN n z w) (c : nI h9 = 6) (hj : f9 / 1000 < n) (h : ¬ 10 ≤ f9 % 1000) (e : ¬ mCol w 3 (f9 / 1000) = nI (f9 % 10)) : ScP n h9 f9 z 0 w := by
  obtain rfl : h9 = 6 := sc_h hh (by decide) c
  refine ⟨?_, ?_⟩
  · rw [scR6 hf, if_neg h, st_at hn hR hj, if_neg e]
  · rw [scU6 hf]; exact ⟨n, hn, hR⟩
theorem sc6_c {n h9 f9 : Nat} {z w : HS} (hn : n ≤ 4) (hf : f9 < 10000) (hh : h9 < 10) (hR : RelN n z w) (c : nI h9 = 6) (hj : f9 / 1000 < n) (h : ¬ 10 ≤ f9 % 1000) (e : mCol w 3 (f9 / 1000) = nI (f9 % 10)) : ScP n h9 f9 z 1 w := by
  obtain rfl : h9 = 6 := sc_h hh (by decide) c
  refine ⟨?_, ?_⟩
  · rw [scR6 hf, if_neg h, st_at hn hR hj, if_pos e]
  · rw [scU6 hf]; exact ⟨n, hn, hR⟩
theorem sc7_a {n h9 f9 : Nat} {z w : HS} (hn : n ≤ 4) (hf : f9 < 10000) (hh : h9 < 10) (hR : RelN n z w) (c : nI h9 = 7) (h : 10 ≤ f9 % 1000) : ScP n h9 f9 z 0 w := by
  obtain rfl : h9 = 7 := sc_h hh (by decide) c
  refine ⟨?_, ?_⟩
  · rw [scR7 hf, if_pos h]
  · rw [scU7 hf]; exact ⟨n, hn, hR⟩
theorem sc7_b {n h9 f9 : Nat} {z w : HS} (hn : n ≤ 4) (hf : f9 < 10000) (hh : h9 < 10) (hR : RelN n z w) (c : nI h9 = 7) (hj : f9 / 1000 < n) (h : ¬ 10 ≤ f9 % 1000) (e : nI (f9 % 10) < mCol w 5 (f9 / 1000)) : ScP n h9 f9 z 0 w := by
  obtain rfl : h9 = 7 := sc_h hh (by decide) c
  refine ⟨?_, ?_⟩
  · rw [scR7 hf, if_neg h, hR.1, if_pos (isG_nI hn hj), show hGr z (nI (f9 / 1000)) = mCol w 5 (f9 / 1000) from gr_at hn hR hj, if_pos e]
  · rw [scU7 hf]; exact ⟨n, hn, hR⟩
theorem sc7_c {n h9 f9 : Nat} {z w : HS} (hn : n ≤ 4) (hf : f9 < 10000) (hh : h9 < 10) (hR : RelN n z w) (c : nI h9 = 7) (hj : f9 / 1000 < n) (h : ¬ 10 ≤ f9 % 1000) (e : ¬ nI (f9 % 10) < mCol w 5 (f9 / 1000)) : ScP n h9 f9 z 1 w := by
  obtain rfl : h9 = 7 := sc_h hh (by decide) c
  refine ⟨?_, ?_⟩
  · rw [scR7 hf, if_neg h, hR.1, if_pos (isG_nI hn hj), show hGr z (nI (f9 / 1000)) = mCol w 5 (f9 / 1000) from gr_at hn hR hj, if_neg e]
  · rw [scU7 hf]; exact ⟨n, hn, hR⟩
theorem sc3_a {n h9 f9 : Nat} {z z1 w1 : HS} (hn : n ≤ 4) (hf : f9 < 10000) (hh : h9 < 10) (hR : RelN n z1 w1) (c : nI h9 = 3) (h0 : f9 < 10 ∨ z1 = z) (h : 10 ≤ f9) : ScP n h9 f9 z 0 w1 := by
  obtain rfl : h9 = 3 := sc_h hh (by decide) c
  have e : z1 = z := h0.resolve_left (by omega)
  subst e
  refine ⟨?_, ?_⟩
  · rw [scR3 hf, if_pos h]
  · rw [scU3 hf, if_pos h]; exact ⟨n, hn, hR⟩
theorem sc3_c {n h9 f9 i : Nat} {z z1 w1 : HS} (hn : n ≤ 4) (hf : f9 < 10000) (hh : h9 < 10) (hR : RelN n z1 w1) (c : nI h9 = 3) (hi : f9 ≤ i) (hv : lpN (sRst n) (f9 - i) i z1 = lpN (sRst n) f9 0 z) (h : ¬ 10 ≤ f9) : ScP n h9 f9 z 1 w1 := by
  obtain rfl : h9 = 3 := sc_h hh (by decide) c
  have e := lpN_end hi hv
  refine ⟨?_, ?_⟩
  · rw [scR3 hf, if_neg h]
  · rw [scU3 hf, if_neg h, show f9 % 10 = f9 by omega, ← e]; exact ⟨n, hn, hR⟩
theorem sc5_a {n h9 f9 : Nat} {z w : HS} (hn : n ≤ 4) (hf : f9 < 10000) (hh : h9 < 10) (hR : RelN n z w) (c : nI h9 = 5) (h : ¬ f9 / 100 % 10 = 0) : ScP n h9 f9 z 0 w := by
  obtain rfl : h9 = 5 := sc_h hh (by decide) c
  refine ⟨?_, ?_⟩
  · rw [scR5 hf, if_neg h]
  · rw [scU5 hf, if_neg h]; exact ⟨n, hn, hR⟩
theorem sc5_b {n h9 f9 : Nat} {z w : HS} (hn : n ≤ 4) (hf : f9 < 10000) (hh : h9 < 10) (hR : RelN n z w) (c : nI h9 = 5) (h : f9 / 100 % 10 = 0) (e : ¬ okSV (nI (f9 / 1000)) (nI (f9 % 100))) : ScP n h9 f9 z 0 w := by
  obtain rfl : h9 = 5 := sc_h hh (by decide) c
  refine ⟨?_, ?_⟩
  · rw [scR5 hf, if_pos h, hSetR, if_neg e, if_pos rfl]
  · rw [scU5 hf, if_pos h, hSet, if_neg e]; exact ⟨n, hn, hR⟩
theorem sc5_c {n h9 f9 : Nat} {z w : HS} (hn : n ≤ 4) (hf : f9 < 10000) (hh : h9 < 10) (hR : RelN n z w) (c : nI h9 = 5) (h : f9 / 100 % 10 = 0) (e : okSV (nI (f9 / 1000)) (nI (f9 % 100))) (h3 : f9 / 1000 < 3) : ScP n h9 f9 z 1 (mSetS (f9 / 1000) (nI (f9 % 100)) w) := by
  obtain rfl : h9 = 5 := sc_h hh (by decide) c
  refine ⟨?_, ?_⟩
  · rw [scR5 hf, if_pos h, hSetR, if_pos e, nI_clamp (show f9 / 1000 < 2 ^ 31 by omega), hR.2.1.2.1, if_neg (fun q => sg_nn hR h3 (by rw [q]; decide))]
  · rw [scU5 hf, if_pos h]; have q := relX_set hn hR e; rw [nI_clamp (show f9 / 1000 < 2 ^ 31 by omega)] at q; exact q
theorem sc8_a {n h9 f9 : Nat} {z w : HS} (hn : n ≤ 4) (hf : f9 < 10000) (hh : h9 < 10) (hR : RelN n z w) (c : nI h9 = 8) (h : 10 ≤ f9) : ScP n h9 f9 z 0 w := by
  obtain rfl : h9 = 8 := sc_h hh (by decide) c
  refine ⟨?_, ?_⟩
  · rw [scR8 hf, if_pos h]
  · rw [scU8 hf]; exact ⟨n, hn, hR⟩
theorem sc8_b {n h9 f9 : Nat} {z w : HS} (hn : n ≤ 4) (hf : f9 < 10000) (hh : h9 < 10) (hR : RelN n z w) (c : nI h9 = 8) (h : ¬ 10 ≤ f9) (e : hGI n z 2 < nI f9) : ScP n h9 f9 z 0 w := by
  obtain rfl : h9 = 8 := sc_h hh (by decide) c
  refine ⟨?_, ?_⟩
  · rw [scR8 hf, if_neg h, show hNum n z 5 = hGI n z 2 from rfl, show f9 % 10 = f9 by omega, if_pos e]
  · rw [scU8 hf]; exact ⟨n, hn, hR⟩
theorem sc8_c {n h9 f9 : Nat} {z w : HS} (hn : n ≤ 4) (hf : f9 < 10000) (hh : h9 < 10) (hR : RelN n z w) (c : nI h9 = 8) (h : ¬ 10 ≤ f9) (e : ¬ hGI n z 2 < nI f9) : ScP n h9 f9 z 1 w := by
  obtain rfl : h9 = 8 := sc_h hh (by decide) c
  refine ⟨?_, ?_⟩
  · rw [scR8 hf, if_neg h, show hNum n z 5 = hGI n z 2 from rfl, show f9 % 10 = f9 by omega, if_neg e]
  · rw [scU8 hf]; exact ⟨n, hn, hR⟩
theorem sc9_a {n h9 f9 : Nat} {z w : HS} (hn : n ≤ 4) (hf : f9 < 10000) (hh : h9 < 10) (hR : RelN n z w) (c : nI h9 = 9) (h : 1000 ≤ f9) : ScP n h9 f9 z 0 w := by
  obtain rfl : h9 = 9 := sc_h hh (by decide) c
  refine ⟨?_, ?_⟩
  · rw [scR9 hf, if_neg (by omega)]
  · rw [scU9 hf]; exact ⟨n, hn, hR⟩
theorem sc9_b {n h9 f9 : Nat} {z w : HS} (hn : n ≤ 4) (hf : f9 < 10000) (hh : h9 < 10) (hR : RelN n z w) (c : nI h9 = 9) (h : ¬ 1000 ≤ f9) (e : nI f9 < w.1.2.2.1) : ScP n h9 f9 z 0 w := by
  obtain rfl : h9 = 9 := sc_h hh (by decide) c
  refine ⟨?_, ?_⟩
  · rw [scR9 hf, if_pos (by omega), show hNum n z 6 = z.1.2.2.1 from rfl, show f9 % 1000 = f9 by omega, hR.2.1.1, if_pos e]
  · rw [scU9 hf]; exact ⟨n, hn, hR⟩
theorem sc9_c {n h9 f9 : Nat} {z w : HS} (hn : n ≤ 4) (hf : f9 < 10000) (hh : h9 < 10) (hR : RelN n z w) (c : nI h9 = 9) (h : ¬ 1000 ≤ f9) (e : ¬ nI f9 < w.1.2.2.1) : ScP n h9 f9 z 1 w := by
  obtain rfl : h9 = 9 := sc_h hh (by decide) c
  refine ⟨?_, ?_⟩
  · rw [scR9 hf, if_pos (by omega), show hNum n z 6 = z.1.2.2.1 from rfl, show f9 % 1000 = f9 by omega, hR.2.1.1, if_neg e]
  · rw [scU9 hf]; exact ⟨n, hn, hR⟩
/-- a script: its groups from the left -/
def kRun (v : Int32) (s : Int64) : Int32 := if inL v.toInt64 1 3 then (if inL s 0 (lN (100000 ^ min v.toNatClampNeg 3) - 1) then 0 else 1) else 1
def sRun (m k : Nat) : Nat → HS → Int32 ⊕ HS := fun i z => if hScrR (hN z) (k / 100000 ^ (m - 1 - i) % 100000) z = 0 then .inl (nI i) else .inr (hScrU (hN z) (k / 100000 ^ (m - 1 - i) % 100000) z)
def vRun (v : Int32) (s : Int64) (x : HS) : Int32 := lpE (sRun v.toNatClampNeg s.toInt.toNat) (fun _ => -1) v.toNatClampNeg 0 x
theorem run_next {m k i g9 : Nat} {z u : HS} {r : Int32} (hg : g9 = k / 100000 ^ (m - 1 - i) % 100000) (h : ScP (hN z) (g9 / 10000) (g9 % 10000) z r u) (c : ¬ r = 0) : sRun m k i z = .inr (hScrU (hN z) g9 z) ∧ RelX (hScrU (hN z) g9 z) u := by
  have e : g9 / 10000 * 10000 + g9 % 10000 = g9 := by omega
  obtain ⟨h1, h2⟩ := h
  rw [e] at h1 h2
  refine ⟨?_, h2⟩
  unfold sRun
  rw [← hg, if_neg (fun q => c (h1.trans q))]
theorem run_ret {m k i g9 : Nat} {z u : HS} {r : Int32} (hg : g9 = k / 100000 ^ (m - 1 - i) % 100000) (h : ScP (hN z) (g9 / 10000) (g9 % 10000) z r u) (c : r = 0) : sRun m k i z = .inl (nI i) := by
  have e : g9 / 10000 * 10000 + g9 % 10000 = g9 := by omega
  obtain ⟨h1, h2⟩ := h
  rw [e] at h1
  unfold sRun
  rw [← hg, if_pos (h1.symm.trans c)]
theorem p5_le {e m : Nat} (h : e ≤ m) : 100000 ^ e ≤ 100000 ^ m := Nat.pow_le_pow_right (by decide) h
theorem inS {s : Int64} {e : Nat} (he : e ≤ 3) (h : inL s 0 (lN (100000 ^ e) - 1)) : ∃ k : Nat, k < 100000 ^ e ∧ s = lN k := by
  have h3 : 100000 ^ e ≤ 100000 ^ 3 := p5_le he
  have hp : 0 < 100000 ^ e := Nat.pow_pos (by decide)
  rw [show lN (100000 ^ e) - 1 = lN (100000 ^ e - 1) from lN_sub hp] at h
  obtain ⟨k, hk, rfl⟩ := pk_lOf h.1
  have := h.2
  rw [pk_lLT (by omega) hk] at this
  exact ⟨k, by omega, rfl⟩
theorem lN_nat {k : Nat} (h : k < 2 ^ 63) : (lN k).toInt.toNat = k := by rw [pk_lT h]; rfl
abbrev rm_X8_commandGuest : Room := { frames := 5, cells := 0, slots := 0, locals := 114 }
set_option maxHeartbeats 4000000 in
set_option maxRecDepth 100000 in
theorem c_X8_commandGuest (l : Launch) (D : va_G) (cy : Nat → ClassId) (b : Nat → Nat) (rf sn ac sp ou : Int32) (n h9 f9 : Nat) (hn : n ≤ 4) (z w : HS) (hR : RelN n z w) (hf : f9 < 10000) (hh : h9 < 10) (hj : f9 / 1000 < n) (hc : nI h9 = 2 ∨ nI h9 = 4 ∨ nI h9 = 6 ∨ nI h9 = 7) (sz : Nat) : Met l yX8_commandGuest wsX8_commandGuest rm_X8_commandGuest (wrP D cy [.ref (b 0), .int (nI h9), .int (nI (f9 / 1000)), .int (nI (f9 % 1000)), .int (nI (f9 % 10))] (wj [[(b 0, .inr (5, [.int rf, .ref (b 1), .int sn, .ref (b 2), .ref (b 3), .ref (b 4), .ref (b 5), .int ac, .ref (b 6), .ref (b 7), .int sp, .int ou]))], mW cy (b 3) w]) sz) (va_Qi (fun (r : Int32) (u : HS) => ScP n h9 f9 z r u) (wrB D (va_A (wj [[(b 0, .inr (5, [.int rf, .ref (b 1), .int sn, .ref (b 2), .ref (b 3), .ref (b 4), .ref (b 5), .int ac, .ref (b 6), .ref (b 7), .int sp, .int ou]))], mW cy (b 3) w]) sz) (fun u => wj [[(b 0, .inr (5, [.int rf, .ref (b 1), .int sn, .ref (b 2), .ref (b 3), .ref (b 4), .ref (b 5), .int ac, .ref (b 6), .ref (b 7), .int sp, .int ou]))], mW cy (b 3) u])) (va_A (wj [[(b 0, .inr (5, [.int rf, .ref (b 1), .int sn, .ref (b 2), .ref (b 3), .ref (b 4), .ref (b 5), .int ac, .ref (b 6), .ref (b 7), .int sp, .int ou]))], mW cy (b 3) w]) sz)) 0 0 (va_A (wj [[(b 0, .inr (5, [.int rf, .ref (b 1), .int sn, .ref (b 2), .ref (b 3), .ref (b 4), .ref (b 5), .int ac, .ref (b 6), .ref (b 7), .int sp, .int ou]))], mW cy (b 3) w]) sz) := by
  refine Mwi (cc := cX8_commandGuest) (maxL := 5) (ty := .boolean) (by decide) rfl (Nat.le_of_ble_eq_true rfl) (fun _ _ q => by rw [q.1]; exact hScr_nar) ?_
  intro p e s m args below meth c Q ls A hsz hF hK hP hD hA hl hret
  obtain ⟨hx, hb, hml, hown, hts⟩ := id hF
  have hown : s.vm.findClass RX8 = some m.cls := hown
  have hin_X8 : ∀ w ∈ u_ws RX8 TX8 12, w ∈ wsX8_commandGuest := by decide +kernel
  have hl : lv_has ls 5 [(0, .ref (b 0)), (1, .int (nI h9)), (2, .int (nI (f9 / 1000))), (3, .int (nI (f9 % 1000))), (4, .int (nI (f9 % 10)))] := hl
  suffices key : ∀ (H : Heap) (locs : List Loc), va_P D vwCl (wj [[(b 0, .inr (5, [.int rf, .ref (b 1), .int sn, .ref (b 2), .ref (b 3), .ref (b 4), .ref (b 5), .int ac, .ref (b 6), .ref (b 7), .int sp, .int ou]))], mW cy (b 3) w]) H → va_D A (wj [[(b 0, .inr (5, [.int rf, .ref (b 1), .int sn, .ref (b 2), .ref (b 3), .ref (b 4), .ref (b 5), .int ac, .ref (b 6), .ref (b 7), .int sp, .int ou]))], mW cy (b 3) w]) → va_S A s.heap H locs → W p l e rm_X8_commandGuest s m args below meth c H locs 0 0 Q (F0 m 0 ls []) from key s.heap [] hP hD va_S.rf
  intro H locs hP hD hS
  refine lv_iload_n hx hb dX8_commandGuest_0 rfl (lv_at hl 1 rfl) ?_
  by_cases c_1 : nI h9 = 2
  · refine lv_tableIn (off := 35) (tgt := 36) hx hb dX8_commandGuest_1 (by rw [c_1]; decide) (by rw [c_1]; decide) (by rw [c_1]; rfl) (by decide) ?_
    refine lv_iload_n hx hb dX8_commandGuest_36 rfl (lv_at hl 3 rfl) ?_
    refine lv_if_ne (tgt := 55) hx hb dX8_commandGuest_37 (by decide) (fun c_2 => ?_) (fun c_2 => ?_)
    · have c_2 : ¬ f9 % 1000 = 0 := fun q => c_2 ((nI_eq (a := f9 % 1000) (b := 0) (by omega) (by omega)).mpr q)
      refine lv_iconst (v := 0) hx hb dX8_commandGuest_55 (by decide) ?_
      exact hret _ _ H locs _ w dX8_commandGuest_56 hP hD hS (sc2_a hn hf hh hR c_1 c_2)
    · have c_2 : f9 % 1000 = 0 := (nI_eq (a := f9 % 1000) (b := 0) (by omega) (by omega)).mp c_2
      refine lv_aload_n hx hb dX8_commandGuest_40 rfl (lv_at hl 0 rfl) ?_
      refine va_get (ci := 5) (v := .ref (b 3)) (C := RX8) (T := TX8) (N := 12) hx hb hts hin_X8 hown hK hP 0 rfl rfl 4 (by decide) (hts (.fieldLink RX8 16 "ButtonGuestsModel" "trial" "[I") (by decide +kernel)) (fun _ h9 => h9) rfl dX8_commandGuest_41 ?_
      refine lv_iload_n hx hb dX8_commandGuest_44 rfl (lv_at hl 2 rfl) ?_
      refine wr_i (fun u => wj [[(b 0, .inr (5, [.int rf, .ref (b 1), .int sn, .ref (b 2), .ref (b 3), .ref (b 4), .ref (b 5), .int ac, .ref (b 6), .ref (b 7), .int sp, .int ou]))], mW cy (b 3) u]) (va_runS (As := [.ref (b 3), .int (nI (f9 / 1000))]) (rest := []) hF (c_X8_pressOn l D cy (b 3) n hn w (hR.gy) H.size (f9 / 1000) (by omega) (hR.bu (by omega)) hR.fl) (va_cwS 2 hts gX8_commandGuest_X8_pressOn rfl rfl rfl (by decide +kernel) ⟨Nat.le_of_ble_eq_true rfl, Nat.le_of_ble_eq_true rfl⟩) (wr_preS hK hP hD (zz_pick1 [[(b 0, .inr (5, [.int rf, .ref (b 1), .int sn, .ref (b 2), .ref (b 3), .ref (b 4), .ref (b 5), .int ac, .ref (b 6), .ref (b 7), .int sp, .int ou]))], mW cy (b 3) w] 1 [0] (show List.Perm ([1] ++ [0]) (List.range 2) by decide) rfl rfl)) rfl rfl hl.1 rfl (lv_room (Nat.le_of_ble_eq_true rfl)) dX8_commandGuest_45 ⟨Nat.le_of_ble_eq_true rfl, Nat.le_of_ble_eq_true rfl⟩) hP hD hS hA (zz_pick1 [[(b 0, .inr (5, [.int rf, .ref (b 1), .int sn, .ref (b 2), .ref (b 3), .ref (b 4), .ref (b 5), .int ac, .ref (b 6), .ref (b 7), .int sp, .int ou]))], mW cy (b 3) w] 1 [0] (show List.Perm ([1] ++ [0]) (List.range 2) by decide) rfl rfl) (fun u => (zz_pick1 [[(b 0, .inr (5, [.int rf, .ref (b 1), .int sn, .ref (b 2), .ref (b 3), .ref (b 4), .ref (b 5), .int ac, .ref (b 6), .ref (b 7), .int sp, .int ou]))], mW cy (b 3) u] 1 [0] (show List.Perm ([1] ++ [0]) (List.range 2) by decide) rfl rfl)) (fun r_3 u_4 H locs e_5 hP hD hS => ?_)
      obtain ⟨rfl, rfl⟩ := e_5
      have hP : va_P D vwCl (wj [[(b 0, .inr (5, [.int rf, .ref (b 1), .int sn, .ref (b 2), .ref (b 3), .ref (b 4), .ref (b 5), .int ac, .ref (b 6), .ref (b 7), .int sp, .int ou]))], mW cy (b 3) (mPress n ((f9 / 1000)) w)]) H := hP
      have hD : va_D A (wj [[(b 0, .inr (5, [.int rf, .ref (b 1), .int sn, .ref (b 2), .ref (b 3), .ref (b 4), .ref (b 5), .int ac, .ref (b 6), .ref (b 7), .int sp, .int ou]))], mW cy (b 3) (mPress n ((f9 / 1000)) w)]) := hD
      refine lv_if_ne (tgt := 55) hx hb dX8_commandGuest_48 (by decide) (fun c_6 => ?_) (fun c_6 => ?_)
      · have c_6 : ¬ (vReas w.1.2.1 w.2.1 w.2.2.1 w.2.2.2.2.2.2.1 w.2.2.2.2.2.2.2.1 ((f9 / 1000))) = 0 := c_6
        refine lv_iconst (v := 0) hx hb dX8_commandGuest_55 (by decide) ?_
        exact hret _ _ H locs _ (mPress n ((f9 / 1000)) w) dX8_commandGuest_56 hP hD hS (sc2_b hn hf hh hR c_1 hj c_2 c_6)
      · have c_6 : (vReas w.1.2.1 w.2.1 w.2.2.1 w.2.2.2.2.2.2.1 w.2.2.2.2.2.2.2.1 ((f9 / 1000))) = 0 := c_6
        refine lv_iconst (v := 1) hx hb dX8_commandGuest_51 (by decide) ?_
        refine lv_goto (tgt := 56) hx hb dX8_commandGuest_52 (by decide) ?_
        exact hret _ _ H locs _ (mPress n ((f9 / 1000)) w) dX8_commandGuest_56 hP hD hS (sc2_c hn hf hh hR c_1 hj c_2 c_6)
  by_cases c_7 : nI h9 = 3
  · refine lv_tableIn (off := 103) (tgt := 104) hx hb dX8_commandGuest_1 (by rw [c_7]; decide) (by rw [c_7]; decide) (by rw [c_7]; rfl) (by decide) ?_
    exact absurd hc (by rw [c_7]; decide)
  by_cases c_8 : nI h9 = 4
  · refine lv_tableIn (off := 56) (tgt := 57) hx hb dX8_commandGuest_1 (by rw [c_8]; decide) (by rw [c_8]; decide) (by rw [c_8]; rfl) (by decide) ?_
    refine lv_iload_n hx hb dX8_commandGuest_57 rfl (lv_at hl 3 rfl) ?_
    refine lv_if_ne (tgt := 76) hx hb dX8_commandGuest_58 (by decide) (fun c_9 => ?_) (fun c_9 => ?_)
    · have c_9 : ¬ f9 % 1000 = 0 := fun q => c_9 ((nI_eq (a := f9 % 1000) (b := 0) (by omega) (by omega)).mpr q)
      refine lv_iconst (v := 0) hx hb dX8_commandGuest_76 (by decide) ?_
      exact hret _ _ H locs _ w dX8_commandGuest_77 hP hD hS (sc4_a hn hf hh hR c_8 c_9)
    · have c_9 : f9 % 1000 = 0 := (nI_eq (a := f9 % 1000) (b := 0) (by omega) (by omega)).mp c_9
      refine lv_aload_n hx hb dX8_commandGuest_61 rfl (lv_at hl 0 rfl) ?_
      refine va_get (ci := 5) (v := .ref (b 3)) (C := RX8) (T := TX8) (N := 12) hx hb hts hin_X8 hown hK hP 0 rfl rfl 4 (by decide) (hts (.fieldLink RX8 16 "ButtonGuestsModel" "trial" "[I") (by decide +kernel)) (fun _ h9 => h9) rfl dX8_commandGuest_62 ?_
      refine lv_iload_n hx hb dX8_commandGuest_65 rfl (lv_at hl 2 rfl) ?_
      refine wr_i (fun u => wj [[(b 0, .inr (5, [.int rf, .ref (b 1), .int sn, .ref (b 2), .ref (b 3), .ref (b 4), .ref (b 5), .int ac, .ref (b 6), .ref (b 7), .int sp, .int ou]))], mW cy (b 3) u]) (va_runS (As := [.ref (b 3), .int (nI (f9 / 1000))]) (rest := []) hF (c_X8_leaveOn l D cy (b 3) n hn w (hR.gy) (f9 / 1000) (by omega) H.size) (va_cwS 2 hts gX8_commandGuest_X8_leaveOn rfl rfl rfl (by decide +kernel) ⟨Nat.le_of_ble_eq_true rfl, Nat.le_of_ble_eq_true rfl⟩) (wr_preS hK hP hD (zz_pick1 [[(b 0, .inr (5, [.int rf, .ref (b 1), .int sn, .ref (b 2), .ref (b 3), .ref (b 4), .ref (b 5), .int ac, .ref (b 6), .ref (b 7), .int sp, .int ou]))], mW cy (b 3) w] 1 [0] (show List.Perm ([1] ++ [0]) (List.range 2) by decide) rfl rfl)) rfl rfl hl.1 rfl (lv_room (Nat.le_of_ble_eq_true rfl)) dX8_commandGuest_66 ⟨Nat.le_of_ble_eq_true rfl, Nat.le_of_ble_eq_true rfl⟩) hP hD hS hA (zz_pick1 [[(b 0, .inr (5, [.int rf, .ref (b 1), .int sn, .ref (b 2), .ref (b 3), .ref (b 4), .ref (b 5), .int ac, .ref (b 6), .ref (b 7), .int sp, .int ou]))], mW cy (b 3) w] 1 [0] (show List.Perm ([1] ++ [0]) (List.range 2) by decide) rfl rfl) (fun u => (zz_pick1 [[(b 0, .inr (5, [.int rf, .ref (b 1), .int sn, .ref (b 2), .ref (b 3), .ref (b 4), .ref (b 5), .int ac, .ref (b 6), .ref (b 7), .int sp, .int ou]))], mW cy (b 3) u] 1 [0] (show List.Perm ([1] ++ [0]) (List.range 2) by decide) rfl rfl)) (fun r_10 u_11 H locs e_12 hP hD hS => ?_)
      obtain ⟨rfl, rfl⟩ := e_12
      have hP : va_P D vwCl (wj [[(b 0, .inr (5, [.int rf, .ref (b 1), .int sn, .ref (b 2), .ref (b 3), .ref (b 4), .ref (b 5), .int ac, .ref (b 6), .ref (b 7), .int sp, .int ou]))], mW cy (b 3) (hDis n ((f9 / 1000)) w)]) H := hP
      have hD : va_D A (wj [[(b 0, .inr (5, [.int rf, .ref (b 1), .int sn, .ref (b 2), .ref (b 3), .ref (b 4), .ref (b 5), .int ac, .ref (b 6), .ref (b 7), .int sp, .int ou]))], mW cy (b 3) (hDis n ((f9 / 1000)) w)]) := hD
      refine lv_if_lt (tgt := 76) hx hb dX8_commandGuest_69 (by decide) (fun c_13 => ?_) (fun c_13 => ?_)
      · have c_13 : (w.2.2.2.2.2.2.2.1 ((f9 / 1000))) < 0 := c_13
        refine lv_iconst (v := 0) hx hb dX8_commandGuest_76 (by decide) ?_
        exact absurd c_13 (gr_nn hR hj)
      · have c_13 : ¬ (w.2.2.2.2.2.2.2.1 ((f9 / 1000))) < 0 := c_13
        refine lv_iconst (v := 1) hx hb dX8_commandGuest_72 (by decide) ?_
        refine lv_goto (tgt := 77) hx hb dX8_commandGuest_73 (by decide) ?_
        exact hret _ _ H locs _ (hDis n ((f9 / 1000)) w) dX8_commandGuest_77 hP hD hS (sc4_c hn hf hh hR c_8 hj c_9)
  by_cases c_14 : nI h9 = 5
  · refine lv_tableIn (off := 103) (tgt := 104) hx hb dX8_commandGuest_1 (by rw [c_14]; decide) (by rw [c_14]; decide) (by rw [c_14]; rfl) (by decide) ?_
    exact absurd hc (by rw [c_14]; decide)
  by_cases c_15 : nI h9 = 6
  · refine lv_tableIn (off := 77) (tgt := 78) hx hb dX8_commandGuest_1 (by rw [c_15]; decide) (by rw [c_15]; decide) (by rw [c_15]; rfl) (by decide) ?_
    refine lv_iload_n hx hb dX8_commandGuest_78 rfl (lv_at hl 3 rfl) ?_
    refine lv_bipush (v := 10) hx hb dX8_commandGuest_79 (by decide) ?_
    refine lv_icmp_ge (tgt := 102) hx hb dX8_commandGuest_81 (by decide) (fun c_16 => ?_) (fun c_16 => ?_)
    · have c_16 : 10 ≤ f9 % 1000 := (nI_leI (a := 10) (b := f9 % 1000) (by omega) (by omega)).mp c_16
      refine lv_iconst (v := 0) hx hb dX8_commandGuest_102 (by decide) ?_
      exact hret _ _ H locs _ w dX8_commandGuest_103 hP hD hS (sc6_a hn hf hh hR c_15 c_16)
    · have c_16 : ¬ 10 ≤ f9 % 1000 := fun q => c_16 ((nI_leI (a := 10) (b := f9 % 1000) (by omega) (by omega)).mpr q)
      refine lv_aload_n hx hb dX8_commandGuest_84 rfl (lv_at hl 0 rfl) ?_
      refine va_get (ci := 5) (v := .ref (b 3)) (C := RX8) (T := TX8) (N := 12) hx hb hts hin_X8 hown hK hP 0 rfl rfl 4 (by decide) (hts (.fieldLink RX8 16 "ButtonGuestsModel" "trial" "[I") (by decide +kernel)) (fun _ h9 => h9) rfl dX8_commandGuest_85 ?_
      refine lv_iload_n hx hb dX8_commandGuest_88 rfl (lv_at hl 2 rfl) ?_
      refine lv_iconst (v := 3) hx hb dX8_commandGuest_89 (by decide) ?_
      refine rd_S (As := [.ref (b 3), .int (nI (f9 / 1000)), .int 3]) (rest := []) hF (c_X8_of l D cy (b 3) n hn w (hR.gy) (f9 / 1000) 3 (by omega) (by omega)) (va_cwS 3 hts gX8_commandGuest_X8_of rfl rfl rfl (by decide +kernel) ⟨Nat.le_of_ble_eq_true rfl, Nat.le_of_ble_eq_true rfl⟩) hK (hP.sub [1] rfl) rfl hl.1 rfl (Nat.le_of_ble_eq_true rfl) dX8_commandGuest_90 ⟨Nat.le_of_ble_eq_true rfl, Nat.le_of_ble_eq_true rfl⟩ ?_
      refine lv_iload hx hb dX8_commandGuest_93 (lv_at hl 4 rfl) ?_
      refine lv_icmp_ne (tgt := 102) hx hb dX8_commandGuest_95 (by decide) (fun c_17 => ?_) (fun c_17 => ?_)
      · have c_17 : ¬ (mCol w 3 ((f9 / 1000))) = (nI (f9 % 10)) := c_17
        refine lv_iconst (v := 0) hx hb dX8_commandGuest_102 (by decide) ?_
        exact hret _ _ H locs _ w dX8_commandGuest_103 hP hD hS (sc6_b hn hf hh hR c_15 hj c_16 c_17)
      · have c_17 : (mCol w 3 ((f9 / 1000))) = (nI (f9 % 10)) := c_17
        refine lv_iconst (v := 1) hx hb dX8_commandGuest_98 (by decide) ?_
        refine lv_goto (tgt := 103) hx hb dX8_commandGuest_99 (by decide) ?_
        exact hret _ _ H locs _ w dX8_commandGuest_103 hP hD hS (sc6_c hn hf hh hR c_15 hj c_16 c_17)
  have hsw : (nI h9).toInt < 2 ∨ 6 < (nI h9).toInt := by
    have q0 := fun (v9 : Int32) (h : ¬ nI h9 = v9) => fun (q : (nI h9).toInt = v9.toInt) => h (Int32.toInt_inj.mp q)
    have q_c_1 : ¬ (nI h9).toInt = 2 := q0 2 c_1
    have q_c_7 : ¬ (nI h9).toInt = 3 := q0 3 c_7
    have q_c_8 : ¬ (nI h9).toInt = 4 := q0 4 c_8
    have q_c_14 : ¬ (nI h9).toInt = 5 := q0 5 c_14
    have q_c_15 : ¬ (nI h9).toInt = 6 := q0 6 c_15
    omega
  refine lv_tableOut (tgt := 104) hx hb dX8_commandGuest_1 hsw (by decide) ?_
  have c7 : nI h9 = 7 := by
    rcases hc with q | q | q | q
    · exact absurd q c_1
    · exact absurd q c_8
    · exact absurd q c_15
    · exact q
  refine lv_iload_n hx hb dX8_commandGuest_104 rfl (lv_at hl 3 rfl) ?_
  refine lv_bipush (v := 10) hx hb dX8_commandGuest_105 (by decide) ?_
  refine lv_icmp_ge (tgt := 128) hx hb dX8_commandGuest_107 (by decide) (fun c_18 => ?_) (fun c_18 => ?_)
  · have c_18 : 10 ≤ f9 % 1000 := (nI_leI (a := 10) (b := f9 % 1000) (by omega) (by omega)).mp c_18
    refine lv_iconst (v := 0) hx hb dX8_commandGuest_128 (by decide) ?_
    exact hret _ _ H locs _ w dX8_commandGuest_129 hP hD hS (sc7_a hn hf hh hR c7 c_18)
  · have c_18 : ¬ 10 ≤ f9 % 1000 := fun q => c_18 ((nI_leI (a := 10) (b := f9 % 1000) (by omega) (by omega)).mpr q)
    refine lv_aload_n hx hb dX8_commandGuest_110 rfl (lv_at hl 0 rfl) ?_
    refine va_get (ci := 5) (v := .ref (b 3)) (C := RX8) (T := TX8) (N := 12) hx hb hts hin_X8 hown hK hP 0 rfl rfl 4 (by decide) (hts (.fieldLink RX8 16 "ButtonGuestsModel" "trial" "[I") (by decide +kernel)) (fun _ h9 => h9) rfl dX8_commandGuest_111 ?_
    refine lv_iload_n hx hb dX8_commandGuest_114 rfl (lv_at hl 2 rfl) ?_
    refine lv_iconst (v := 5) hx hb dX8_commandGuest_115 (by decide) ?_
    refine rd_S (As := [.ref (b 3), .int (nI (f9 / 1000)), .int 5]) (rest := []) hF (c_X8_of l D cy (b 3) n hn w (hR.gy) (f9 / 1000) 5 (by omega) (by omega)) (va_cwS 3 hts gX8_commandGuest_X8_of rfl rfl rfl (by decide +kernel) ⟨Nat.le_of_ble_eq_true rfl, Nat.le_of_ble_eq_true rfl⟩) hK (hP.sub [1] rfl) rfl hl.1 rfl (Nat.le_of_ble_eq_true rfl) dX8_commandGuest_116 ⟨Nat.le_of_ble_eq_true rfl, Nat.le_of_ble_eq_true rfl⟩ ?_
    refine lv_iload hx hb dX8_commandGuest_119 (lv_at hl 4 rfl) ?_
    refine lv_icmp_gt (tgt := 128) hx hb dX8_commandGuest_121 (by decide) (fun c_19 => ?_) (fun c_19 => ?_)
    · have c_19 : (nI (f9 % 10)) < (mCol w 5 ((f9 / 1000))) := c_19
      refine lv_iconst (v := 0) hx hb dX8_commandGuest_128 (by decide) ?_
      exact hret _ _ H locs _ w dX8_commandGuest_129 hP hD hS (sc7_b hn hf hh hR c7 hj c_18 c_19)
    · have c_19 : ¬ (nI (f9 % 10)) < (mCol w 5 ((f9 / 1000))) := c_19
      refine lv_iconst (v := 1) hx hb dX8_commandGuest_124 (by decide) ?_
      refine lv_goto (tgt := 129) hx hb dX8_commandGuest_125 (by decide) ?_
      exact hret _ _ H locs _ w dX8_commandGuest_129 hP hD hS (sc7_c hn hf hh hR c7 hj c_18 c_19)
abbrev rm_X8_command : Room := { frames := 6, cells := 0, slots := 0, locals := 138 }
set_option maxHeartbeats 4000000 in
set_option maxRecDepth 100000 in
theorem c_X8_command (l : Launch) (D : va_G) (cy : Nat → ClassId) (b : Nat → Nat) (rf sn ac sp ou : Int32) (n h9 f9 : Nat) (hn : n ≤ 4) (z w : HS) (hR : RelN n z w) (hf : f9 < 10000) (hh : h9 < 10) (sz : Nat) : Met l yX8_command wsX8_command rm_X8_command (wrP D cy [.ref (b 0), .int (nI h9), .int (nI f9)] (wj [[(b 0, .inr (5, [.int rf, .ref (b 1), .int sn, .ref (b 2), .ref (b 3), .ref (b 4), .ref (b 5), .int ac, .ref (b 6), .ref (b 7), .int sp, .int ou]))], mW cy (b 3) w]) sz) (va_Qi (fun (r : Int32) (u : HS) => ScP n h9 f9 z r u) (wrB D (va_A (wj [[(b 0, .inr (5, [.int rf, .ref (b 1), .int sn, .ref (b 2), .ref (b 3), .ref (b 4), .ref (b 5), .int ac, .ref (b 6), .ref (b 7), .int sp, .int ou]))], mW cy (b 3) w]) sz) (fun u => wj [[(b 0, .inr (5, [.int rf, .ref (b 1), .int sn, .ref (b 2), .ref (b 3), .ref (b 4), .ref (b 5), .int ac, .ref (b 6), .ref (b 7), .int sp, .int ou]))], mW cy (b 3) u])) (va_A (wj [[(b 0, .inr (5, [.int rf, .ref (b 1), .int sn, .ref (b 2), .ref (b 3), .ref (b 4), .ref (b 5), .int ac, .ref (b 6), .ref (b 7), .int sp, .int ou]))], mW cy (b 3) w]) sz)) 0 0 (va_A (wj [[(b 0, .inr (5, [.int rf, .ref (b 1), .int sn, .ref (b 2), .ref (b 3), .ref (b 4), .ref (b 5), .int ac, .ref (b 6), .ref (b 7), .int sp, .int ou]))], mW cy (b 3) w]) sz) := by
  refine Mwi (cc := cX8_command) (maxL := 9) (ty := .boolean) (by decide) rfl (Nat.le_of_ble_eq_true rfl) (fun _ _ q => by rw [q.1]; exact hScr_nar) ?_
  intro p e s m args below meth c Q ls A hsz hF hK hP hD hA hl hret
  obtain ⟨hx, hb, hml, hown, hts⟩ := id hF
  have hown : s.vm.findClass RX8 = some m.cls := hown
  have hin_X8 : ∀ w ∈ u_ws RX8 TX8 12, w ∈ wsX8_command := by decide +kernel
  have hl : lv_has ls 9 [(0, .ref (b 0)), (1, .int (nI h9)), (2, .int (nI f9))] := hl
  suffices key : ∀ (H : Heap) (locs : List Loc), va_P D vwCl (wj [[(b 0, .inr (5, [.int rf, .ref (b 1), .int sn, .ref (b 2), .ref (b 3), .ref (b 4), .ref (b 5), .int ac, .ref (b 6), .ref (b 7), .int sp, .int ou]))], mW cy (b 3) w]) H → va_D A (wj [[(b 0, .inr (5, [.int rf, .ref (b 1), .int sn, .ref (b 2), .ref (b 3), .ref (b 4), .ref (b 5), .int ac, .ref (b 6), .ref (b 7), .int sp, .int ou]))], mW cy (b 3) w]) → va_S A s.heap H locs → W p l e rm_X8_command s m args below meth c H locs 0 0 Q (F0 m 0 ls []) from key s.heap [] hP hD va_S.rf
  intro H locs hP hD hS
  refine lv_iload_n hx hb dX8_command_0 rfl (lv_at hl 2 rfl) ?_
  refine lv_sipush (v := 1000) hx hb dX8_command_1 (by decide) ?_
  refine lv_idiv hx hb dX8_command_4 (by decide) ?_
  refine zz_top (y := nI (f9 / 1000)) (pk_div (by omega) (by decide) (by decide)) ?_
  refine lv_istore_n (lv' := [(3, .int (nI (f9 / 1000))), (0, .ref (b 0)), (1, .int (nI h9)), (2, .int (nI f9))]) hx hb dX8_command_5 rfl hl (by decide) rfl (fun ls hl => ?_)
  refine lv_iload_n hx hb dX8_command_6 rfl (lv_at hl 3 rfl) ?_
  refine lv_bipush (v := 100) hx hb dX8_command_7 (by decide) ?_
  refine lv_idiv hx hb dX8_command_9 (by decide) ?_
  refine zz_top (y := nI (f9 / 100)) (pk_div (by omega) (by decide) (by decide)) ?_
  refine lv_bipush (v := 10) hx hb dX8_command_10 (by decide) ?_
  refine lv_irem hx hb dX8_command_12 (by decide) ?_
  refine zz_top (y := nI ((f9 / 100) % 10)) (pk_rem (by omega) (by decide) (by decide)) ?_
  refine lv_istore (lv' := [(4, .int (nI ((f9 / 100) % 10))), (3, .int (nI (f9 / 1000))), (0, .ref (b 0)), (1, .int (nI h9)), (2, .int (nI f9))]) hx hb dX8_command_13 hl (by decide) rfl (fun ls hl => ?_)
  refine lv_iload_n hx hb dX8_command_15 rfl (lv_at hl 4 rfl) ?_
  refine lv_bipush (v := 10) hx hb dX8_command_16 (by decide) ?_
  refine lv_idiv hx hb dX8_command_18 (by decide) ?_
  refine zz_top (y := nI (f9 / 10)) (pk_div (by omega) (by decide) (by decide)) ?_
  refine lv_bipush (v := 10) hx hb dX8_command_19 (by decide) ?_
  refine lv_irem hx hb dX8_command_21 (by decide) ?_
  refine zz_top (y := nI ((f9 / 10) % 10)) (pk_rem (by omega) (by decide) (by decide)) ?_
  refine lv_istore (lv' := [(5, .int (nI ((f9 / 10) % 10))), (4, .int (nI ((f9 / 100) % 10))), (3, .int (nI (f9 / 1000))), (0, .ref (b 0)), (1, .int (nI h9)), (2, .int (nI f9))]) hx hb dX8_command_22 hl (by decide) rfl (fun ls hl => ?_)
  refine lv_iload_n hx hb dX8_command_24 rfl (lv_at hl 5 rfl) ?_
  refine lv_bipush (v := 10) hx hb dX8_command_25 (by decide) ?_
  refine lv_irem hx hb dX8_command_27 (by decide) ?_
  refine zz_top (y := nI (f9 % 10)) (pk_rem (by omega) (by decide) (by decide)) ?_
  refine lv_istore (lv' := [(6, .int (nI (f9 % 10))), (5, .int (nI ((f9 / 10) % 10))), (4, .int (nI ((f9 / 100) % 10))), (3, .int (nI (f9 / 1000))), (0, .ref (b 0)), (1, .int (nI h9)), (2, .int (nI f9))]) hx hb dX8_command_28 hl (by decide) rfl (fun ls hl => ?_)
  refine lv_iload_n hx hb dX8_command_30 rfl (lv_at hl 6 rfl) ?_
  refine lv_bipush (v := 100) hx hb dX8_command_31 (by decide) ?_
  refine lv_irem hx hb dX8_command_33 (by decide) ?_
  refine zz_top (y := nI (f9 % 100)) (pk_rem (by omega) (by decide) (by decide)) ?_
  refine lv_istore (lv' := [(7, .int (nI (f9 % 100))), (6, .int (nI (f9 % 10))), (5, .int (nI ((f9 / 10) % 10))), (4, .int (nI ((f9 / 100) % 10))), (3, .int (nI (f9 / 1000))), (0, .ref (b 0)), (1, .int (nI h9)), (2, .int (nI f9))]) hx hb dX8_command_34 hl (by decide) rfl (fun ls hl => ?_)
  refine lv_iload_n hx hb dX8_command_36 rfl (lv_at hl 6 rfl) ?_
  by_cases c_1 : nI h9 = 1
  · refine lv_tableIn (off := 51) (tgt := 88) hx hb dX8_command_37 (by rw [c_1]; decide) (by rw [c_1]; decide) (by rw [c_1]; rfl) (by decide) ?_
    refine lv_iload_n hx hb dX8_command_88 rfl (lv_at hl 4 rfl) ?_
    refine rd_S (As := [.int (nI (f9 / 1000))]) (rest := []) hF (c_X8_isFloor l D cy (nI (f9 / 1000))) (va_cwS 1 hts gX8_command_X8_isFloor rfl rfl rfl (by decide +kernel) ⟨Nat.le_of_ble_eq_true rfl, Nat.le_of_ble_eq_true rfl⟩) hK (fun k q h => by simp at h) rfl hl.1 rfl (Nat.le_of_ble_eq_true rfl) dX8_command_89 ⟨Nat.le_of_ble_eq_true rfl, Nat.le_of_ble_eq_true rfl⟩ ?_
    refine lv_if_eq (tgt := 155) hx hb dX8_command_92 (by decide) (fun c_2 => ?_) (fun c_2 => ?_)
    · have c_2 := zb_eq.mp c_2
      refine lv_iconst (v := 0) hx hb dX8_command_155 (by decide) ?_
      exact hret _ _ H locs _ w dX8_command_156 hP hD hS (sc1_no hn hf hh hR c_1 (fun q => c_2 q.1))
    · have c_2 := zb_ne.mp c_2
      refine lv_iload hx hb dX8_command_95 (lv_at hl 3 rfl) ?_
      refine rd_S (As := [.int (nI ((f9 / 100) % 10))]) (rest := []) hF (c_X8_isFloor l D cy (nI ((f9 / 100) % 10))) (va_cwS 1 hts gX8_command_X8_isFloor rfl rfl rfl (by decide +kernel) ⟨Nat.le_of_ble_eq_true rfl, Nat.le_of_ble_eq_true rfl⟩) hK (fun k q h => by simp at h) rfl hl.1 rfl (Nat.le_of_ble_eq_true rfl) dX8_command_97 ⟨Nat.le_of_ble_eq_true rfl, Nat.le_of_ble_eq_true rfl⟩ ?_
      refine lv_if_eq (tgt := 155) hx hb dX8_command_100 (by decide) (fun c_3 => ?_) (fun c_3 => ?_)
      · have c_3 := zb_eq.mp c_3
        refine lv_iconst (v := 0) hx hb dX8_command_155 (by decide) ?_
        exact hret _ _ H locs _ w dX8_command_156 hP hD hS (sc1_no hn hf hh hR c_1 (fun q => c_3 q.2.1))
      · have c_3 := zb_ne.mp c_3
        refine lv_iload hx hb dX8_command_103 (lv_at hl 2 rfl) ?_
        refine rd_S (As := [.int (nI ((f9 / 10) % 10))]) (rest := []) hF (c_X8_isFloor l D cy (nI ((f9 / 10) % 10))) (va_cwS 1 hts gX8_command_X8_isFloor rfl rfl rfl (by decide +kernel) ⟨Nat.le_of_ble_eq_true rfl, Nat.le_of_ble_eq_true rfl⟩) hK (fun k q h => by simp at h) rfl hl.1 rfl (Nat.le_of_ble_eq_true rfl) dX8_command_105 ⟨Nat.le_of_ble_eq_true rfl, Nat.le_of_ble_eq_true rfl⟩ ?_
        refine lv_if_eq (tgt := 155) hx hb dX8_command_108 (by decide) (fun c_4 => ?_) (fun c_4 => ?_)
        · have c_4 := zb_eq.mp c_4
          refine lv_iconst (v := 0) hx hb dX8_command_155 (by decide) ?_
          exact hret _ _ H locs _ w dX8_command_156 hP hD hS (sc1_no hn hf hh hR c_1 (fun q => c_4 q.2.2.1))
        · have c_4 := zb_ne.mp c_4
          refine lv_iload hx hb dX8_command_111 (lv_at hl 1 rfl) ?_
          refine lv_i2l (v := Int32.toInt64 (nI (f9 % 10))) hx hb dX8_command_113 rfl ?_
          refine lv_lconst (v := 1) hx hb dX8_command_114 (by decide) ?_
          refine lv_ldc2 (v := 4) hx hb hown (hts (.constantLong RX8 46 (4)) (by decide +kernel)) dX8_command_115 ?_
          refine rd_S (As := [.long (Int32.toInt64 (nI (f9 % 10))), .long 1, .long 4]) (rest := []) hF (c_X8_in l D cy (Int32.toInt64 (nI (f9 % 10))) 1 4) (va_cwS 3 hts gX8_command_X8_in rfl rfl rfl (by decide +kernel) ⟨Nat.le_of_ble_eq_true rfl, Nat.le_of_ble_eq_true rfl⟩) hK (fun k q h => by simp at h) rfl hl.1 rfl (Nat.le_of_ble_eq_true rfl) dX8_command_118 ⟨Nat.le_of_ble_eq_true rfl, Nat.le_of_ble_eq_true rfl⟩ ?_
          refine lv_if_eq (tgt := 155) hx hb dX8_command_121 (by decide) (fun c_5 => ?_) (fun c_5 => ?_)
          · have c_5 := zb_eq.mp c_5
            refine lv_iconst (v := 0) hx hb dX8_command_155 (by decide) ?_
            exact hret _ _ H locs _ w dX8_command_156 hP hD hS (sc1_no hn hf hh hR c_1 (fun q => c_5 ((inI (x := nI (f9 % 10)) (a := 1) (c := 4)).mpr q.2.2.2.1)))
          · have c_5 := zb_ne.mp c_5
            refine lv_aload_n hx hb dX8_command_124 rfl (lv_at hl 5 rfl) ?_
            refine va_get (ci := 5) (v := .ref (b 3)) (C := RX8) (T := TX8) (N := 12) hx hb hts hin_X8 hown hK hP 0 rfl rfl 4 (by decide) (hts (.fieldLink RX8 16 "ButtonGuestsModel" "trial" "[I") (by decide +kernel)) (fun _ h9 => h9) rfl dX8_command_125 ?_
            refine lv_iconst (v := 0) hx hb dX8_command_128 (by decide) ?_
            refine zz_iald hx hb hK hP 1 0 0 rfl rfl rfl ⟨by decide, Nat.le_of_ble_eq_true rfl⟩ dX8_command_129 ?_
            refine zz_top (y := w.1.1) rfl ?_
            refine zz_top (y := nI n) hR.gy ?_
            refine lv_iconst (v := 4) hx hb dX8_command_130 (by decide) ?_
            refine lv_icmp_ge (tgt := 155) hx hb dX8_command_131 (by decide) (fun c_6 => ?_) (fun c_6 => ?_)
            · have c_6 : 4 ≤ n := (nI_leI (a := 4) (b := n) (by omega) (by omega)).mp c_6
              refine lv_iconst (v := 0) hx hb dX8_command_155 (by decide) ?_
              exact hret _ _ H locs _ w dX8_command_156 hP hD hS (sc1_no hn hf hh hR c_1 (fun q => by have := q.2.2.2.2; omega))
            · have c_6 : ¬ 4 ≤ n := fun q => c_6 ((nI_leI (a := 4) (b := n) (by omega) (by omega)).mpr q)
              refine lv_aload_n hx hb dX8_command_134 rfl (lv_at hl 5 rfl) ?_
              refine va_get (ci := 5) (v := .ref (b 3)) (C := RX8) (T := TX8) (N := 12) hx hb hts hin_X8 hown hK hP 0 rfl rfl 4 (by decide) (hts (.fieldLink RX8 16 "ButtonGuestsModel" "trial" "[I") (by decide +kernel)) (fun _ h9 => h9) rfl dX8_command_135 ?_
              refine lv_iload_n hx hb dX8_command_138 rfl (lv_at hl 4 rfl) ?_
              refine lv_iload hx hb dX8_command_139 (lv_at hl 3 rfl) ?_
              refine lv_iload hx hb dX8_command_141 (lv_at hl 2 rfl) ?_
              refine lv_iload hx hb dX8_command_143 (lv_at hl 1 rfl) ?_
              refine wr_i (fun u => wj [[(b 0, .inr (5, [.int rf, .ref (b 1), .int sn, .ref (b 2), .ref (b 3), .ref (b 4), .ref (b 5), .int ac, .ref (b 6), .ref (b 7), .int sp, .int ou]))], mW cy (b 3) u]) (va_runS (As := [.ref (b 3), .int (nI (f9 / 1000)), .int (nI ((f9 / 100) % 10)), .int (nI ((f9 / 10) % 10)), .int (nI (f9 % 10))]) (rest := []) hF (c_X8_comeOn l D cy (b 3) n hn w (hR.gy) H.size (by omega) (nI (f9 / 1000)) (nI ((f9 / 100) % 10)) (nI ((f9 / 10) % 10)) (nI (f9 % 10))) (va_cwS 5 hts gX8_command_X8_comeOn rfl rfl rfl (by decide +kernel) ⟨Nat.le_of_ble_eq_true rfl, Nat.le_of_ble_eq_true rfl⟩) (wr_preS hK hP hD (zz_pick1 [[(b 0, .inr (5, [.int rf, .ref (b 1), .int sn, .ref (b 2), .ref (b 3), .ref (b 4), .ref (b 5), .int ac, .ref (b 6), .ref (b 7), .int sp, .int ou]))], mW cy (b 3) w] 1 [0] (show List.Perm ([1] ++ [0]) (List.range 2) by decide) rfl rfl)) rfl rfl hl.1 rfl (lv_room (Nat.le_of_ble_eq_true rfl)) dX8_command_145 ⟨Nat.le_of_ble_eq_true rfl, Nat.le_of_ble_eq_true rfl⟩) hP hD hS hA (zz_pick1 [[(b 0, .inr (5, [.int rf, .ref (b 1), .int sn, .ref (b 2), .ref (b 3), .ref (b 4), .ref (b 5), .int ac, .ref (b 6), .ref (b 7), .int sp, .int ou]))], mW cy (b 3) w] 1 [0] (show List.Perm ([1] ++ [0]) (List.range 2) by decide) rfl rfl) (fun u => (zz_pick1 [[(b 0, .inr (5, [.int rf, .ref (b 1), .int sn, .ref (b 2), .ref (b 3), .ref (b 4), .ref (b 5), .int ac, .ref (b 6), .ref (b 7), .int sp, .int ou]))], mW cy (b 3) u] 1 [0] (show List.Perm ([1] ++ [0]) (List.range 2) by decide) rfl rfl)) (fun r_7 u_8 H locs e_9 hP hD hS => ?_)
              obtain ⟨rfl, rfl⟩ := e_9
              have hP : va_P D vwCl (wj [[(b 0, .inr (5, [.int rf, .ref (b 1), .int sn, .ref (b 2), .ref (b 3), .ref (b 4), .ref (b 5), .int ac, .ref (b 6), .ref (b 7), .int sp, .int ou]))], mW cy (b 3) (hCome n (nI (f9 / 1000)) (nI ((f9 / 100) % 10)) (nI ((f9 / 10) % 10)) (nI (f9 % 10)) w)]) H := hP
              have hD : va_D A (wj [[(b 0, .inr (5, [.int rf, .ref (b 1), .int sn, .ref (b 2), .ref (b 3), .ref (b 4), .ref (b 5), .int ac, .ref (b 6), .ref (b 7), .int sp, .int ou]))], mW cy (b 3) (hCome n (nI (f9 / 1000)) (nI ((f9 / 100) % 10)) (nI ((f9 / 10) % 10)) (nI (f9 % 10)) w)]) := hD
              refine lv_if_lt (tgt := 155) hx hb dX8_command_148 (by decide) (fun c_10 => ?_) (fun c_10 => ?_)
              · have c_10 : n < 0 := (nI_ltI (a := n) (b := 0) (by omega) (by omega)).mp c_10
                refine lv_iconst (v := 0) hx hb dX8_command_155 (by decide) ?_
                exact absurd c_10 (Nat.not_lt_zero _)
              · have c_10 : ¬ n < 0 := fun q => c_10 ((nI_ltI (a := n) (b := 0) (by omega) (by omega)).mpr q)
                refine lv_iconst (v := 1) hx hb dX8_command_151 (by decide) ?_
                refine lv_goto (tgt := 156) hx hb dX8_command_152 (by decide) ?_
                exact hret _ _ H locs _ (hCome n (nI (f9 / 1000)) (nI ((f9 / 100) % 10)) (nI ((f9 / 10) % 10)) (nI (f9 % 10)) w) dX8_command_156 hP hD hS (sc1_yes hn hf hh hR c_1 ⟨c_2, c_3, c_4, (inI (x := nI (f9 % 10)) (a := 1) (c := 4)).mp c_5, by omega⟩)
  by_cases c_11 : nI h9 = 2
  · refine lv_tableIn (off := 120) (tgt := 157) hx hb dX8_command_37 (by rw [c_11]; decide) (by rw [c_11]; decide) (by rw [c_11]; rfl) (by decide) ?_
    refine lv_aload_n hx hb dX8_command_157 rfl (lv_at hl 5 rfl) ?_
    refine va_get (ci := 5) (v := .ref (b 3)) (C := RX8) (T := TX8) (N := 12) hx hb hts hin_X8 hown hK hP 0 rfl rfl 4 (by decide) (hts (.fieldLink RX8 16 "ButtonGuestsModel" "trial" "[I") (by decide +kernel)) (fun _ h9 => h9) rfl dX8_command_158 ?_
    refine lv_iload_n hx hb dX8_command_161 rfl (lv_at hl 4 rfl) ?_
    refine rd_S (As := [.ref (b 3), .int (nI (f9 / 1000))]) (rest := []) hF (c_X8_isGuest l D cy (b 3) n hn w (hR.gy) (nI (f9 / 1000))) (va_cwS 2 hts gX8_command_X8_isGuest rfl rfl rfl (by decide +kernel) ⟨Nat.le_of_ble_eq_true rfl, Nat.le_of_ble_eq_true rfl⟩) hK (hP.sub [1] rfl) rfl hl.1 rfl (Nat.le_of_ble_eq_true rfl) dX8_command_162 ⟨Nat.le_of_ble_eq_true rfl, Nat.le_of_ble_eq_true rfl⟩ ?_
    refine zz_top (y := zb (isG (nI n) (nI (f9 / 1000)))) (by rw [hR.gy]) ?_
    refine lv_if_eq (tgt := 188) hx hb dX8_command_165 (by decide) (fun c_12 => ?_) (fun c_12 => ?_)
    · have c_12 := zb_eq.mp c_12
      refine lv_iconst (v := 0) hx hb dX8_command_188 (by decide) ?_
      exact hret _ _ H locs _ w dX8_command_189 hP hD hS (sc_ng hn hf hh hR (Or.inl c_11) c_12)
    · have c_12 := zb_ne.mp c_12
      have hgl := isG_lt hn (by omega) c_12
      refine lv_aload_n hx hb dX8_command_168 rfl (lv_at hl 5 rfl) ?_
      refine lv_iload_n hx hb dX8_command_169 rfl (lv_at hl 6 rfl) ?_
      refine lv_iload_n hx hb dX8_command_170 rfl (lv_at hl 4 rfl) ?_
      refine lv_iload_n hx hb dX8_command_171 rfl (lv_at hl 7 rfl) ?_
      refine lv_sipush (v := 1000) hx hb dX8_command_172 (by decide) ?_
      refine lv_irem hx hb dX8_command_175 (by decide) ?_
      refine zz_top (y := nI (f9 % 1000)) (pk_rem (by omega) (by decide) (by decide)) ?_
      refine lv_iload hx hb dX8_command_176 (lv_at hl 1 rfl) ?_
      refine wr_i (fun u => wj [[(b 0, .inr (5, [.int rf, .ref (b 1), .int sn, .ref (b 2), .ref (b 3), .ref (b 4), .ref (b 5), .int ac, .ref (b 6), .ref (b 7), .int sp, .int ou]))], mW cy (b 3) u]) (va_runV (As := [.int (nI h9), .int (nI (f9 / 1000)), .int (nI (f9 % 1000)), .int (nI (f9 % 10))]) (rest := []) hF (c_X8_commandGuest l D cy b rf sn ac sp ou n h9 f9 hn z w hR hf hh hgl (Or.inl c_11) H.size) (cwV 4 hts gX8_command_X8_commandGuest rfl rfl rfl (by decide +kernel) ⟨Nat.le_of_ble_eq_true rfl, Nat.le_of_ble_eq_true rfl⟩) (wr_preV hK hP hD (zz_all _) 0 5 rfl rfl rfl) rfl rfl hl.1 rfl (lv_room (Nat.le_of_ble_eq_true rfl)) dX8_command_178 ⟨Nat.le_of_ble_eq_true rfl, Nat.le_of_ble_eq_true rfl⟩) hP hD hS hA (zz_all _) (fun _ => zz_all _) (fun r_13 u_14 H locs e_15 hP hD hS => ?_)
      have hP : va_P D vwCl (wj [[(b 0, .inr (5, [.int rf, .ref (b 1), .int sn, .ref (b 2), .ref (b 3), .ref (b 4), .ref (b 5), .int ac, .ref (b 6), .ref (b 7), .int sp, .int ou]))], mW cy (b 3) u_14]) H := hP
      have hD : va_D A (wj [[(b 0, .inr (5, [.int rf, .ref (b 1), .int sn, .ref (b 2), .ref (b 3), .ref (b 4), .ref (b 5), .int ac, .ref (b 6), .ref (b 7), .int sp, .int ou]))], mW cy (b 3) u_14]) := hD
      refine lv_if_eq (tgt := 188) hx hb dX8_command_181 (by decide) (fun c_16 => ?_) (fun c_16 => ?_)
      · have c_16 : r_13 = 0 := c_16
        refine lv_iconst (v := 0) hx hb dX8_command_188 (by decide) ?_
        exact hret _ _ H locs _ u_14 dX8_command_189 hP hD hS (sc_0 e_15 c_16)
      · have c_16 : ¬ r_13 = 0 := c_16
        refine lv_iconst (v := 1) hx hb dX8_command_184 (by decide) ?_
        refine lv_goto (tgt := 189) hx hb dX8_command_185 (by decide) ?_
        exact hret _ _ H locs _ u_14 dX8_command_189 hP hD hS (sc_1 e_15 c_16)
  by_cases c_17 : nI h9 = 3
  · refine lv_tableIn (off := 153) (tgt := 190) hx hb dX8_command_37 (by rw [c_17]; decide) (by rw [c_17]; decide) (by rw [c_17]; rfl) (by decide) ?_
    refine lv_iconst (v := 0) hx hb dX8_command_190 (by decide) ?_
    refine lv_istore (lv' := [(8, .int 0), (7, .int (nI (f9 % 100))), (6, .int (nI (f9 % 10))), (5, .int (nI ((f9 / 10) % 10))), (4, .int (nI ((f9 / 100) % 10))), (3, .int (nI (f9 / 1000))), (0, .ref (b 0)), (1, .int (nI h9)), (2, .int (nI f9))]) hx hb dX8_command_191 hl (by decide) rfl (fun ls hl => ?_)
    have loop : ∀ (k i : Nat) (z1 w1 : HS), i ≤ f9 → f9 + 1 ≤ i + k → RelN n z1 w1 → f9 < 10 ∨ z1 = z → lpN (sRst n) (f9 - i) i z1 = lpN (sRst n) f9 0 z → ∀ (H : Heap) (locs : List Loc) (ls : Array Slot), va_P D vwCl (wj [[(b 0, .inr (5, [.int rf, .ref (b 1), .int sn, .ref (b 2), .ref (b 3), .ref (b 4), .ref (b 5), .int ac, .ref (b 6), .ref (b 7), .int sp, .int ou]))], mW cy (b 3) w1]) H → va_D A (wj [[(b 0, .inr (5, [.int rf, .ref (b 1), .int sn, .ref (b 2), .ref (b 3), .ref (b 4), .ref (b 5), .int ac, .ref (b 6), .ref (b 7), .int sp, .int ou]))], mW cy (b 3) w1]) → va_S A s.heap H locs → lv_has ls 9 [(8, .int (nI i)), (7, .int (nI (f9 % 100))), (6, .int (nI (f9 % 10))), (5, .int (nI ((f9 / 10) % 10))), (4, .int (nI ((f9 / 100) % 10))), (3, .int (nI (f9 / 1000))), (0, .ref (b 0)), (1, .int (nI h9)), (2, .int (nI f9))] → W p l e rm_X8_command s m args below meth c H locs 0 0 Q (F0 m 193 ls []) := by
      intro k
      induction k with
      | zero =>
        intro i z1 w1 hi hk hR1 h0 hv
        exact absurd hk (by omega)
      | succ k ih =>
        intro i z1 w1 hi hk hR1 h0 hv H locs ls hP hD hS hl
        refine lv_iload hx hb dX8_command_193 (lv_at hl 0 rfl) ?_
        refine lv_iload_n hx hb dX8_command_195 rfl (lv_at hl 8 rfl) ?_
        refine lv_icmp_ge (tgt := 219) hx hb dX8_command_196 (by decide) (fun c_18 => ?_) (fun c_18 => ?_)
        · have c_18 : f9 ≤ i := (nI_leI (a := f9) (b := i) (by omega) (by omega)).mp c_18
          refine lv_iload_n hx hb dX8_command_219 rfl (lv_at hl 8 rfl) ?_
          refine lv_bipush (v := 10) hx hb dX8_command_220 (by decide) ?_
          refine lv_icmp_ge (tgt := 229) hx hb dX8_command_222 (by decide) (fun c_19 => ?_) (fun c_19 => ?_)
          · have c_19 : 10 ≤ f9 := (nI_leI (a := 10) (b := f9) (by omega) (by omega)).mp c_19
            refine lv_iconst (v := 0) hx hb dX8_command_229 (by decide) ?_
            exact hret _ _ H locs _ w1 dX8_command_230 hP hD hS (sc3_a hn hf hh hR1 c_17 h0 c_19)
          · have c_19 : ¬ 10 ≤ f9 := fun q => c_19 ((nI_leI (a := 10) (b := f9) (by omega) (by omega)).mpr q)
            refine lv_iconst (v := 1) hx hb dX8_command_225 (by decide) ?_
            refine lv_goto (tgt := 230) hx hb dX8_command_226 (by decide) ?_
            exact hret _ _ H locs _ w1 dX8_command_230 hP hD hS (sc3_c hn hf hh hR1 c_17 (by omega) hv c_19)
        · have c_18 : ¬ f9 ≤ i := fun q => c_18 ((nI_leI (a := f9) (b := i) (by omega) (by omega)).mpr q)
          refine lv_iload_n hx hb dX8_command_199 rfl (lv_at hl 8 rfl) ?_
          refine lv_bipush (v := 10) hx hb dX8_command_200 (by decide) ?_
          refine lv_icmp_ge (tgt := 219) hx hb dX8_command_202 (by decide) (fun c_20 => ?_) (fun c_20 => ?_)
          · have c_20 : 10 ≤ f9 := (nI_leI (a := 10) (b := f9) (by omega) (by omega)).mp c_20
            refine lv_iload_n hx hb dX8_command_219 rfl (lv_at hl 8 rfl) ?_
            refine lv_bipush (v := 10) hx hb dX8_command_220 (by decide) ?_
            refine lv_icmp_ge (tgt := 229) hx hb dX8_command_222 (by decide) (fun c_21 => ?_) (fun c_21 => ?_)
            · have c_21 : 10 ≤ f9 := (nI_leI (a := 10) (b := f9) (by omega) (by omega)).mp c_21
              refine lv_iconst (v := 0) hx hb dX8_command_229 (by decide) ?_
              exact hret _ _ H locs _ w1 dX8_command_230 hP hD hS (sc3_a hn hf hh hR1 c_17 h0 c_21)
            · have c_21 : ¬ 10 ≤ f9 := fun q => c_21 ((nI_leI (a := 10) (b := f9) (by omega) (by omega)).mpr q)
              refine lv_iconst (v := 1) hx hb dX8_command_225 (by decide) ?_
              refine lv_goto (tgt := 230) hx hb dX8_command_226 (by decide) ?_
              exact hret _ _ H locs _ w1 dX8_command_230 hP hD hS (sc3_c hn hf hh hR1 c_17 (by omega) hv c_21)
          · have c_20 : ¬ 10 ≤ f9 := fun q => c_20 ((nI_leI (a := 10) (b := f9) (by omega) (by omega)).mpr q)
            refine lv_aload_n hx hb dX8_command_205 rfl (lv_at hl 6 rfl) ?_
            refine va_get (ci := 5) (v := .ref (b 3)) (C := RX8) (T := TX8) (N := 12) hx hb hts hin_X8 hown hK hP 0 rfl rfl 4 (by decide) (hts (.fieldLink RX8 16 "ButtonGuestsModel" "trial" "[I") (by decide +kernel)) (fun _ h9 => h9) rfl dX8_command_206 ?_
            refine wr_i (fun u => wj [[(b 0, .inr (5, [.int rf, .ref (b 1), .int sn, .ref (b 2), .ref (b 3), .ref (b 4), .ref (b 5), .int ac, .ref (b 6), .ref (b 7), .int sp, .int ou]))], mW cy (b 3) u]) (va_runS (As := [.ref (b 3)]) (rest := []) hF (c_X8_restOn l D cy (b 3) n hn w1 (hR1.gy) H.size) (va_cwS 1 hts gX8_command_X8_restOn rfl rfl rfl (by decide +kernel) ⟨Nat.le_of_ble_eq_true rfl, Nat.le_of_ble_eq_true rfl⟩) (wr_preS hK hP hD (zz_pick1 [[(b 0, .inr (5, [.int rf, .ref (b 1), .int sn, .ref (b 2), .ref (b 3), .ref (b 4), .ref (b 5), .int ac, .ref (b 6), .ref (b 7), .int sp, .int ou]))], mW cy (b 3) w1] 1 [0] (show List.Perm ([1] ++ [0]) (List.range 2) by decide) rfl rfl)) rfl rfl hl.1 rfl (lv_room (Nat.le_of_ble_eq_true rfl)) dX8_command_209 ⟨Nat.le_of_ble_eq_true rfl, Nat.le_of_ble_eq_true rfl⟩) hP hD hS hA (zz_pick1 [[(b 0, .inr (5, [.int rf, .ref (b 1), .int sn, .ref (b 2), .ref (b 3), .ref (b 4), .ref (b 5), .int ac, .ref (b 6), .ref (b 7), .int sp, .int ou]))], mW cy (b 3) w1] 1 [0] (show List.Perm ([1] ++ [0]) (List.range 2) by decide) rfl rfl) (fun u => (zz_pick1 [[(b 0, .inr (5, [.int rf, .ref (b 1), .int sn, .ref (b 2), .ref (b 3), .ref (b 4), .ref (b 5), .int ac, .ref (b 6), .ref (b 7), .int sp, .int ou]))], mW cy (b 3) u] 1 [0] (show List.Perm ([1] ++ [0]) (List.range 2) by decide) rfl rfl)) (fun r_22 u_23 H locs e_24 hP hD hS => ?_)
            obtain ⟨rfl, rfl⟩ := e_24
            have hP : va_P D vwCl (wj [[(b 0, .inr (5, [.int rf, .ref (b 1), .int sn, .ref (b 2), .ref (b 3), .ref (b 4), .ref (b 5), .int ac, .ref (b 6), .ref (b 7), .int sp, .int ou]))], mW cy (b 3) (mRest n w1)]) H := hP
            have hD : va_D A (wj [[(b 0, .inr (5, [.int rf, .ref (b 1), .int sn, .ref (b 2), .ref (b 3), .ref (b 4), .ref (b 5), .int ac, .ref (b 6), .ref (b 7), .int sp, .int ou]))], mW cy (b 3) (mRest n w1)]) := hD
            refine lv_pop hx hb dX8_command_212 rfl ?_
            refine lv_iinc (v := nI (i + 1)) (lv' := [(8, .int (nI (i + 1))), (7, .int (nI (f9 % 100))), (6, .int (nI (f9 % 10))), (5, .int (nI ((f9 / 10) % 10))), (4, .int (nI ((f9 / 100) % 10))), (3, .int (nI (f9 / 1000))), (0, .ref (b 0)), (1, .int (nI h9)), (2, .int (nI f9))]) hx hb dX8_command_213 hl (k := 0) rfl (nI_add (i) 1) (by decide) rfl (fun ls hl => ?_)
            refine lv_goto (tgt := 193) hx hb dX8_command_216 (by decide) ?_
            exact ih (i + 1) (hRest n z1) (mRest n w1) (by omega) (by omega) (relN_rest hR1) (Or.inl (by omega)) (lpN_next (by omega) hv rfl) _ _ _ hP hD hS (lv_sub hl [0, 1, 2, 3, 4, 5, 6, 7, 8] rfl)
    exact loop (f9 + 1) 0 z w (Nat.zero_le _) (by omega) hR (Or.inr rfl) rfl _ _ _ hP hD hS (lv_sub hl [0, 1, 2, 3, 4, 5, 6, 7, 8] rfl)
  by_cases c_25 : nI h9 = 4
  · refine lv_tableIn (off := 120) (tgt := 157) hx hb dX8_command_37 (by rw [c_25]; decide) (by rw [c_25]; decide) (by rw [c_25]; rfl) (by decide) ?_
    refine lv_aload_n hx hb dX8_command_157 rfl (lv_at hl 5 rfl) ?_
    refine va_get (ci := 5) (v := .ref (b 3)) (C := RX8) (T := TX8) (N := 12) hx hb hts hin_X8 hown hK hP 0 rfl rfl 4 (by decide) (hts (.fieldLink RX8 16 "ButtonGuestsModel" "trial" "[I") (by decide +kernel)) (fun _ h9 => h9) rfl dX8_command_158 ?_
    refine lv_iload_n hx hb dX8_command_161 rfl (lv_at hl 4 rfl) ?_
    refine rd_S (As := [.ref (b 3), .int (nI (f9 / 1000))]) (rest := []) hF (c_X8_isGuest l D cy (b 3) n hn w (hR.gy) (nI (f9 / 1000))) (va_cwS 2 hts gX8_command_X8_isGuest rfl rfl rfl (by decide +kernel) ⟨Nat.le_of_ble_eq_true rfl, Nat.le_of_ble_eq_true rfl⟩) hK (hP.sub [1] rfl) rfl hl.1 rfl (Nat.le_of_ble_eq_true rfl) dX8_command_162 ⟨Nat.le_of_ble_eq_true rfl, Nat.le_of_ble_eq_true rfl⟩ ?_
    refine zz_top (y := zb (isG (nI n) (nI (f9 / 1000)))) (by rw [hR.gy]) ?_
    refine lv_if_eq (tgt := 188) hx hb dX8_command_165 (by decide) (fun c_26 => ?_) (fun c_26 => ?_)
    · have c_26 := zb_eq.mp c_26
      refine lv_iconst (v := 0) hx hb dX8_command_188 (by decide) ?_
      exact hret _ _ H locs _ w dX8_command_189 hP hD hS (sc_ng hn hf hh hR (Or.inr (Or.inl c_25)) c_26)
    · have c_26 := zb_ne.mp c_26
      have hgl := isG_lt hn (by omega) c_26
      refine lv_aload_n hx hb dX8_command_168 rfl (lv_at hl 5 rfl) ?_
      refine lv_iload_n hx hb dX8_command_169 rfl (lv_at hl 6 rfl) ?_
      refine lv_iload_n hx hb dX8_command_170 rfl (lv_at hl 4 rfl) ?_
      refine lv_iload_n hx hb dX8_command_171 rfl (lv_at hl 7 rfl) ?_
      refine lv_sipush (v := 1000) hx hb dX8_command_172 (by decide) ?_
      refine lv_irem hx hb dX8_command_175 (by decide) ?_
      refine zz_top (y := nI (f9 % 1000)) (pk_rem (by omega) (by decide) (by decide)) ?_
      refine lv_iload hx hb dX8_command_176 (lv_at hl 1 rfl) ?_
      refine wr_i (fun u => wj [[(b 0, .inr (5, [.int rf, .ref (b 1), .int sn, .ref (b 2), .ref (b 3), .ref (b 4), .ref (b 5), .int ac, .ref (b 6), .ref (b 7), .int sp, .int ou]))], mW cy (b 3) u]) (va_runV (As := [.int (nI h9), .int (nI (f9 / 1000)), .int (nI (f9 % 1000)), .int (nI (f9 % 10))]) (rest := []) hF (c_X8_commandGuest l D cy b rf sn ac sp ou n h9 f9 hn z w hR hf hh hgl (Or.inr (Or.inl c_25)) H.size) (cwV 4 hts gX8_command_X8_commandGuest rfl rfl rfl (by decide +kernel) ⟨Nat.le_of_ble_eq_true rfl, Nat.le_of_ble_eq_true rfl⟩) (wr_preV hK hP hD (zz_all _) 0 5 rfl rfl rfl) rfl rfl hl.1 rfl (lv_room (Nat.le_of_ble_eq_true rfl)) dX8_command_178 ⟨Nat.le_of_ble_eq_true rfl, Nat.le_of_ble_eq_true rfl⟩) hP hD hS hA (zz_all _) (fun _ => zz_all _) (fun r_27 u_28 H locs e_29 hP hD hS => ?_)
      have hP : va_P D vwCl (wj [[(b 0, .inr (5, [.int rf, .ref (b 1), .int sn, .ref (b 2), .ref (b 3), .ref (b 4), .ref (b 5), .int ac, .ref (b 6), .ref (b 7), .int sp, .int ou]))], mW cy (b 3) u_28]) H := hP
      have hD : va_D A (wj [[(b 0, .inr (5, [.int rf, .ref (b 1), .int sn, .ref (b 2), .ref (b 3), .ref (b 4), .ref (b 5), .int ac, .ref (b 6), .ref (b 7), .int sp, .int ou]))], mW cy (b 3) u_28]) := hD
      refine lv_if_eq (tgt := 188) hx hb dX8_command_181 (by decide) (fun c_30 => ?_) (fun c_30 => ?_)
      · have c_30 : r_27 = 0 := c_30
        refine lv_iconst (v := 0) hx hb dX8_command_188 (by decide) ?_
        exact hret _ _ H locs _ u_28 dX8_command_189 hP hD hS (sc_0 e_29 c_30)
      · have c_30 : ¬ r_27 = 0 := c_30
        refine lv_iconst (v := 1) hx hb dX8_command_184 (by decide) ?_
        refine lv_goto (tgt := 189) hx hb dX8_command_185 (by decide) ?_
        exact hret _ _ H locs _ u_28 dX8_command_189 hP hD hS (sc_1 e_29 c_30)
  by_cases c_31 : nI h9 = 5
  · refine lv_tableIn (off := 194) (tgt := 231) hx hb dX8_command_37 (by rw [c_31]; decide) (by rw [c_31]; decide) (by rw [c_31]; rfl) (by decide) ?_
    refine lv_iload hx hb dX8_command_231 (lv_at hl 3 rfl) ?_
    refine lv_if_ne (tgt := 262) hx hb dX8_command_233 (by decide) (fun c_32 => ?_) (fun c_32 => ?_)
    · have c_32 : ¬ (f9 / 100) % 10 = 0 := fun q => c_32 ((nI_eq (a := (f9 / 100) % 10) (b := 0) (by omega) (by omega)).mpr q)
      refine lv_iconst (v := 0) hx hb dX8_command_262 (by decide) ?_
      exact hret _ _ H locs _ w dX8_command_263 hP hD hS (sc5_a hn hf hh hR c_31 c_32)
    · have c_32 : (f9 / 100) % 10 = 0 := (nI_eq (a := (f9 / 100) % 10) (b := 0) (by omega) (by omega)).mp c_32
      refine lv_iload_n hx hb dX8_command_236 rfl (lv_at hl 4 rfl) ?_
      refine lv_iload hx hb dX8_command_237 (lv_at hl 0 rfl) ?_
      refine rd_S (As := [.int (nI (f9 / 1000)), .int (nI (f9 % 100))]) (rest := []) hF (c_X8_isSetting l D cy (nI (f9 / 1000)) (nI (f9 % 100))) (va_cwS 2 hts gX8_command_X8_isSetting rfl rfl rfl (by decide +kernel) ⟨Nat.le_of_ble_eq_true rfl, Nat.le_of_ble_eq_true rfl⟩) hK (fun k q h => by simp at h) rfl hl.1 rfl (Nat.le_of_ble_eq_true rfl) dX8_command_239 ⟨Nat.le_of_ble_eq_true rfl, Nat.le_of_ble_eq_true rfl⟩ ?_
      refine lv_if_eq (tgt := 262) hx hb dX8_command_242 (by decide) (fun c_33 => ?_) (fun c_33 => ?_)
      · have c_33 := zb_eq.mp c_33
        refine lv_iconst (v := 0) hx hb dX8_command_262 (by decide) ?_
        exact hret _ _ H locs _ w dX8_command_263 hP hD hS (sc5_b hn hf hh hR c_31 c_32 c_33)
      · have c_33 := zb_ne.mp c_33
        have hw3 := isG_lt (n := 3) (by decide) (by omega) c_33.1
        refine lv_aload_n hx hb dX8_command_245 rfl (lv_at hl 5 rfl) ?_
        refine va_get (ci := 5) (v := .ref (b 3)) (C := RX8) (T := TX8) (N := 12) hx hb hts hin_X8 hown hK hP 0 rfl rfl 4 (by decide) (hts (.fieldLink RX8 16 "ButtonGuestsModel" "trial" "[I") (by decide +kernel)) (fun _ h9 => h9) rfl dX8_command_246 ?_
        refine lv_iload_n hx hb dX8_command_249 rfl (lv_at hl 4 rfl) ?_
        refine lv_iload hx hb dX8_command_250 (lv_at hl 0 rfl) ?_
        refine wr_i (fun u => wj [[(b 0, .inr (5, [.int rf, .ref (b 1), .int sn, .ref (b 2), .ref (b 3), .ref (b 4), .ref (b 5), .int ac, .ref (b 6), .ref (b 7), .int sp, .int ou]))], mW cy (b 3) u]) (va_runS (As := [.ref (b 3), .int (nI (f9 / 1000)), .int (nI (f9 % 100))]) (rest := []) hF (c_X8_change l D cy (b 3) n hn w (hR.gy) H.size (f9 / 1000) (by omega) (nI (f9 % 100))) (va_cwS 3 hts gX8_command_X8_change rfl rfl rfl (by decide +kernel) ⟨Nat.le_of_ble_eq_true rfl, Nat.le_of_ble_eq_true rfl⟩) (wr_preS hK hP hD (zz_pick1 [[(b 0, .inr (5, [.int rf, .ref (b 1), .int sn, .ref (b 2), .ref (b 3), .ref (b 4), .ref (b 5), .int ac, .ref (b 6), .ref (b 7), .int sp, .int ou]))], mW cy (b 3) w] 1 [0] (show List.Perm ([1] ++ [0]) (List.range 2) by decide) rfl rfl)) rfl rfl hl.1 rfl (lv_room (Nat.le_of_ble_eq_true rfl)) dX8_command_252 ⟨Nat.le_of_ble_eq_true rfl, Nat.le_of_ble_eq_true rfl⟩) hP hD hS hA (zz_pick1 [[(b 0, .inr (5, [.int rf, .ref (b 1), .int sn, .ref (b 2), .ref (b 3), .ref (b 4), .ref (b 5), .int ac, .ref (b 6), .ref (b 7), .int sp, .int ou]))], mW cy (b 3) w] 1 [0] (show List.Perm ([1] ++ [0]) (List.range 2) by decide) rfl rfl) (fun u => (zz_pick1 [[(b 0, .inr (5, [.int rf, .ref (b 1), .int sn, .ref (b 2), .ref (b 3), .ref (b 4), .ref (b 5), .int ac, .ref (b 6), .ref (b 7), .int sp, .int ou]))], mW cy (b 3) u] 1 [0] (show List.Perm ([1] ++ [0]) (List.range 2) by decide) rfl rfl)) (fun r_34 u_35 H locs e_36 hP hD hS => ?_)
        obtain ⟨rfl, rfl⟩ := e_36
        have hP : va_P D vwCl (wj [[(b 0, .inr (5, [.int rf, .ref (b 1), .int sn, .ref (b 2), .ref (b 3), .ref (b 4), .ref (b 5), .int ac, .ref (b 6), .ref (b 7), .int sp, .int ou]))], mW cy (b 3) (mSetS ((f9 / 1000)) (nI (f9 % 100)) w)]) H := hP
        have hD : va_D A (wj [[(b 0, .inr (5, [.int rf, .ref (b 1), .int sn, .ref (b 2), .ref (b 3), .ref (b 4), .ref (b 5), .int ac, .ref (b 6), .ref (b 7), .int sp, .int ou]))], mW cy (b 3) (mSetS ((f9 / 1000)) (nI (f9 % 100)) w)]) := hD
        refine lv_if_lt (tgt := 262) hx hb dX8_command_255 (by decide) (fun c_37 => ?_) (fun c_37 => ?_)
        · have c_37 : (w.2.1 ((f9 / 1000))) < 0 := c_37
          refine lv_iconst (v := 0) hx hb dX8_command_262 (by decide) ?_
          exact absurd c_37 (sg_nn hR hw3)
        · have c_37 : ¬ (w.2.1 ((f9 / 1000))) < 0 := c_37
          refine lv_iconst (v := 1) hx hb dX8_command_258 (by decide) ?_
          refine lv_goto (tgt := 263) hx hb dX8_command_259 (by decide) ?_
          exact hret _ _ H locs _ (mSetS ((f9 / 1000)) (nI (f9 % 100)) w) dX8_command_263 hP hD hS (sc5_c hn hf hh hR c_31 c_32 c_33 hw3)
  by_cases c_38 : nI h9 = 6
  · refine lv_tableIn (off := 120) (tgt := 157) hx hb dX8_command_37 (by rw [c_38]; decide) (by rw [c_38]; decide) (by rw [c_38]; rfl) (by decide) ?_
    refine lv_aload_n hx hb dX8_command_157 rfl (lv_at hl 5 rfl) ?_
    refine va_get (ci := 5) (v := .ref (b 3)) (C := RX8) (T := TX8) (N := 12) hx hb hts hin_X8 hown hK hP 0 rfl rfl 4 (by decide) (hts (.fieldLink RX8 16 "ButtonGuestsModel" "trial" "[I") (by decide +kernel)) (fun _ h9 => h9) rfl dX8_command_158 ?_
    refine lv_iload_n hx hb dX8_command_161 rfl (lv_at hl 4 rfl) ?_
    refine rd_S (As := [.ref (b 3), .int (nI (f9 / 1000))]) (rest := []) hF (c_X8_isGuest l D cy (b 3) n hn w (hR.gy) (nI (f9 / 1000))) (va_cwS 2 hts gX8_command_X8_isGuest rfl rfl rfl (by decide +kernel) ⟨Nat.le_of_ble_eq_true rfl, Nat.le_of_ble_eq_true rfl⟩) hK (hP.sub [1] rfl) rfl hl.1 rfl (Nat.le_of_ble_eq_true rfl) dX8_command_162 ⟨Nat.le_of_ble_eq_true rfl, Nat.le_of_ble_eq_true rfl⟩ ?_
    refine zz_top (y := zb (isG (nI n) (nI (f9 / 1000)))) (by rw [hR.gy]) ?_
    refine lv_if_eq (tgt := 188) hx hb dX8_command_165 (by decide) (fun c_39 => ?_) (fun c_39 => ?_)
    · have c_39 := zb_eq.mp c_39
      refine lv_iconst (v := 0) hx hb dX8_command_188 (by decide) ?_
      exact hret _ _ H locs _ w dX8_command_189 hP hD hS (sc_ng hn hf hh hR (Or.inr (Or.inr (Or.inl c_38))) c_39)
    · have c_39 := zb_ne.mp c_39
      have hgl := isG_lt hn (by omega) c_39
      refine lv_aload_n hx hb dX8_command_168 rfl (lv_at hl 5 rfl) ?_
      refine lv_iload_n hx hb dX8_command_169 rfl (lv_at hl 6 rfl) ?_
      refine lv_iload_n hx hb dX8_command_170 rfl (lv_at hl 4 rfl) ?_
      refine lv_iload_n hx hb dX8_command_171 rfl (lv_at hl 7 rfl) ?_
      refine lv_sipush (v := 1000) hx hb dX8_command_172 (by decide) ?_
      refine lv_irem hx hb dX8_command_175 (by decide) ?_
      refine zz_top (y := nI (f9 % 1000)) (pk_rem (by omega) (by decide) (by decide)) ?_
      refine lv_iload hx hb dX8_command_176 (lv_at hl 1 rfl) ?_
      refine wr_i (fun u => wj [[(b 0, .inr (5, [.int rf, .ref (b 1), .int sn, .ref (b 2), .ref (b 3), .ref (b 4), .ref (b 5), .int ac, .ref (b 6), .ref (b 7), .int sp, .int ou]))], mW cy (b 3) u]) (va_runV (As := [.int (nI h9), .int (nI (f9 / 1000)), .int (nI (f9 % 1000)), .int (nI (f9 % 10))]) (rest := []) hF (c_X8_commandGuest l D cy b rf sn ac sp ou n h9 f9 hn z w hR hf hh hgl (Or.inr (Or.inr (Or.inl c_38))) H.size) (cwV 4 hts gX8_command_X8_commandGuest rfl rfl rfl (by decide +kernel) ⟨Nat.le_of_ble_eq_true rfl, Nat.le_of_ble_eq_true rfl⟩) (wr_preV hK hP hD (zz_all _) 0 5 rfl rfl rfl) rfl rfl hl.1 rfl (lv_room (Nat.le_of_ble_eq_true rfl)) dX8_command_178 ⟨Nat.le_of_ble_eq_true rfl, Nat.le_of_ble_eq_true rfl⟩) hP hD hS hA (zz_all _) (fun _ => zz_all _) (fun r_40 u_41 H locs e_42 hP hD hS => ?_)
      have hP : va_P D vwCl (wj [[(b 0, .inr (5, [.int rf, .ref (b 1), .int sn, .ref (b 2), .ref (b 3), .ref (b 4), .ref (b 5), .int ac, .ref (b 6), .ref (b 7), .int sp, .int ou]))], mW cy (b 3) u_41]) H := hP
      have hD : va_D A (wj [[(b 0, .inr (5, [.int rf, .ref (b 1), .int sn, .ref (b 2), .ref (b 3), .ref (b 4), .ref (b 5), .int ac, .ref (b 6), .ref (b 7), .int sp, .int ou]))], mW cy (b 3) u_41]) := hD
      refine lv_if_eq (tgt := 188) hx hb dX8_command_181 (by decide) (fun c_43 => ?_) (fun c_43 => ?_)
      · have c_43 : r_40 = 0 := c_43
        refine lv_iconst (v := 0) hx hb dX8_command_188 (by decide) ?_
        exact hret _ _ H locs _ u_41 dX8_command_189 hP hD hS (sc_0 e_42 c_43)
      · have c_43 : ¬ r_40 = 0 := c_43
        refine lv_iconst (v := 1) hx hb dX8_command_184 (by decide) ?_
        refine lv_goto (tgt := 189) hx hb dX8_command_185 (by decide) ?_
        exact hret _ _ H locs _ u_41 dX8_command_189 hP hD hS (sc_1 e_42 c_43)
  by_cases c_44 : nI h9 = 7
  · refine lv_tableIn (off := 120) (tgt := 157) hx hb dX8_command_37 (by rw [c_44]; decide) (by rw [c_44]; decide) (by rw [c_44]; rfl) (by decide) ?_
    refine lv_aload_n hx hb dX8_command_157 rfl (lv_at hl 5 rfl) ?_
    refine va_get (ci := 5) (v := .ref (b 3)) (C := RX8) (T := TX8) (N := 12) hx hb hts hin_X8 hown hK hP 0 rfl rfl 4 (by decide) (hts (.fieldLink RX8 16 "ButtonGuestsModel" "trial" "[I") (by decide +kernel)) (fun _ h9 => h9) rfl dX8_command_158 ?_
    refine lv_iload_n hx hb dX8_command_161 rfl (lv_at hl 4 rfl) ?_
    refine rd_S (As := [.ref (b 3), .int (nI (f9 / 1000))]) (rest := []) hF (c_X8_isGuest l D cy (b 3) n hn w (hR.gy) (nI (f9 / 1000))) (va_cwS 2 hts gX8_command_X8_isGuest rfl rfl rfl (by decide +kernel) ⟨Nat.le_of_ble_eq_true rfl, Nat.le_of_ble_eq_true rfl⟩) hK (hP.sub [1] rfl) rfl hl.1 rfl (Nat.le_of_ble_eq_true rfl) dX8_command_162 ⟨Nat.le_of_ble_eq_true rfl, Nat.le_of_ble_eq_true rfl⟩ ?_
    refine zz_top (y := zb (isG (nI n) (nI (f9 / 1000)))) (by rw [hR.gy]) ?_
    refine lv_if_eq (tgt := 188) hx hb dX8_command_165 (by decide) (fun c_45 => ?_) (fun c_45 => ?_)
    · have c_45 := zb_eq.mp c_45
      refine lv_iconst (v := 0) hx hb dX8_command_188 (by decide) ?_
      exact hret _ _ H locs _ w dX8_command_189 hP hD hS (sc_ng hn hf hh hR (Or.inr (Or.inr (Or.inr c_44))) c_45)
    · have c_45 := zb_ne.mp c_45
      have hgl := isG_lt hn (by omega) c_45
      refine lv_aload_n hx hb dX8_command_168 rfl (lv_at hl 5 rfl) ?_
      refine lv_iload_n hx hb dX8_command_169 rfl (lv_at hl 6 rfl) ?_
      refine lv_iload_n hx hb dX8_command_170 rfl (lv_at hl 4 rfl) ?_
      refine lv_iload_n hx hb dX8_command_171 rfl (lv_at hl 7 rfl) ?_
      refine lv_sipush (v := 1000) hx hb dX8_command_172 (by decide) ?_
      refine lv_irem hx hb dX8_command_175 (by decide) ?_
      refine zz_top (y := nI (f9 % 1000)) (pk_rem (by omega) (by decide) (by decide)) ?_
      refine lv_iload hx hb dX8_command_176 (lv_at hl 1 rfl) ?_
      refine wr_i (fun u => wj [[(b 0, .inr (5, [.int rf, .ref (b 1), .int sn, .ref (b 2), .ref (b 3), .ref (b 4), .ref (b 5), .int ac, .ref (b 6), .ref (b 7), .int sp, .int ou]))], mW cy (b 3) u]) (va_runV (As := [.int (nI h9), .int (nI (f9 / 1000)), .int (nI (f9 % 1000)), .int (nI (f9 % 10))]) (rest := []) hF (c_X8_commandGuest l D cy b rf sn ac sp ou n h9 f9 hn z w hR hf hh hgl (Or.inr (Or.inr (Or.inr c_44))) H.size) (cwV 4 hts gX8_command_X8_commandGuest rfl rfl rfl (by decide +kernel) ⟨Nat.le_of_ble_eq_true rfl, Nat.le_of_ble_eq_true rfl⟩) (wr_preV hK hP hD (zz_all _) 0 5 rfl rfl rfl) rfl rfl hl.1 rfl (lv_room (Nat.le_of_ble_eq_true rfl)) dX8_command_178 ⟨Nat.le_of_ble_eq_true rfl, Nat.le_of_ble_eq_true rfl⟩) hP hD hS hA (zz_all _) (fun _ => zz_all _) (fun r_46 u_47 H locs e_48 hP hD hS => ?_)
      have hP : va_P D vwCl (wj [[(b 0, .inr (5, [.int rf, .ref (b 1), .int sn, .ref (b 2), .ref (b 3), .ref (b 4), .ref (b 5), .int ac, .ref (b 6), .ref (b 7), .int sp, .int ou]))], mW cy (b 3) u_47]) H := hP
      have hD : va_D A (wj [[(b 0, .inr (5, [.int rf, .ref (b 1), .int sn, .ref (b 2), .ref (b 3), .ref (b 4), .ref (b 5), .int ac, .ref (b 6), .ref (b 7), .int sp, .int ou]))], mW cy (b 3) u_47]) := hD
      refine lv_if_eq (tgt := 188) hx hb dX8_command_181 (by decide) (fun c_49 => ?_) (fun c_49 => ?_)
      · have c_49 : r_46 = 0 := c_49
        refine lv_iconst (v := 0) hx hb dX8_command_188 (by decide) ?_
        exact hret _ _ H locs _ u_47 dX8_command_189 hP hD hS (sc_0 e_48 c_49)
      · have c_49 : ¬ r_46 = 0 := c_49
        refine lv_iconst (v := 1) hx hb dX8_command_184 (by decide) ?_
        refine lv_goto (tgt := 189) hx hb dX8_command_185 (by decide) ?_
        exact hret _ _ H locs _ u_47 dX8_command_189 hP hD hS (sc_1 e_48 c_49)
  by_cases c_50 : nI h9 = 8
  · refine lv_tableIn (off := 227) (tgt := 264) hx hb dX8_command_37 (by rw [c_50]; decide) (by rw [c_50]; decide) (by rw [c_50]; rfl) (by decide) ?_
    refine lv_iload_n hx hb dX8_command_264 rfl (lv_at hl 7 rfl) ?_
    refine lv_bipush (v := 10) hx hb dX8_command_265 (by decide) ?_
    refine lv_icmp_ge (tgt := 286) hx hb dX8_command_267 (by decide) (fun c_51 => ?_) (fun c_51 => ?_)
    · have c_51 : 10 ≤ f9 := (nI_leI (a := 10) (b := f9) (by omega) (by omega)).mp c_51
      refine lv_iconst (v := 0) hx hb dX8_command_286 (by decide) ?_
      exact hret _ _ H locs _ w dX8_command_287 hP hD hS (sc8_a hn hf hh hR c_50 c_51)
    · have c_51 : ¬ 10 ≤ f9 := fun q => c_51 ((nI_leI (a := 10) (b := f9) (by omega) (by omega)).mpr q)
      refine lv_aload_n hx hb dX8_command_270 rfl (lv_at hl 5 rfl) ?_
      refine va_get (ci := 5) (v := .ref (b 3)) (C := RX8) (T := TX8) (N := 12) hx hb hts hin_X8 hown hK hP 0 rfl rfl 4 (by decide) (hts (.fieldLink RX8 16 "ButtonGuestsModel" "trial" "[I") (by decide +kernel)) (fun _ h9 => h9) rfl dX8_command_271 ?_
      refine lv_iconst (v := 2) hx hb dX8_command_274 (by decide) ?_
      refine rd_S (As := [.ref (b 3), .int 2]) (rest := []) hF (c_X8_inState l D cy (b 3) n hn w (hR.gy) 2) (va_cwS 2 hts gX8_command_X8_inState rfl rfl rfl (by decide +kernel) ⟨Nat.le_of_ble_eq_true rfl, Nat.le_of_ble_eq_true rfl⟩) hK (hP.sub [1] rfl) rfl hl.1 rfl (Nat.le_of_ble_eq_true rfl) dX8_command_275 ⟨Nat.le_of_ble_eq_true rfl, Nat.le_of_ble_eq_true rfl⟩ ?_
      refine zz_top (y := hGI n z 2) (rel_gi hR.2.1) ?_
      refine lv_iload_n hx hb dX8_command_278 rfl (lv_at hl 7 rfl) ?_
      refine lv_icmp_lt (tgt := 286) hx hb dX8_command_279 (by decide) (fun c_52 => ?_) (fun c_52 => ?_)
      · have c_52 : (hGI n z 2) < (nI f9) := c_52
        refine lv_iconst (v := 0) hx hb dX8_command_286 (by decide) ?_
        exact hret _ _ H locs _ w dX8_command_287 hP hD hS (sc8_b hn hf hh hR c_50 c_51 c_52)
      · have c_52 : ¬ (hGI n z 2) < (nI f9) := c_52
        refine lv_iconst (v := 1) hx hb dX8_command_282 (by decide) ?_
        refine lv_goto (tgt := 287) hx hb dX8_command_283 (by decide) ?_
        exact hret _ _ H locs _ w dX8_command_287 hP hD hS (sc8_c hn hf hh hR c_50 c_51 c_52)
  by_cases c_53 : nI h9 = 9
  · refine lv_tableIn (off := 251) (tgt := 288) hx hb dX8_command_37 (by rw [c_53]; decide) (by rw [c_53]; decide) (by rw [c_53]; rfl) (by decide) ?_
    refine lv_iload_n hx hb dX8_command_288 rfl (lv_at hl 7 rfl) ?_
    refine lv_sipush (v := 1000) hx hb dX8_command_289 (by decide) ?_
    refine lv_icmp_ge (tgt := 309) hx hb dX8_command_292 (by decide) (fun c_54 => ?_) (fun c_54 => ?_)
    · have c_54 : 1000 ≤ f9 := (nI_leI (a := 1000) (b := f9) (by omega) (by omega)).mp c_54
      refine lv_iconst (v := 0) hx hb dX8_command_309 (by decide) ?_
      exact hret _ _ H locs _ w dX8_command_310 hP hD hS (sc9_a hn hf hh hR c_53 c_54)
    · have c_54 : ¬ 1000 ≤ f9 := fun q => c_54 ((nI_leI (a := 1000) (b := f9) (by omega) (by omega)).mpr q)
      refine lv_aload_n hx hb dX8_command_295 rfl (lv_at hl 5 rfl) ?_
      refine va_get (ci := 5) (v := .ref (b 3)) (C := RX8) (T := TX8) (N := 12) hx hb hts hin_X8 hown hK hP 0 rfl rfl 4 (by decide) (hts (.fieldLink RX8 16 "ButtonGuestsModel" "trial" "[I") (by decide +kernel)) (fun _ h9 => h9) rfl dX8_command_296 ?_
      refine lv_iconst (v := 2) hx hb dX8_command_299 (by decide) ?_
      refine zz_iald hx hb hK hP 1 0 2 rfl rfl rfl ⟨by decide, Nat.le_of_ble_eq_true rfl⟩ dX8_command_300 ?_
      refine zz_top (y := w.1.2.2.1) rfl ?_
      refine lv_iload_n hx hb dX8_command_301 rfl (lv_at hl 7 rfl) ?_
      refine lv_icmp_gt (tgt := 309) hx hb dX8_command_302 (by decide) (fun c_55 => ?_) (fun c_55 => ?_)
      · have c_55 : (nI f9) < w.1.2.2.1 := c_55
        refine lv_iconst (v := 0) hx hb dX8_command_309 (by decide) ?_
        exact hret _ _ H locs _ w dX8_command_310 hP hD hS (sc9_b hn hf hh hR c_53 c_54 c_55)
      · have c_55 : ¬ (nI f9) < w.1.2.2.1 := c_55
        refine lv_iconst (v := 1) hx hb dX8_command_305 (by decide) ?_
        refine lv_goto (tgt := 310) hx hb dX8_command_306 (by decide) ?_
        exact hret _ _ H locs _ w dX8_command_310 hP hD hS (sc9_c hn hf hh hR c_53 c_54 c_55)
  have hsw : (nI h9).toInt < 1 ∨ 9 < (nI h9).toInt := by
    have q0 := fun (v9 : Int32) (h : ¬ nI h9 = v9) => fun (q : (nI h9).toInt = v9.toInt) => h (Int32.toInt_inj.mp q)
    have q_c_1 : ¬ (nI h9).toInt = 1 := q0 1 c_1
    have q_c_11 : ¬ (nI h9).toInt = 2 := q0 2 c_11
    have q_c_17 : ¬ (nI h9).toInt = 3 := q0 3 c_17
    have q_c_25 : ¬ (nI h9).toInt = 4 := q0 4 c_25
    have q_c_31 : ¬ (nI h9).toInt = 5 := q0 5 c_31
    have q_c_38 : ¬ (nI h9).toInt = 6 := q0 6 c_38
    have q_c_44 : ¬ (nI h9).toInt = 7 := q0 7 c_44
    have q_c_50 : ¬ (nI h9).toInt = 8 := q0 8 c_50
    have q_c_53 : ¬ (nI h9).toInt = 9 := q0 9 c_53
    omega
  refine lv_tableOut (tgt := 311) hx hb dX8_command_37 hsw (by decide) ?_
  refine lv_iconst (v := 0) hx hb dX8_command_311 (by decide) ?_
  exact hret _ _ H locs _ w dX8_command_312 hP hD hS (sc0 hn hf hR c_1 c_11 c_17 c_25 c_31 c_38 c_44 c_50 c_53)
abbrev rm_X8_runScript : Room := { frames := 7, cells := 0, slots := 0, locals := 166 }
set_option maxHeartbeats 4000000 in
set_option maxRecDepth 100000 in
theorem c_X8_runScript (l : Launch) (D : va_G) (cy : Nat → ClassId) (b : Nat → Nat) (rf sn ac sp ou : Int32) (tx : Nat → Int32) (yn yt y3 : HS) (di ke : Nat → HS) (ik : Nat → Int32) (n : Nat) (hn : n ≤ 4) (xn : HS) (hR : RelN n xn yn) (v : Int32) (s9 : Int64) (sz : Nat) : Met l yX8_runScript wsX8_runScript rm_X8_runScript (wrP D cy [.ref (b 0), .int v, .long s9] (modelW cy b ((rf, sn, ac, sp, ou), tx, (yn, yt, y3), di, ke, ik)) sz) (va_Qi (fun (r : Int32) (u : MS) => mPost (kRun v s9) r (vRun v s9 xn) u (((0, sn, ac, sp, ou), tx, (yn, u.2.2.1.2.1, y3), di, ke, ik)) ((rf, sn, ac, sp, ou), tx, (yn, yt, y3), di, ke, ik)) (wrB D (va_A (modelW cy b ((rf, sn, ac, sp, ou), tx, (yn, yt, y3), di, ke, ik)) sz) (fun u => modelW cy b u)) (va_A (modelW cy b ((rf, sn, ac, sp, ou), tx, (yn, yt, y3), di, ke, ik)) sz)) 0 0 (va_A (modelW cy b ((rf, sn, ac, sp, ou), tx, (yn, yt, y3), di, ke, ik)) sz) := by
  refine Mwi (cc := cX8_runScript) (maxL := 8) (ty := .int) (by decide) rfl (Nat.le_of_ble_eq_true rfl) (fun _ _ _ => rfl) ?_
  intro p e s m args below meth c Q ls A hsz hF hK hP hD hA hl hret
  obtain ⟨hx, hb, hml, hown, hts⟩ := id hF
  have hown : s.vm.findClass RX8 = some m.cls := hown
  have hin_X8 : ∀ w ∈ u_ws RX8 TX8 12, w ∈ wsX8_runScript := by decide +kernel
  have hl : lv_has ls 8 [(0, .ref (b 0)), (1, .int v), (2, .long s9)] := hl
  suffices key : ∀ (H : Heap) (locs : List Loc), va_P D vwCl (modelW cy b ((rf, sn, ac, sp, ou), tx, (yn, yt, y3), di, ke, ik)) H → va_D A (modelW cy b ((rf, sn, ac, sp, ou), tx, (yn, yt, y3), di, ke, ik)) → va_S A s.heap H locs → W p l e rm_X8_runScript s m args below meth c H locs 0 0 Q (F0 m 0 ls []) from key s.heap [] hP hD va_S.rf
  intro H locs hP hD hS
  refine lv_lconst (v := 1) hx hb dX8_runScript_0 (by decide) ?_
  refine lv_lstore (lv' := [(4, .long 1), (0, .ref (b 0)), (1, .int v), (2, .long s9)]) hx hb dX8_runScript_1 hl (by decide) rfl (fun ls hl => ?_)
  refine lv_iconst (v := 0) hx hb dX8_runScript_3 (by decide) ?_
  refine lv_istore (lv' := [(6, .int 0), (4, .long 1), (0, .ref (b 0)), (1, .int v), (2, .long s9)]) hx hb dX8_runScript_4 hl (by decide) rfl (fun ls hl => ?_)
  have join1 : ∀ (m3 : Nat), m3 = min v.toNatClampNeg 3 → ∀ (H : Heap) (locs : List Loc) (ls : Array Slot), va_P D vwCl (modelW cy b ((rf, sn, ac, sp, ou), tx, (yn, yt, y3), di, ke, ik)) H → va_D A (modelW cy b ((rf, sn, ac, sp, ou), tx, (yn, yt, y3), di, ke, ik)) → va_S A s.heap H locs → lv_has ls 8 [(4, .long (lN (100000 ^ m3))), (0, .ref (b 0)), (1, .int v), (2, .long s9)] → W p l e rm_X8_runScript s m args below meth c H locs 0 0 Q (F0 m 32 ls []) := by
    intro m3 hm3 H locs ls hP hD hS hl
    refine lv_aload_n hx hb dX8_runScript_32 rfl (lv_at hl 1 rfl) ?_
    refine lv_iload_n hx hb dX8_runScript_33 rfl (lv_at hl 2 rfl) ?_
    refine lv_i2l (v := Int32.toInt64 v) hx hb dX8_runScript_34 rfl ?_
    refine lv_lconst (v := 1) hx hb dX8_runScript_35 (by decide) ?_
    refine lv_ldc2 (v := 3) hx hb hown (hts (.constantLong RX8 185 (3)) (by decide +kernel)) dX8_runScript_36 ?_
    refine rd_S (As := [.long (Int32.toInt64 v), .long 1, .long 3]) (rest := [.ref (b 0)]) hF (c_X8_in l D cy (Int32.toInt64 v) 1 3) (va_cwS 3 hts gX8_runScript_X8_in rfl rfl rfl (by decide +kernel) ⟨Nat.le_of_ble_eq_true rfl, Nat.le_of_ble_eq_true rfl⟩) hK (fun k q h => by simp at h) rfl hl.1 rfl (Nat.le_of_ble_eq_true rfl) dX8_runScript_39 ⟨Nat.le_of_ble_eq_true rfl, Nat.le_of_ble_eq_true rfl⟩ ?_
    refine lv_if_eq (tgt := 61) hx hb dX8_runScript_42 (by decide) (fun c_1 => ?_) (fun c_1 => ?_)
    · have c_1 := zb_eq.mp c_1
      refine lv_iconst (v := 1) hx hb dX8_runScript_61 (by decide) ?_
      refine wr_i (fun u => wj [[(b 0, .inr (5, [.int 1, .ref (b 1), .int sn, .ref (b 2), .ref (b 3), .ref (b 4), .ref (b 5), .int ac, .ref (b 6), .ref (b 7), .int sp, .int ou]))], [(b 1, .inl (cy 0, 120, .inl tx))], mW cy (b 2) yn, mW cy (b 3) yt, mW cy (b 4) y3, diW cy (b 5) 588 di, diW cy (b 6) 84 ke, [(b 7, .inl (cy 3, 2, .inl ik))]]) (va_runV (As := [.int 1]) (rest := []) hF (c_X8_refused l D cy b rf sn ac sp ou 1 H.size) (cwV 1 hts gX8_runScript_X8_refused rfl rfl rfl (by decide +kernel) ⟨Nat.le_of_ble_eq_true rfl, Nat.le_of_ble_eq_true rfl⟩) (wr_preV hK hP hD (zz_pick1 [[(b 0, .inr (5, [.int rf, .ref (b 1), .int sn, .ref (b 2), .ref (b 3), .ref (b 4), .ref (b 5), .int ac, .ref (b 6), .ref (b 7), .int sp, .int ou]))], [(b 1, .inl (cy 0, 120, .inl tx))], mW cy (b 2) yn, mW cy (b 3) yt, mW cy (b 4) y3, diW cy (b 5) 588 di, diW cy (b 6) 84 ke, [(b 7, .inl (cy 3, 2, .inl ik))]] 0 [1, 2, 3, 4, 5, 6, 7] (show List.Perm ([0] ++ [1, 2, 3, 4, 5, 6, 7]) (List.range 8) by decide) rfl rfl) 0 5 rfl rfl rfl) rfl rfl hl.1 rfl (lv_room (Nat.le_of_ble_eq_true rfl)) dX8_runScript_62 ⟨Nat.le_of_ble_eq_true rfl, Nat.le_of_ble_eq_true rfl⟩) hP hD hS hA (zz_pick1 [[(b 0, .inr (5, [.int rf, .ref (b 1), .int sn, .ref (b 2), .ref (b 3), .ref (b 4), .ref (b 5), .int ac, .ref (b 6), .ref (b 7), .int sp, .int ou]))], [(b 1, .inl (cy 0, 120, .inl tx))], mW cy (b 2) yn, mW cy (b 3) yt, mW cy (b 4) y3, diW cy (b 5) 588 di, diW cy (b 6) 84 ke, [(b 7, .inl (cy 3, 2, .inl ik))]] 0 [1, 2, 3, 4, 5, 6, 7] (show List.Perm ([0] ++ [1, 2, 3, 4, 5, 6, 7]) (List.range 8) by decide) rfl rfl) (fun _ => (zz_pick1 [[(b 0, .inr (5, [.int 1, .ref (b 1), .int sn, .ref (b 2), .ref (b 3), .ref (b 4), .ref (b 5), .int ac, .ref (b 6), .ref (b 7), .int sp, .int ou]))], [(b 1, .inl (cy 0, 120, .inl tx))], mW cy (b 2) yn, mW cy (b 3) yt, mW cy (b 4) y3, diW cy (b 5) 588 di, diW cy (b 6) 84 ke, [(b 7, .inl (cy 3, 2, .inl ik))]] 0 [1, 2, 3, 4, 5, 6, 7] (show List.Perm ([0] ++ [1, 2, 3, 4, 5, 6, 7]) (List.range 8) by decide) rfl rfl)) (fun r_2 u_3 H locs e_4 hP hD hS => ?_)
      obtain rfl := e_4
      have hP : va_P D vwCl (modelW cy b ((1, sn, ac, sp, ou), tx, (yn, yt, y3), di, ke, ik)) H := hP
      have hD : va_D A (modelW cy b ((1, sn, ac, sp, ou), tx, (yn, yt, y3), di, ke, ik)) := hD
      refine lv_if_eq (tgt := 70) hx hb dX8_runScript_65 (by decide) (fun c_5 => ?_) (fun c_5 => ?_)
      · exact absurd c_5 (by decide)
      · refine lv_iconst (v := 0) hx hb dX8_runScript_68 (by decide) ?_
        exact hret _ _ H locs _ ((1, sn, ac, sp, ou), tx, (yn, yt, y3), di, ke, ik) dX8_runScript_69 hP hD hS (mPost_t (K := (kRun v s9)) (k := 1) (U := ((rf, sn, ac, sp, ou), tx, (yn, yt, y3), di, ke, ik)) (by simp only [kRun, ← hm3, if_neg c_1, if_neg c_5]) (by decide))
    · have c_1 := zb_ne.mp c_1
      refine lv_lload_n hx hb dX8_runScript_45 rfl (lv_at hl 3 rfl) ?_
      refine lv_lconst (v := 0) hx hb dX8_runScript_46 (by decide) ?_
      refine lv_lload hx hb dX8_runScript_47 (lv_at hl 0 rfl) ?_
      refine lv_lconst (v := 1) hx hb dX8_runScript_49 (by decide) ?_
      refine lv_lsub hx hb dX8_runScript_50 ?_
      refine rd_S (As := [.long s9, .long 0, .long ((lN (100000 ^ m3)) - 1)]) (rest := [.ref (b 0)]) hF (c_X8_in l D cy s9 0 ((lN (100000 ^ m3)) - 1)) (va_cwS 3 hts gX8_runScript_X8_in rfl rfl rfl (by decide +kernel) ⟨Nat.le_of_ble_eq_true rfl, Nat.le_of_ble_eq_true rfl⟩) hK (fun k q h => by simp at h) rfl hl.1 rfl (Nat.le_of_ble_eq_true rfl) dX8_runScript_51 ⟨Nat.le_of_ble_eq_true rfl, Nat.le_of_ble_eq_true rfl⟩ ?_
      refine lv_if_eq (tgt := 61) hx hb dX8_runScript_54 (by decide) (fun c_6 => ?_) (fun c_6 => ?_)
      · have c_6 := zb_eq.mp c_6
        refine lv_iconst (v := 1) hx hb dX8_runScript_61 (by decide) ?_
        refine wr_i (fun u => wj [[(b 0, .inr (5, [.int 1, .ref (b 1), .int sn, .ref (b 2), .ref (b 3), .ref (b 4), .ref (b 5), .int ac, .ref (b 6), .ref (b 7), .int sp, .int ou]))], [(b 1, .inl (cy 0, 120, .inl tx))], mW cy (b 2) yn, mW cy (b 3) yt, mW cy (b 4) y3, diW cy (b 5) 588 di, diW cy (b 6) 84 ke, [(b 7, .inl (cy 3, 2, .inl ik))]]) (va_runV (As := [.int 1]) (rest := []) hF (c_X8_refused l D cy b rf sn ac sp ou 1 H.size) (cwV 1 hts gX8_runScript_X8_refused rfl rfl rfl (by decide +kernel) ⟨Nat.le_of_ble_eq_true rfl, Nat.le_of_ble_eq_true rfl⟩) (wr_preV hK hP hD (zz_pick1 [[(b 0, .inr (5, [.int rf, .ref (b 1), .int sn, .ref (b 2), .ref (b 3), .ref (b 4), .ref (b 5), .int ac, .ref (b 6), .ref (b 7), .int sp, .int ou]))], [(b 1, .inl (cy 0, 120, .inl tx))], mW cy (b 2) yn, mW cy (b 3) yt, mW cy (b 4) y3, diW cy (b 5) 588 di, diW cy (b 6) 84 ke, [(b 7, .inl (cy 3, 2, .inl ik))]] 0 [1, 2, 3, 4, 5, 6, 7] (show List.Perm ([0] ++ [1, 2, 3, 4, 5, 6, 7]) (List.range 8) by decide) rfl rfl) 0 5 rfl rfl rfl) rfl rfl hl.1 rfl (lv_room (Nat.le_of_ble_eq_true rfl)) dX8_runScript_62 ⟨Nat.le_of_ble_eq_true rfl, Nat.le_of_ble_eq_true rfl⟩) hP hD hS hA (zz_pick1 [[(b 0, .inr (5, [.int rf, .ref (b 1), .int sn, .ref (b 2), .ref (b 3), .ref (b 4), .ref (b 5), .int ac, .ref (b 6), .ref (b 7), .int sp, .int ou]))], [(b 1, .inl (cy 0, 120, .inl tx))], mW cy (b 2) yn, mW cy (b 3) yt, mW cy (b 4) y3, diW cy (b 5) 588 di, diW cy (b 6) 84 ke, [(b 7, .inl (cy 3, 2, .inl ik))]] 0 [1, 2, 3, 4, 5, 6, 7] (show List.Perm ([0] ++ [1, 2, 3, 4, 5, 6, 7]) (List.range 8) by decide) rfl rfl) (fun _ => (zz_pick1 [[(b 0, .inr (5, [.int 1, .ref (b 1), .int sn, .ref (b 2), .ref (b 3), .ref (b 4), .ref (b 5), .int ac, .ref (b 6), .ref (b 7), .int sp, .int ou]))], [(b 1, .inl (cy 0, 120, .inl tx))], mW cy (b 2) yn, mW cy (b 3) yt, mW cy (b 4) y3, diW cy (b 5) 588 di, diW cy (b 6) 84 ke, [(b 7, .inl (cy 3, 2, .inl ik))]] 0 [1, 2, 3, 4, 5, 6, 7] (show List.Perm ([0] ++ [1, 2, 3, 4, 5, 6, 7]) (List.range 8) by decide) rfl rfl)) (fun r_7 u_8 H locs e_9 hP hD hS => ?_)
        obtain rfl := e_9
        have hP : va_P D vwCl (modelW cy b ((1, sn, ac, sp, ou), tx, (yn, yt, y3), di, ke, ik)) H := hP
        have hD : va_D A (modelW cy b ((1, sn, ac, sp, ou), tx, (yn, yt, y3), di, ke, ik)) := hD
        refine lv_if_eq (tgt := 70) hx hb dX8_runScript_65 (by decide) (fun c_10 => ?_) (fun c_10 => ?_)
        · exact absurd c_10 (by decide)
        · refine lv_iconst (v := 0) hx hb dX8_runScript_68 (by decide) ?_
          exact hret _ _ H locs _ ((1, sn, ac, sp, ou), tx, (yn, yt, y3), di, ke, ik) dX8_runScript_69 hP hD hS (mPost_t (K := (kRun v s9)) (k := 1) (U := ((rf, sn, ac, sp, ou), tx, (yn, yt, y3), di, ke, ik)) (by simp only [kRun, ← hm3, if_pos c_1, if_neg c_6, if_neg c_10]) (by decide))
      · have c_6 := zb_ne.mp c_6
        refine lv_iconst (v := 0) hx hb dX8_runScript_57 (by decide) ?_
        refine lv_goto (tgt := 62) hx hb dX8_runScript_58 (by decide) ?_
        refine wr_i (fun u => wj [[(b 0, .inr (5, [.int 0, .ref (b 1), .int sn, .ref (b 2), .ref (b 3), .ref (b 4), .ref (b 5), .int ac, .ref (b 6), .ref (b 7), .int sp, .int ou]))], [(b 1, .inl (cy 0, 120, .inl tx))], mW cy (b 2) yn, mW cy (b 3) yt, mW cy (b 4) y3, diW cy (b 5) 588 di, diW cy (b 6) 84 ke, [(b 7, .inl (cy 3, 2, .inl ik))]]) (va_runV (As := [.int 0]) (rest := []) hF (c_X8_refused l D cy b rf sn ac sp ou 0 H.size) (cwV 1 hts gX8_runScript_X8_refused rfl rfl rfl (by decide +kernel) ⟨Nat.le_of_ble_eq_true rfl, Nat.le_of_ble_eq_true rfl⟩) (wr_preV hK hP hD (zz_pick1 [[(b 0, .inr (5, [.int rf, .ref (b 1), .int sn, .ref (b 2), .ref (b 3), .ref (b 4), .ref (b 5), .int ac, .ref (b 6), .ref (b 7), .int sp, .int ou]))], [(b 1, .inl (cy 0, 120, .inl tx))], mW cy (b 2) yn, mW cy (b 3) yt, mW cy (b 4) y3, diW cy (b 5) 588 di, diW cy (b 6) 84 ke, [(b 7, .inl (cy 3, 2, .inl ik))]] 0 [1, 2, 3, 4, 5, 6, 7] (show List.Perm ([0] ++ [1, 2, 3, 4, 5, 6, 7]) (List.range 8) by decide) rfl rfl) 0 5 rfl rfl rfl) rfl rfl hl.1 rfl (lv_room (Nat.le_of_ble_eq_true rfl)) dX8_runScript_62 ⟨Nat.le_of_ble_eq_true rfl, Nat.le_of_ble_eq_true rfl⟩) hP hD hS hA (zz_pick1 [[(b 0, .inr (5, [.int rf, .ref (b 1), .int sn, .ref (b 2), .ref (b 3), .ref (b 4), .ref (b 5), .int ac, .ref (b 6), .ref (b 7), .int sp, .int ou]))], [(b 1, .inl (cy 0, 120, .inl tx))], mW cy (b 2) yn, mW cy (b 3) yt, mW cy (b 4) y3, diW cy (b 5) 588 di, diW cy (b 6) 84 ke, [(b 7, .inl (cy 3, 2, .inl ik))]] 0 [1, 2, 3, 4, 5, 6, 7] (show List.Perm ([0] ++ [1, 2, 3, 4, 5, 6, 7]) (List.range 8) by decide) rfl rfl) (fun _ => (zz_pick1 [[(b 0, .inr (5, [.int 0, .ref (b 1), .int sn, .ref (b 2), .ref (b 3), .ref (b 4), .ref (b 5), .int ac, .ref (b 6), .ref (b 7), .int sp, .int ou]))], [(b 1, .inl (cy 0, 120, .inl tx))], mW cy (b 2) yn, mW cy (b 3) yt, mW cy (b 4) y3, diW cy (b 5) 588 di, diW cy (b 6) 84 ke, [(b 7, .inl (cy 3, 2, .inl ik))]] 0 [1, 2, 3, 4, 5, 6, 7] (show List.Perm ([0] ++ [1, 2, 3, 4, 5, 6, 7]) (List.range 8) by decide) rfl rfl)) (fun r_11 u_12 H locs e_13 hP hD hS => ?_)
        obtain rfl := e_13
        have hP : va_P D vwCl (modelW cy b ((0, sn, ac, sp, ou), tx, (yn, yt, y3), di, ke, ik)) H := hP
        have hD : va_D A (modelW cy b ((0, sn, ac, sp, ou), tx, (yn, yt, y3), di, ke, ik)) := hD
        refine lv_if_eq (tgt := 70) hx hb dX8_runScript_65 (by decide) (fun c_14 => ?_) (fun c_14 => ?_)
        · have hK0 : kRun v s9 = 0 := by simp only [kRun, ← hm3, if_pos c_1, if_pos c_6, if_pos c_14]
          obtain ⟨m9, hm1, hm9, rfl⟩ := inL_1 (k := 3) (by decide) rfl c_1
          rw [nI_clamp (show m9 < 2 ^ 31 by omega)] at hm3
          obtain rfl : m3 = m9 := by omega
          have hp3 := p5_le (e := m3) (m := 3) (by omega)
          have hp33 : 100000 ^ 3 = 1000000000000000 := rfl
          obtain ⟨k9, hk9, rfl⟩ := inS (by omega) c_6
          refine lv_aload_n hx hb dX8_runScript_70 rfl (lv_at hl 1 rfl) ?_
          refine va_get (ci := 5) (v := .ref (b 2)) (C := RX8) (T := TX8) (N := 12) hx hb hts hin_X8 hown hK hP 0 rfl rfl 3 (by decide) (hts (.fieldLink RX8 13 "ButtonGuestsModel" "now" "[I") (by decide +kernel)) (fun _ h9 => h9) rfl dX8_runScript_71 ?_
          refine lv_iconst (v := 0) hx hb dX8_runScript_74 (by decide) ?_
          refine lv_aload_n hx hb dX8_runScript_75 rfl (lv_at hl 1 rfl) ?_
          refine va_get (ci := 5) (v := .ref (b 3)) (C := RX8) (T := TX8) (N := 12) hx hb hts hin_X8 hown hK hP 0 rfl rfl 4 (by decide) (hts (.fieldLink RX8 16 "ButtonGuestsModel" "trial" "[I") (by decide +kernel)) (fun _ h9 => h9) rfl dX8_runScript_76 ?_
          refine lv_iconst (v := 0) hx hb dX8_runScript_79 (by decide) ?_
          refine wr_v (fun u => wj [[(b 0, .inr (5, [.int 0, .ref (b 1), .int sn, .ref (b 2), .ref (b 3), .ref (b 4), .ref (b 5), .int ac, .ref (b 6), .ref (b 7), .int sp, .int ou]))], [(b 1, .inl (cy 0, 120, .inl tx))], mW cy (b 2) yn, mW cy (b 3) yn, mW cy (b 4) y3, diW cy (b 5) 588 di, diW cy (b 6) 84 ke, [(b 7, .inl (cy 3, 2, .inl ik))]]) (va_runS (As := [.ref (b 2), .int 0, .ref (b 3), .int 0]) (rest := []) hF (c_X8_copyState_s l D cy (b 2) (b 3) 42 0 (mOf yn) yt yn (by omega) (by omega) (fun j _ => by rw [Nat.zero_add]) H.size) (va_cwS 4 hts gX8_runScript_X8_copyState rfl rfl rfl (by decide +kernel) ⟨Nat.le_of_ble_eq_true rfl, Nat.le_of_ble_eq_true rfl⟩) (wr_preS hK hP hD (zz_pick2 [[(b 0, .inr (5, [.int 0, .ref (b 1), .int sn, .ref (b 2), .ref (b 3), .ref (b 4), .ref (b 5), .int ac, .ref (b 6), .ref (b 7), .int sp, .int ou]))], [(b 1, .inl (cy 0, 120, .inl tx))], mW cy (b 2) yn, mW cy (b 3) yt, mW cy (b 4) y3, diW cy (b 5) 588 di, diW cy (b 6) 84 ke, [(b 7, .inl (cy 3, 2, .inl ik))]] 2 3 [0, 1, 4, 5, 6, 7] (show List.Perm ([2, 3] ++ [0, 1, 4, 5, 6, 7]) (List.range 8) by decide) rfl rfl rfl)) rfl rfl hl.1 rfl (lv_room (Nat.le_of_ble_eq_true rfl)) dX8_runScript_80 ⟨Nat.le_of_ble_eq_true rfl, Nat.le_of_ble_eq_true rfl⟩) hP hD hS hA (zz_pick2 [[(b 0, .inr (5, [.int 0, .ref (b 1), .int sn, .ref (b 2), .ref (b 3), .ref (b 4), .ref (b 5), .int ac, .ref (b 6), .ref (b 7), .int sp, .int ou]))], [(b 1, .inl (cy 0, 120, .inl tx))], mW cy (b 2) yn, mW cy (b 3) yt, mW cy (b 4) y3, diW cy (b 5) 588 di, diW cy (b 6) 84 ke, [(b 7, .inl (cy 3, 2, .inl ik))]] 2 3 [0, 1, 4, 5, 6, 7] (show List.Perm ([2, 3] ++ [0, 1, 4, 5, 6, 7]) (List.range 8) by decide) rfl rfl rfl) (fun _ => (zz_pick2 [[(b 0, .inr (5, [.int 0, .ref (b 1), .int sn, .ref (b 2), .ref (b 3), .ref (b 4), .ref (b 5), .int ac, .ref (b 6), .ref (b 7), .int sp, .int ou]))], [(b 1, .inl (cy 0, 120, .inl tx))], mW cy (b 2) yn, mW cy (b 3) yn, mW cy (b 4) y3, diW cy (b 5) 588 di, diW cy (b 6) 84 ke, [(b 7, .inl (cy 3, 2, .inl ik))]] 2 3 [0, 1, 4, 5, 6, 7] (show List.Perm ([2, 3] ++ [0, 1, 4, 5, 6, 7]) (List.range 8) by decide) rfl rfl rfl)) (fun u_15 H locs e_16 hP hD hS => ?_)
          have hP : va_P D vwCl (modelW cy b ((0, sn, ac, sp, ou), tx, (yn, yn, y3), di, ke, ik)) H := hP
          have hD : va_D A (modelW cy b ((0, sn, ac, sp, ou), tx, (yn, yn, y3), di, ke, ik)) := hD
          refine lv_iconst (v := 0) hx hb dX8_runScript_83 (by decide) ?_
          refine lv_istore (lv' := [(6, .int 0), (4, .long (lN (100000 ^ m3))), (0, .ref (b 0)), (1, .int (nI m3)), (2, .long (lN k9))]) hx hb dX8_runScript_84 hl (by decide) rfl (fun ls hl => ?_)
          have loop2 : ∀ (k i u4 : Nat) (z w : HS), i ≤ m3 → m3 + 1 ≤ i + k → u4 = 100000 ^ (m3 - i) → RelX z w → lpE (sRun m3 k9) (fun _ => -1) (m3 - i) i z = lpE (sRun m3 k9) (fun _ => -1) m3 0 xn → ∀ (H : Heap) (locs : List Loc) (ls : Array Slot), va_P D vwCl (modelW cy b ((0, sn, ac, sp, ou), tx, (yn, w, y3), di, ke, ik)) H → va_D A (modelW cy b ((0, sn, ac, sp, ou), tx, (yn, w, y3), di, ke, ik)) → va_S A s.heap H locs → lv_has ls 8 [(6, .int (nI i)), (4, .long (lN u4)), (0, .ref (b 0)), (1, .int (nI m3)), (2, .long (lN k9))] → W p l e rm_X8_runScript s m args below meth c H locs 0 0 Q (F0 m 86 ls []) := by
            intro k
            induction k with
            | zero =>
              intro i u4 z w hi hk hu4 hRX hv
              exact absurd hk (by omega)
            | succ k ih =>
              intro i u4 z w hi hk hu4 hRX hv H locs ls hP hD hS hl
              refine lv_iload hx hb dX8_runScript_86 (lv_at hl 0 rfl) ?_
              refine lv_iload_n hx hb dX8_runScript_88 rfl (lv_at hl 3 rfl) ?_
              refine lv_icmp_ge (tgt := 139) hx hb dX8_runScript_89 (by decide) (fun c_17 => ?_) (fun c_17 => ?_)
              · have c_17 : m3 ≤ i := (nI_leI (a := m3) (b := i) (by omega) (by omega)).mp c_17
                refine lv_iconst (v := (-1)) hx hb dX8_runScript_139 (by decide) ?_
                exact hret _ _ H locs _ ((0, sn, ac, sp, ou), tx, (yn, w, y3), di, ke, ik) dX8_runScript_140 hP hD hS (mPost_r hK0 (by rw [vRun, nI_clamp (show m3 < 2 ^ 31 by omega), lN_nat (by omega)]; exact lpE_end (fin := fun _ => (-1 : Int32)) (x := z) c_17 hv) rfl)
              · have c_17 : ¬ m3 ≤ i := fun q => c_17 ((nI_leI (a := m3) (b := i) (by omega) (by omega)).mpr q)
                have hlt : i < m3 := by omega
                have hu5 : u4 / 100000 = 100000 ^ (m3 - 1 - i) := by rw [hu4, show m3 - i = (m3 - 1 - i) + 1 by omega, Nat.pow_succ, Nat.mul_div_cancel _ (by decide)]
                have hup : 0 < 100000 ^ (m3 - 1 - i) := Nat.pow_pos (by decide)
                have hup5 := p5_le (e := m3 - 1 - i) (m := 3) (by omega)
                obtain ⟨q9, hq9⟩ : ∃ q, q = k9 / 100000 ^ (m3 - 1 - i) := ⟨_, rfl⟩
                have hq5 : q9 ≤ k9 := by rw [hq9]; exact Nat.div_le_self _ _
                have hub := p5_le (e := m3 - i) (m := 3) (by omega)
                rw [← hu4] at hub
                obtain ⟨g9, hg9⟩ : ∃ g, g = q9 % 100000 := ⟨_, rfl⟩
                have hgb : g9 < 100000 := by rw [hg9]; exact Nat.mod_lt _ (by decide)
                refine lv_lload hx hb dX8_runScript_92 (lv_at hl 1 rfl) ?_
                refine lv_ldc2 (v := 100000) hx hb hown (hts (.constantLong RX8 183 (100000)) (by decide +kernel)) dX8_runScript_94 ?_
                refine lv_ldiv hx hb dX8_runScript_97 (by decide) ?_
                refine zz_topL (y := lN (u4 / 100000)) (pk_lDiv (b := 100000) (by omega) (by decide) (by decide)) ?_
                refine lv_lstore (lv' := [(4, .long (lN (u4 / 100000))), (6, .int (nI i)), (0, .ref (b 0)), (1, .int (nI m3)), (2, .long (lN k9))]) hx hb dX8_runScript_98 hl (by decide) rfl (fun ls hl => ?_)
                refine lv_lload_n hx hb dX8_runScript_100 rfl (lv_at hl 4 rfl) ?_
                refine lv_lload hx hb dX8_runScript_101 (lv_at hl 0 rfl) ?_
                refine lv_ldiv hx hb dX8_runScript_103 (show ¬ lN (u4 / 100000) = lN 0 by rw [pk_lEQ (by omega) (by decide)]; omega) ?_
                refine zz_topL (y := lN q9) (by rw [hq9, hu5]; exact pk_lDiv (by omega) (by omega) (by omega)) ?_
                refine lv_ldc2 (v := 100000) hx hb hown (hts (.constantLong RX8 183 (100000)) (by decide +kernel)) dX8_runScript_104 ?_
                refine lv_lrem hx hb dX8_runScript_107 (by decide) ?_
                refine zz_topL (y := lN g9) (by rw [hg9]; exact pk_lRem (b := 100000) (by omega) (by decide) (by decide)) ?_
                refine lv_l2i (v := Int64.toInt32 (lN g9)) hx hb dX8_runScript_108 rfl ?_
                refine zz_top (y := nI g9) (lN_i g9) ?_
                refine lv_istore (lv' := [(7, .int (nI g9)), (4, .long (lN (u4 / 100000))), (6, .int (nI i)), (0, .ref (b 0)), (1, .int (nI m3)), (2, .long (lN k9))]) hx hb dX8_runScript_109 hl (by decide) rfl (fun ls hl => ?_)
                refine lv_aload_n hx hb dX8_runScript_111 rfl (lv_at hl 3 rfl) ?_
                refine lv_iload hx hb dX8_runScript_112 (lv_at hl 0 rfl) ?_
                refine lv_sipush (v := 10000) hx hb dX8_runScript_114 (by decide) ?_
                refine lv_idiv hx hb dX8_runScript_117 (by decide) ?_
                refine zz_top (y := nI (g9 / 10000)) (pk_div (by omega) (by decide) (by decide)) ?_
                refine lv_iload hx hb dX8_runScript_118 (lv_at hl 0 rfl) ?_
                refine lv_sipush (v := 10000) hx hb dX8_runScript_120 (by decide) ?_
                refine lv_irem hx hb dX8_runScript_123 (by decide) ?_
                refine zz_top (y := nI (g9 % 10000)) (pk_rem (by omega) (by decide) (by decide)) ?_
                refine wr_i (fun u => wj [[(b 0, .inr (5, [.int 0, .ref (b 1), .int sn, .ref (b 2), .ref (b 3), .ref (b 4), .ref (b 5), .int ac, .ref (b 6), .ref (b 7), .int sp, .int ou]))], [(b 1, .inl (cy 0, 120, .inl tx))], mW cy (b 2) yn, mW cy (b 3) u, mW cy (b 4) y3, diW cy (b 5) 588 di, diW cy (b 6) 84 ke, [(b 7, .inl (cy 3, 2, .inl ik))]]) (va_runV (As := [.int (nI (g9 / 10000)), .int (nI (g9 % 10000))]) (rest := []) hF (c_X8_command l D cy b 0 sn ac sp ou (hN z) (g9 / 10000) (g9 % 10000) (relX_n hRX).1 z w (relX_n hRX).2 (by omega) (by omega) H.size) (cwV 2 hts gX8_runScript_X8_command rfl rfl rfl (by decide +kernel) ⟨Nat.le_of_ble_eq_true rfl, Nat.le_of_ble_eq_true rfl⟩) (wr_preV hK hP hD (zz_pick [[(b 0, .inr (5, [.int 0, .ref (b 1), .int sn, .ref (b 2), .ref (b 3), .ref (b 4), .ref (b 5), .int ac, .ref (b 6), .ref (b 7), .int sp, .int ou]))], [(b 1, .inl (cy 0, 120, .inl tx))], mW cy (b 2) yn, mW cy (b 3) w, mW cy (b 4) y3, diW cy (b 5) 588 di, diW cy (b 6) 84 ke, [(b 7, .inl (cy 3, 2, .inl ik))]] [0, 3] [1, 2, 4, 5, 6, 7] (show List.Perm ([0, 3] ++ [1, 2, 4, 5, 6, 7]) (List.range 8) by decide) rfl rfl) 0 5 rfl rfl rfl) rfl rfl hl.1 rfl (lv_room (Nat.le_of_ble_eq_true rfl)) dX8_runScript_124 ⟨Nat.le_of_ble_eq_true rfl, Nat.le_of_ble_eq_true rfl⟩) hP hD hS hA (zz_pick [[(b 0, .inr (5, [.int 0, .ref (b 1), .int sn, .ref (b 2), .ref (b 3), .ref (b 4), .ref (b 5), .int ac, .ref (b 6), .ref (b 7), .int sp, .int ou]))], [(b 1, .inl (cy 0, 120, .inl tx))], mW cy (b 2) yn, mW cy (b 3) w, mW cy (b 4) y3, diW cy (b 5) 588 di, diW cy (b 6) 84 ke, [(b 7, .inl (cy 3, 2, .inl ik))]] [0, 3] [1, 2, 4, 5, 6, 7] (show List.Perm ([0, 3] ++ [1, 2, 4, 5, 6, 7]) (List.range 8) by decide) rfl rfl) (fun u => (zz_pick [[(b 0, .inr (5, [.int 0, .ref (b 1), .int sn, .ref (b 2), .ref (b 3), .ref (b 4), .ref (b 5), .int ac, .ref (b 6), .ref (b 7), .int sp, .int ou]))], [(b 1, .inl (cy 0, 120, .inl tx))], mW cy (b 2) yn, mW cy (b 3) u, mW cy (b 4) y3, diW cy (b 5) 588 di, diW cy (b 6) 84 ke, [(b 7, .inl (cy 3, 2, .inl ik))]] [0, 3] [1, 2, 4, 5, 6, 7] (show List.Perm ([0, 3] ++ [1, 2, 4, 5, 6, 7]) (List.range 8) by decide) rfl rfl)) (fun r_18 u_19 H locs e_20 hP hD hS => ?_)
                have hP : va_P D vwCl (modelW cy b ((0, sn, ac, sp, ou), tx, (yn, u_19, y3), di, ke, ik)) H := hP
                have hD : va_D A (modelW cy b ((0, sn, ac, sp, ou), tx, (yn, u_19, y3), di, ke, ik)) := hD
                refine lv_if_ne (tgt := 133) hx hb dX8_runScript_127 (by decide) (fun c_21 => ?_) (fun c_21 => ?_)
                · have c_21 : ¬ r_18 = 0 := c_21
                  refine lv_iinc (v := nI (i + 1)) (lv' := [(6, .int (nI (i + 1))), (7, .int (nI g9)), (4, .long (lN (u4 / 100000))), (0, .ref (b 0)), (1, .int (nI m3)), (2, .long (lN k9))]) hx hb dX8_runScript_133 hl (k := 2) rfl (nI_add (i) 1) (by decide) rfl (fun ls hl => ?_)
                  refine lv_goto (tgt := 86) hx hb dX8_runScript_136 (by decide) ?_
                  exact ih (i + 1) (u4 / 100000) (hScrU (hN z) g9 z) u_19 (by omega) (by omega) (by rw [hu5]; congr 1; omega) (run_next (by rw [hg9, hq9]) e_20 c_21).2 (lpE_next (by omega) hv (run_next (by rw [hg9, hq9]) e_20 c_21).1) _ _ _ hP hD hS (lv_sub hl [0, 2, 3, 4, 5] rfl)
                · have c_21 : r_18 = 0 := c_21
                  refine lv_iload hx hb dX8_runScript_130 (lv_at hl 2 rfl) ?_
                  exact hret _ _ H locs _ ((0, sn, ac, sp, ou), tx, (yn, u_19, y3), di, ke, ik) dX8_runScript_132 hP hD hS (mPost_r hK0 (by rw [vRun, nI_clamp (show m3 < 2 ^ 31 by omega), lN_nat (by omega)]; exact lpE_ret (by omega) hv (run_ret (by rw [hg9, hq9]) e_20 c_21)) rfl)
          exact loop2 (m3 + 1) 0 (100000 ^ m3) xn yn (Nat.zero_le _) (by omega) rfl ⟨n, hn, hR⟩ rfl _ _ _ hP hD hS (lv_sub hl [0, 1, 2, 3, 4] rfl)
        · exact absurd c_14 (by decide)
  have loop : ∀ (k i : Nat), i ≤ 3 → i ≤ v.toNatClampNeg → 4 ≤ i + k → ∀ (H : Heap) (locs : List Loc) (ls : Array Slot), va_P D vwCl (modelW cy b ((rf, sn, ac, sp, ou), tx, (yn, yt, y3), di, ke, ik)) H → va_D A (modelW cy b ((rf, sn, ac, sp, ou), tx, (yn, yt, y3), di, ke, ik)) → va_S A s.heap H locs → lv_has ls 8 [(6, .int (nI i)), (4, .long (lN (100000 ^ i))), (0, .ref (b 0)), (1, .int v), (2, .long s9)] → W p l e rm_X8_runScript s m args below meth c H locs 0 0 Q (F0 m 6 ls []) := by
    intro k
    induction k with
    | zero =>
      intro i hi hc hk
      exact absurd hk (by omega)
    | succ k ih =>
      intro i hi hc hk H locs ls hP hD hS hl
      refine lv_iload hx hb dX8_runScript_6 (lv_at hl 0 rfl) ?_
      refine lv_iload_n hx hb dX8_runScript_8 rfl (lv_at hl 3 rfl) ?_
      refine lv_icmp_ge (tgt := 32) hx hb dX8_runScript_9 (by decide) (fun c_22 => ?_) (fun c_22 => ?_)
      · have c_22 : v ≤ (nI i) := c_22
        exact join1 i (by have := le_clamp (by omega) c_22; omega) _ _ _ hP hD hS (lv_sub hl [1, 2, 3, 4] rfl)
      · have c_22 : ¬ v ≤ (nI i) := c_22
        refine lv_iload hx hb dX8_runScript_12 (lv_at hl 0 rfl) ?_
        refine lv_iconst (v := 3) hx hb dX8_runScript_14 (by decide) ?_
        refine lv_icmp_ge (tgt := 32) hx hb dX8_runScript_15 (by decide) (fun c_23 => ?_) (fun c_23 => ?_)
        · have c_23 : 3 ≤ i := (nI_leI (a := 3) (b := i) (by omega) (by omega)).mp c_23
          exact join1 i (by omega) _ _ _ hP hD hS (lv_sub hl [1, 2, 3, 4] rfl)
        · have c_23 : ¬ 3 ≤ i := fun q => c_23 ((nI_leI (a := 3) (b := i) (by omega) (by omega)).mpr q)
          refine lv_lload hx hb dX8_runScript_18 (lv_at hl 1 rfl) ?_
          refine lv_ldc2 (v := 100000) hx hb hown (hts (.constantLong RX8 183 (100000)) (by decide +kernel)) dX8_runScript_20 ?_
          refine lv_lmul hx hb dX8_runScript_23 ?_
          refine zz_topL (y := lN (100000 ^ (i + 1))) (by rw [Nat.pow_succ]; exact lN_mul _ 100000) ?_
          refine lv_lstore (lv' := [(4, .long (lN (100000 ^ (i + 1)))), (6, .int (nI i)), (0, .ref (b 0)), (1, .int v), (2, .long s9)]) hx hb dX8_runScript_24 hl (by decide) rfl (fun ls hl => ?_)
          refine lv_iinc (v := nI (i + 1)) (lv' := [(6, .int (nI (i + 1))), (4, .long (lN (100000 ^ (i + 1)))), (0, .ref (b 0)), (1, .int v), (2, .long s9)]) hx hb dX8_runScript_26 hl (k := 1) rfl (nI_add (i) 1) (by decide) rfl (fun ls hl => ?_)
          refine lv_goto (tgt := 6) hx hb dX8_runScript_29 (by decide) ?_
          exact ih (i + 1) (by omega) (lt_clamp (by omega) c_22) (by omega) _ _ _ hP hD hS (lv_sub hl [0, 1, 2, 3, 4] rfl)
  exact loop 4 0 (by decide) (Nat.zero_le _) (by decide) _ _ _ hP hD hS (lv_sub hl [0, 1, 2, 3, 4] rfl)
