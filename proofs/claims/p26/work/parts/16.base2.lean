/-! more of the base: chars, truth values, null, copies, loops with an early end -/
section ZR2
variable {p : Program} {l : Launch} {e : Env} {R : Room} {s : State} {m : MethodId} {args : Array Value} {below : List Frame} {meth : Method} {c : Code} {H : Heap} {locs : List Loc} {cells slots : Nat} {Q : State → Prop}
variable {cc : ByteArray} {pc a : Nat} {ls : Array Slot} {rest : List Value} {D : va_G} {cl : List vw_C} {tys : List (ClassId × FieldType)} {ws : va_W} {A : Nat → Prop} {H0 : Heap}
theorem zz_cald (hexec : p.tables.exec = Jvm.exec) (hb : c.code = cc) (hK : va_K D cl tys s) (hP : va_P D cl ws H) (q0 t0 i : Nat) {j : Int32} {cA : ClassId} {n : Nat} {f : Nat → Int32} (ha : ws[q0]? = some (a, .inl (cA, n, .inl f))) (ht : tys[t0]? = some (cA, .char)) (hj : j = nI i) (hi : i < n ∧ n < 2 ^ 31) (hdg : decode cc pc = .ok (.caload, 1))
    (kk : W p l e R s m args below meth c H locs cells slots Q (F0 m (pc + 1) ls (.int (f i) :: rest))) : W p l e R s m args below meth c H locs cells slots Q (F0 m pc ls (.int j :: .ref a :: rest)) := by
  subst hj
  refine va_cald hexec hb hK hP q0 t0 ha ht (vp_in_nI hi.1 hi.2) hdg ?_
  rw [nI_clamp (Nat.lt_trans hi.1 hi.2)]
  exact kk
theorem zz_cast (hexec : p.tables.exec = Jvm.exec) (hb : c.code = cc) (hK : va_K D cl tys s) (hP : va_P D cl ws H) (hD : va_D A ws) (hS : va_S A H0 H locs) (q0 t0 i : Nat) {j x : Int32} {cA : ClassId} {n : Nat} {f : Nat → Int32} (ha : ws[q0]? = some (a, .inl (cA, n, .inl f))) (ht : tys[t0]? = some (cA, .char)) (hj : j = nI i) (hi : i < n ∧ n < 2 ^ 31) (hnx : vp_nar .char x = x) (hdg : decode cc pc = .ok (.castore, 1))
    (kk : ∀ (H1 : Heap) (locs1 : List Loc), va_P D cl (ws.set q0 (a, .inl (cA, n, .inl (upd f i x)))) H1 → va_D A (ws.set q0 (a, .inl (cA, n, .inl (upd f i x)))) → va_S A H0 H1 locs1 → W p l e R s m args below meth c H1 locs1 cells slots Q (F0 m (pc + 1) ls rest)) : W p l e R s m args below meth c H locs cells slots Q (F0 m pc ls (.int x :: .int j :: .ref a :: rest)) := by
  subst hj
  refine va_cast hexec hb hK hP hD hS q0 t0 ha ht (vp_in_nI hi.1 hi.2) hdg ?_
  rw [nI_clamp (Nat.lt_trans hi.1 hi.2), hnx]
  exact kk
/-- only the numbers below its length matter of a row -/
theorem zz_row {D : va_G} {cl : List vw_C} {H : Heap} {a n : Nat} {cA : ClassId} {f g : Nat → Int32} (h : ∀ j, j < n → f j = g j) (hf : va_at D cl (a, .inl (cA, n, .inl f)) H) : va_at D cl (a, .inl (cA, n, .inl g)) H := by
  have e : vp_cell cA (n, .inl f) = vp_cell cA (n, .inl g) := by
    rw [vp_cell_i, vp_cell_i]
    unfold arrV
    congr 1
    apply Array.ext
    · simp
    · intro i h1 h2
      simp only [Array.getElem_ofFn]
      rw [h i (by simpa using h1)]
  show H[a]? = some (vp_cell cA (n, .inl g))
  rw [← e]
  exact hf
theorem zz_rowP {D : va_G} {cl : List vw_C} {H : Heap} {ws : va_W} {q a n : Nat} {cA : ClassId} {f g : Nat → Int32} (hq : q < ws.length) (h : ∀ j, j < n → f j = g j) (hP : va_P D cl (ws.set q (a, .inl (cA, n, .inl f))) H) : va_P D cl (ws.set q (a, .inl (cA, n, .inl g))) H := by
  intro k x hk
  by_cases hkq : k = q
  · subst hkq
    rw [List.getElem?_set_self hq] at hk
    cases hk
    exact zz_row h (hP k _ (List.getElem?_set_self hq))
  · rw [List.getElem?_set_ne (Ne.symm hkq)] at hk
    exact hP k x (by rw [List.getElem?_set_ne (Ne.symm hkq)]; exact hk)
theorem zz_rowD {A : Nat → Prop} {ws : va_W} {q a : Nat} {e e2 : va_E} (hD : va_D A (ws.set q (a, e))) : va_D A (ws.set q (a, e2)) := by
  by_cases hq : q < ws.length
  · have h := va_D.set (e := e2) hD (List.getElem?_set_self hq)
    rwa [List.set_set] at h
  · rw [List.set_eq_of_length_le (by omega)] at hD ⊢
    exact hD
/-- System.arraycopy of a whole row of numbers -/
theorem zz_copy (hexec : p.tables.exec = Jvm.exec) (hb : c.code = cc) (hml : c.maxLocals = ls.size) {own : String} {index : Nat} (hown : s.vm.findClass own = some m.cls) (hlink : (Cond.methodLink own index arraycopyName).before args s = true) (hnat : (Cond.native arraycopyName).before args s = true) (hstat : (Cond.static arraycopyName).before args s = true) (hini : (Cond.initialized "java/lang/System").before args s = true)
    (hK : va_K D cl tys s) (hP : va_P D cl ws H) (hD : va_D A ws) (hS : va_S A H0 H locs) (q0 q1 t0 N : Nat) {a0 : Nat} {c0 : ClassId} {f g : Nat → Int32} (ha0 : ws[q0]? = some (a0, .inl (c0, N, .inl f))) (ha1 : ws[q1]? = some (a, .inl (c0, N, .inl g))) (ht0 : tys[t0]? = some (c0, .int)) {n : Int32} (hn : n = nI N) (hN : N < 2 ^ 31)
    (hframes : 1 ≤ R.frames) (hlocals : (rest.map fun v => v.category).sum + (nativeFrameWords "java/lang/System" "arraycopy" 5 + 11) ≤ R.locals) (hdg : decode cc pc = .ok (.invokestatic index, 3))
    (kk : ∀ (H1 : Heap) (locs1 : List Loc), va_P D cl (ws.set q1 (a, .inl (c0, N, .inl f))) H1 → va_D A (ws.set q1 (a, .inl (c0, N, .inl f))) → va_S A H0 H1 locs1 → W p l e R s m args below meth c H1 locs1 cells slots Q (F0 m (pc + 3) ls rest)) : W p l e R s m args below meth c H locs cells slots Q (F0 m pc ls (.int n :: .int 0 :: .ref a :: .int 0 :: .ref a0 :: rest)) := by
  subst hn
  have hz : (0 : Int32).toNatClampNeg = 0 := rfl
  refine va_copyi hexec hb hml hown hlink hnat hstat hini hK hP hD hS q0 q1 t0 t0 ha0 ha1 ht0 ht0 rfl (by decide) (by decide) (nI_pos hN) (by rw [hz, nI_clamp hN]; omega) (by rw [hz, nI_clamp hN]; omega) (fun i _ => rfl) hframes hlocals hdg (fun H1 locs1 hP1 hD1 hS1 => ?_)
  have hq : q1 < ws.length := (List.getElem?_eq_some_iff.mp ha1).1
  refine kk H1 locs1 (zz_rowP hq (fun j hj => ?_) hP1) (zz_rowD hD1) hS1
  rw [hz, nI_clamp hN]
  unfold va_cpy
  rw [if_pos ⟨by omega, by omega⟩]
  congr 1
  omega
end ZR2
/-- a loop over places that may end early: f answers, or goes on -/
def lpE {α β : Type} (f : Nat → α → β ⊕ α) (fin : α → β) : Nat → Nat → α → β
  | 0, _, x => fin x
  | k + 1, i, x => match f i x with
    | .inl r => r
    | .inr y => lpE f fin k (i + 1) y
theorem lpE_next {α β : Type} {f : Nat → α → β ⊕ α} {fin : α → β} {n i : Nat} {x x' : α} {X : β} (h : i < n) (hv : lpE f fin (n - i) i x = X) (hx : f i x = .inr x') : lpE f fin (n - (i + 1)) (i + 1) x' = X := by
  have h1 : n - i = (n - (i + 1)) + 1 := by omega
  rw [h1] at hv
  simpa only [lpE, hx] using hv
theorem lpE_ret {α β : Type} {f : Nat → α → β ⊕ α} {fin : α → β} {n i : Nat} {x : α} {r X : β} (h : i < n) (hv : lpE f fin (n - i) i x = X) (hx : f i x = .inl r) : r = X := by
  have h1 : n - i = (n - (i + 1)) + 1 := by omega
  rw [h1] at hv
  simpa only [lpE, hx] using hv
theorem lpE_end {α β : Type} {f : Nat → α → β ⊕ α} {fin : α → β} {n i : Nat} {x : α} {X : β} (h : n ≤ i) (hv : lpE f fin (n - i) i x = X) : fin x = X := by
  have h1 : n - i = 0 := by omega
  rw [h1] at hv
  exact hv
theorem isG_of2 {n : Nat} {g : Int32} (h1 : ¬ g < 0) (h2 : ¬ nI n ≤ g) : ∃ j : Nat, j < n ∧ g = nI j := by
  obtain ⟨j, hj, rfl⟩ := nI_of h1
  refine ⟨j, ?_, rfl⟩
  rcases Nat.lt_or_ge j n with q | q
  · exact q
  · exact absurd (nI_le q hj) h2
/-! the text, as functions -/
abbrev textW (cy : Nat → ClassId) (t : Nat → Nat) (ln : Int32) (f : Nat → Int32) : va_W := [(t 0, .inr (1, [.ref (t 1), .int ln])), (t 1, .inl (cy 1, 120, .inl f))]
def vSign (z : Nat) (f : Nat → Int32) (i : Int32) : Int32 := if i < 0 then -1 else if nI z ≤ i then -1 else f i.toNatClampNeg
def vDig (z : Nat) (f : Nat → Int32) (i : Int32) : Int32 := if vSign z f i < 48 then -1 else if 57 < vSign z f i then -1 else vSign z f i - 48
def vDof (s : Int32) : Int32 := if s = 98 then 0 else if s = 101 then 3 else if s = 103 then 4 else if s = 108 then 1 else if s = 112 then 1 else if s = 114 then 0 else -1
def vGreat (cm mi be : Int32) : Int32 := if cm = 103 then (if mi = 1 then 4 else 6) else if cm = 101 then (if mi = 3 then 2 else if mi = 2 then 1 else if be = 1 then 6 else 9) else 3
def vLeast (cm mi : Int32) : Int32 := if cm = 103 then (if mi = 1 then 1 else 0) else 0
abbrev vAllow (z : Nat) (f : Nat → Int32) (cm mi i : Int32) : Prop := ¬ vDig z f i < vLeast cm mi ∧ ¬ vGreat cm mi (vDig z f (i - 1)) < vDig z f i
def sErr (z : Nat) (f : Nat → Int32) : Nat → Int32 × Int32 → Int32 ⊕ (Int32 × Int32) := fun i y => if y.2 ≤ 0 then (if ¬ vDof (vSign z f (nI i)) = -1 then .inr (vSign z f (nI i), vDof (vSign z f (nI i))) else .inl (nI i)) else if vAllow z f y.1 y.2 (nI i) then .inr (y.1, y.2 + (-1)) else .inl (nI i)
def eErr (z : Nat) : Int32 × Int32 → Int32 := fun y => if y.2 ≤ 0 then -1 else nI z
def vErr (z : Nat) (f : Nat → Int32) : Int32 := if vSign z f 0 = 72 then lpE (sErr z f) (eErr z) (z - 1) 1 (-1, 0) else 0
theorem vSign_pos {z : Nat} {f : Nat → Int32} (h : vSign z f 0 = 72) : 1 ≤ z := by
  rcases Nat.eq_zero_or_pos z with q | q
  · subst q
    have h2 : vSign 0 f 0 = -1 := by simp only [vSign, if_neg (show ¬ (0 : Int32) < 0 by decide), if_pos (show nI 0 ≤ 0 by decide)]
    rw [h2] at h
    exact absurd h (by decide)
  · exact q
/-! powers of ten -/
def sTen : Nat → Int64 → Int64 := fun _ x => x / 10
