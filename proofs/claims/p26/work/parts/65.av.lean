/-! what the law sees of a hotel's object, and what each call answers -/
theorem met_wk {l : Launch} {y : MethodName} {ws : List Cond} {rm : Room} {Pc : Array Value → State → Prop} {Qc Qc2 : Array Value → State → Outcome → State → Prop} {mc ms : Nat} {free : Addr → Prop} (h : Met l y ws rm Pc Qc mc ms free) (hq : ∀ a st o t, Qc a st o t → Qc2 a st o t) : Met l y ws rm Pc Qc2 mc ms free := by
  intro p e ha hc hk s m args below hf happ hP ht
  obtain ⟨k, o, h1, h2, h3, hQ, hL⟩ := h p e ha hc hk s m args below hf happ hP ht
  exact ⟨k, o, h1, h2, h3, hq _ _ _ _ hQ, hL⟩
theorem qi_wk {S : Type} {post post2 : Int32 → S → Prop} {B : S → State → Prop} {A : Nat → Prop} (h : ∀ r u, post r u → post2 r u) : ∀ a st o t, va_Qi post B A a st o t → va_Qi post2 B A a st o t :=
  fun _ _ _ _ ⟨⟨r, u, h1, h2, h3⟩, h4⟩ => ⟨⟨r, u, h1, h r u h2, h3⟩, h4⟩
/-- the hotel, the remembered ones (oldest first), the two slots -/
abbrev AV : Type := HS × List HS × Option HS × Option HS
/-- the addresses of an object's parts -/
abbrev AD : Type := (Nat → Nat) × (Nat → Nat) × (Nat → Nat) × (Nat → Nat) × (Nat → Nat) × (Nat → Nat)
def gW (cy : Nat → ClassId) (a : AD) (u : BS) : va_W := guestsW cy a.1 a.2.1 a.2.2.1 a.2.2.2.1 a.2.2.2.2.1 a.2.2.2.2.2 u
abbrev aO (a : AD) : Nat := a.1 0
def Rep (v : AV) (u : BS) : Prop := u.1.1 ≤ 120 ∧ u.2.1.1 ≤ u.2.1.2.length ∧ u.2.1.2.length ≤ 14 ∧ memo u.2.1.1 u.2.1.2 = v.2.1 ∧ u.2.2.2.2.1.2 = v.1 ∧ u.2.2.2.2.2.1.map (fun q => q.2) = v.2.2.1 ∧ u.2.2.2.2.2.2.map (fun q => q.2) = v.2.2.2
def Okv (v : AV) : Prop := OkH v.1 ∧ (∀ q, v.2.2.1 = some q → OkH q) ∧ ∀ q, v.2.2.2 = some q → OkH q
abbrev cI : Int32 := -9999001
abbrev cA : Int32 := -9999002
abbrev cS : Int32 := -9999003
def qAb (v : AV) (q : Int32) : Int32 := if kAbout q = 0 then hNum (hN v.1) v.1 q else cA
def qGu (v : AV) (g w : Int32) : Int32 := if kGuest (nI (hN v.1)) g w = 0 then hGuestN v.1 g w else if kGuest (nI (hN v.1)) g w = 1 then cI else cA
def qFl (v : AV) (f w : Int32) : Int32 := if kFloor f w = 0 then hFS (hN v.1) v.1 f w else if kFloor f w = 1 then cI else cA
def qSe (v : AV) (w : Int32) : Int32 := if kSetg w = 0 then hSgOf v.1 w else cA
def qWh (v : AV) (g : Int32) : Int32 := if kG (nI (hN v.1)) g = 0 then hReas v.1 g else cI
def qFe (v : AV) (q : Int32) : Int32 := if kFew q = 0 then hFew (hN v.1) v.1 else cA
def qIf (v : AV) (m row w : Int32) : Int32 := if kIfp m row w = 0 then vIfp (hN v.1) v.1 (lpN (sPrC (hN v.1) m.toNatClampNeg row.toNatClampNeg) m.toNatClampNeg 0 v.1) w else cA
def qLe (v : AV) (g : Int32) : Int32 := if kG (nI (hN v.1)) g = 0 then hStandR (hN v.1) v.1 g else cI
def qSi (v : AV) (seed : Int64) (m : Int32) : Int32 := if kSim m = 0 then vSim v.1 (lpN sSim m.toNatClampNeg 0 (seed, v.1)).2 else cA
def qRu (v : AV) (m : Int32) (s : Int64) : Int32 := if kRun m s = 0 then vRun m s v.1 else cA
def aPush (v : AV) (x : HS) : AV := (x, pushM v.2.1 v.1, v.2.2)
def aCome (v : AV) (b a h w : Int32) : Int32 × AV := if kCome (hN v.1) b a h w = 0 then (nI (hN v.1), aPush v (hCome (hN v.1) b a h w v.1)) else (if kCome (hN v.1) b a h w = 1 then cI else if kCome (hN v.1) b a h w = 2 then cA else cS, v)
def aLeave (v : AV) (g : Int32) : Int32 × AV := if kG (nI (hN v.1)) g = 0 then (hGr v.1 g, aPush v (hLeave (hN v.1) v.1 g)) else (cI, v)
def aPress (v : AV) (g : Int32) : Int32 × AV := if kG (nI (hN v.1)) g = 0 then (hReas v.1 g, aPush v (hPress (hN v.1) v.1 g)) else (cI, v)
def aLay (v : AV) (w q : Int32) : Int32 × AV := if kSet w q = 0 then (hSetR v.1 w q, aPush v (hSet w q v.1)) else (cA, v)
def aRest (v : AV) : Int32 × AV := (hAG (hN v.1) (hRest (hN v.1) v.1), aPush v (hRest (hN v.1) v.1))
def aUndo (v : AV) : Int32 × AV := match v.2.1.getLast? with
  | none => (cS, v)
  | some y => (nI (v.2.1.length - 1), (y, v.2.1.dropLast, v.2.2))
def aKeep (v : AV) (q : Int32) : Int32 × AV := if kSave q = 0 then (v.1.1.2.2.1, (v.1, v.2.1, if q = 0 then (some v.1, v.2.2.2) else (v.2.2.1, some v.1))) else (cI, v)
def aBack (v : AV) (q : Int32) : Int32 × AV := if kSave q = 0 then (match (if q = 0 then v.2.2.1 else v.2.2.2) with
  | none => (cS, v)
  | some y => (y.1.2.2.1, (y, [], v.2.2))) else (cI, v)
/-- a contract of a method of the law that is given one hotel -/
abbrev aMet (l : Launch) (y : MethodName) (ws : List Cond) (rm : Room) (D : va_G) (cy : Nat → ClassId) (a : AD) (As : List Value) (u : BS) (sz : Nat) (post : Int32 → BS → Prop) (mc ms : Nat) : Prop := Met l y ws rm (wrX D cy (.ref (aO a) :: As) (gW cy a u) sz (Gl (va_A (gW cy a u) sz))) (va_Qi post (wrB D (va_A (gW cy a u) sz) (fun w => gW cy a w)) (va_A (gW cy a u) sz)) mc ms (va_A (gW cy a u) sz)
/-- and of one that is given two -/
abbrev bMet (l : Launch) (y : MethodName) (ws : List Cond) (rm : Room) (D : va_G) (cy : Nat → ClassId) (a c : AD) (As : List Value) (u w : BS) (sz : Nat) (post : Int32 → BS × BS → Prop) (mc ms : Nat) : Prop := Met l y ws rm (wrX D cy (.ref (aO a) :: .ref (aO c) :: As) (gW cy a u ++ gW cy c w) sz (Gl (va_A (gW cy a u ++ gW cy c w) sz))) (va_Qi post (wrB D (va_A (gW cy a u ++ gW cy c w) sz) (fun q => gW cy a q.1 ++ gW cy c q.2)) (va_A (gW cy a u ++ gW cy c w) sz)) mc ms (va_A (gW cy a u ++ gW cy c w) sz)
theorem kCome_0 {n : Nat} {a b c w : Int32} (h : kCome n a b c w = 0) : okC n a b c w := by
  unfold kCome at h
  by_cases c1 : okF a
  · rw [if_pos c1] at h
    by_cases c2 : okF b
    · rw [if_pos c2] at h
      by_cases c3 : okF c
      · rw [if_pos c3] at h
        by_cases c4 : inL w.toInt64 1 4
        · rw [if_pos c4] at h
          by_cases c5 : 4 ≤ n
          · rw [if_pos c5] at h; exact absurd h (by decide)
          · exact ⟨c1, c2, c3, (inI (a := 1) (c := 4)).mp c4, by omega⟩
        · rw [if_neg c4] at h; exact absurd h (by decide)
      · rw [if_neg c3] at h; exact absurd h (by decide)
    · rw [if_neg c2] at h; exact absurd h (by decide)
  · rw [if_neg c1] at h; exact absurd h (by decide)
section OPS
variable {z ct c2 : Nat} {f : Nat → Int32} {L L2 : List HQ} {q9 q8 : (Int32 × (Nat → Int32) × (Nat → Int32)) × HS} {y1 y9 x x2 y : HS} {nw nw2 : Nat → Nat} {o0 o1 : Option HQ} {M : List HS} {s0 s1 : Option HS}
theorem rep_rd (h : Rep (x, M, s0, s1) ((z, f), (ct, L), q9, y1, (nw, x), (o0, o1))) : Rep (x, M, s0, s1) ((z, f), (ct, L), q8, y9, (nw, x), (o0, o1)) := h
theorem rep_push (h : Rep (x, M, s0, s1) ((z, f), (ct, L), q9, y1, (nw, x), (o0, o1))) (hm : c2 ≤ L2.length ∧ L2.length ≤ 14 ∧ memo c2 L2 = pushM (memo ct L) x) : Rep (aPush (x, M, s0, s1) x2) ((z, f), (c2, L2), q9, y1, (nw, x2), (o0, o1)) := by
  obtain ⟨h1, h2, h3, h4, h5, h6, h7⟩ := h
  have h4 : memo ct L = M := h4
  exact ⟨h1, hm.1, hm.2.1, by rw [← h4]; exact hm.2.2, rfl, h6, h7⟩
theorem rep_undo (h : Rep (x, M, s0, s1) ((z, f), (ct, L), q9, y1, (nw, x), (o0, o1))) (hk : kUndo ct = 0) (hy : memo ct L = memo (ct - 1) L ++ [y]) : nI (ct - 1) = (aUndo (x, M, s0, s1)).1 ∧ Rep (aUndo (x, M, s0, s1)).2 ((z, f), (ct - 1, L), q9, y1, (nw, y), (o0, o1)) := by
  obtain ⟨h1, h2, h3, h4, h5, h6, h7⟩ := h
  have h4 : memo ct L = M := h4
  have h2 : ct ≤ L.length := h2
  have e1 : M.getLast? = some y := by rw [← h4, hy, List.getLast?_concat]
  have e2 : M.dropLast = memo (ct - 1) L := by rw [← h4, hy, List.dropLast_concat]
  have e3 : M.length = ct := by rw [← h4]; exact memo_len h2
  have e : aUndo (x, M, s0, s1) = (nI (ct - 1), (y, memo (ct - 1) L, s0, s1)) := by
    show (match M.getLast? with | none => (cS, (x, M, s0, s1)) | some y => (nI (M.length - 1), (y, M.dropLast, (s0, s1)))) = _
    rw [e1, e2, e3]
  rw [e]
  exact ⟨rfl, h1, (show ct - 1 ≤ L.length by omega), h3, rfl, rfl, h6, h7⟩
theorem rep_undo0 (h : Rep (x, M, s0, s1) ((z, f), (ct, L), q9, y1, (nw, x), (o0, o1))) (hk : kUndo ct = 1) : aUndo (x, M, s0, s1) = (cS, (x, M, s0, s1)) := by
  obtain ⟨h1, h2, h3, h4, h5, h6, h7⟩ := h
  have h4 : memo ct L = M := h4
  have hc : ct = 0 := by
    unfold kUndo at hk
    by_cases c : ct = 0
    · exact c
    · rw [if_neg c] at hk; exact absurd hk (by decide)
  have e1 : M = [] := by
    rw [← h4, hc]
    unfold memo
    rw [List.take_zero]
    rfl
  rw [e1]
  rfl
theorem rep_save {nq : Nat → Nat} {w : Int32} {q : Option HQ × Option HQ} (h : Rep (x, M, s0, s1) ((z, f), (ct, L), q9, y1, (nw, x), (o0, o1))) (hk : kSave w = 0) (hq : q = (if w = 0 then (some (nq, x), o1) else (o0, some (nq, x)))) : x.1.2.2.1 = (aKeep (x, M, s0, s1) w).1 ∧ Rep (aKeep (x, M, s0, s1) w).2 ((z, f), (ct, L), q9, y1, (nw, x), q) := by
  obtain ⟨h1, h2, h3, h4, h5, h6, h7⟩ := h
  subst hq
  unfold aKeep
  rw [if_pos hk]
  refine ⟨rfl, h1, h2, h3, h4, h5, ?_, ?_⟩
  · by_cases c : w = 0
    · rw [if_pos c, if_pos c]; rfl
    · rw [if_neg c, if_neg c]; exact h6
  · by_cases c : w = 0
    · rw [if_pos c, if_pos c]; exact h7
    · rw [if_neg c, if_neg c]; rfl
theorem kRst_k {w : Int32} (h : Rep (x, M, s0, s1) ((z, f), (ct, L), q9, y1, (nw, x), (o0, o1))) : (if w = 0 then o0 else o1).map (fun q => q.2) = if w = 0 then s0 else s1 := by
  obtain ⟨h1, h2, h3, h4, h5, h6, h7⟩ := h
  by_cases c : w = 0
  · rw [if_pos c, if_pos c]; exact h6
  · rw [if_neg c, if_neg c]; exact h7
theorem kRst_s {w : Int32} (h : ¬ kRst o0 o1 w = 1) : kSave w = 0 := by
  unfold kRst at h
  unfold kSave
  by_cases c : inL w.toInt64 0 1
  · exact if_pos c
  · exact absurd (if_neg c) h
theorem rep_back {w : Int32} {q : HQ} (h : Rep (x, M, s0, s1) ((z, f), (ct, L), q9, y1, (nw, x), (o0, o1))) (hk : kRst o0 o1 w = 0) (hq : (if w = 0 then o0 else o1) = some q) : q.2.1.2.2.1 = (aBack (x, M, s0, s1) w).1 ∧ Rep (aBack (x, M, s0, s1) w).2 ((z, f), (0, L), q9, y1, (nw, q.2), (o0, o1)) := by
  have hs := kRst_k (w := w) h
  rw [hq] at hs
  have hs : (if w = 0 then s0 else s1) = some q.2 := hs.symm
  obtain ⟨h1, h2, h3, h4, h5, h6, h7⟩ := h
  have e : aBack (x, M, s0, s1) w = (q.2.1.2.2.1, (q.2, [], s0, s1)) := by
    unfold aBack
    rw [if_pos (kRst_s (by rw [hk]; decide))]
    show (match (if w = 0 then s0 else s1) with | none => (cS, (x, M, s0, s1)) | some y => (y.1.2.2.1, (y, [], (s0, s1)))) = _
    rw [hs]
  rw [e]
  exact ⟨rfl, h1, Nat.zero_le _, h3, by unfold memo; rw [List.take_zero]; rfl, rfl, h6, h7⟩
theorem rep_back2 {w : Int32} (h : Rep (x, M, s0, s1) ((z, f), (ct, L), q9, y1, (nw, x), (o0, o1))) (hk : kRst o0 o1 w = 2) : aBack (x, M, s0, s1) w = (cS, (x, M, s0, s1)) := by
  have hs := kRst_k (w := w) h
  have hn : (if w = 0 then o0 else o1) = none := by
    have h2 := hk
    unfold kRst at h2
    by_cases c : inL w.toInt64 0 1
    · rw [if_pos c] at h2
      cases hq : (if w = 0 then o0 else o1) with
      | none => rfl
      | some q => rw [hq] at h2; exact absurd (show (0 : Int32) = 2 from h2) (by decide)
    · rw [if_neg c] at h2; exact absurd h2 (by decide)
  rw [hn] at hs
  have hs : (if w = 0 then s0 else s1) = none := hs.symm
  unfold aBack
  rw [if_pos (kRst_s (by rw [hk]; decide))]
  show (match (if w = 0 then s0 else s1) with | none => (cS, (x, M, s0, s1)) | some y => (y.1.2.2.1, (y, [], (s0, s1)))) = _
  rw [hs]
theorem rep_back1 {w : Int32} {v : AV} (hk : kRst o0 o1 w = 1) : aBack v w = (cI, v) := by
  have h2 : ¬ kSave w = 0 := by
    unfold kRst at hk
    unfold kSave
    by_cases c : inL w.toInt64 0 1
    · rw [if_pos c] at hk
      generalize (if w = 0 then o0 else o1).isNone = z at hk
      cases z <;> exact absurd hk (by decide)
    · rw [if_neg c]; decide
  unfold aBack
  rw [if_neg h2]
theorem kApp_1 {v : Int32} (h : ¬ inL v.toInt64 0 255) : kApp z v = 1 := if_neg h
end OPS
