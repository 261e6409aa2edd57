/-! the hotel's methods, as functions -/
abbrev isG (gu g : Int32) : Prop := ¬ g < 0 ∧ ¬ gu ≤ g
abbrev okF (f : Int32) : Prop := ¬ f < 0 ∧ ¬ 7 ≤ f
abbrev okW (w : Int32) : Prop := ¬ w < 1 ∧ ¬ 4 < w
def vAdd (gr : Nat → Int32) (g : Nat) : Nat → Int32 := if 9 ≤ gr g then gr else upd gr g (gr g + 1)
def sGI (st : Nat → Int32) (w : Int32) : Nat → Int32 → Int32 := fun g a => if st g = w then a + 1 else a
def sWR (st we : Nat → Int32) : Nat → Int32 → Int32 := fun g a => if st g = 1 then a + we g else a
def sAG (gr : Nat → Int32) : Nat → Int32 → Int32 := fun g a => a + gr g
def vBel (st wa ho bu : Nat → Int32) (g : Nat) (f what : Int32) : Int32 := if what = 0 then zb (st g = 0 ∧ wa g = f) else if what = 1 then zb (st g = 2 ∧ ho g = f) else zb (bu g = f)
def sFS (st wa ho bu : Nat → Int32) (f what : Int32) : Nat → Int32 → Int32 := fun g a => if vBel st wa ho bu g f what = 0 then a else a ||| (1 <<< (nI g &&& 31))
def sRe : Nat → (Nat → Int32) → (Nat → Int32) := fun g gr => if gr g ≤ 0 then gr else upd gr g (gr g - 1)
def vReas (fl : Int32) (sg bu st gr : Nat → Int32) (j : Nat) : Int32 := if st j = 2 then 1 else if gr j < sg 1 then (if fl = bu j then 3 else 0) else 2
def vHope (st ho wa : Nat → Int32) (g : Nat) : Int32 := if st g = 2 then -1 else if st g = 1 then ho g else wa g
def sTv (lo hi di : Int32) (st ho wa : Nat → Int32) : Nat → (Nat → Int32) × (Nat → Int32) → (Nat → Int32) × (Nat → Int32) := fun g y => (if vHope st ho wa g ≤ lo then y.1 else if hi ≤ vHope st ho wa g then y.1 else vAdd y.1 g, if st g = 1 then upd y.2 g (y.2 g + di) else y.2)
def vLo (t fl : Int32) : Int32 := if fl ≤ t then fl else t
def vHi (t fl : Int32) : Int32 := if fl ≤ t then t else fl
def sOut (fl : Int32) (ho : Nat → Int32) : Nat → Int32 × (Nat → Int32) × (Nat → Int32) → Int32 × (Nat → Int32) × (Nat → Int32) := fun g y => if y.2.1 g = 1 then (if ho g = fl then (y.1 + 1, upd y.2.1 g 2, upd y.2.2 g 0) else y) else y
def sIn (fl mx : Int32) (wa we : Nat → Int32) : Nat → Int32 × (Nat → Int32) × (Nat → Int32) → Int32 × (Nat → Int32) × (Nat → Int32) := fun g y => if y.2.1 g = 0 then (if wa g = fl then (if mx < y.1 + we g then (y.1, y.2.1, vAdd y.2.2 g) else (y.1 + we g, upd y.2.1 g 1, upd y.2.2 g 0)) else y) else y
def sPk (st gr : Nat → Int32) : Nat → Int32 → Int32 := fun g a => a ||| (((st g <<< (4 &&& 31)) ||| gr g) <<< ((3 + (6 * nI g)) &&& 31))
def sTk (pk : Int32) : Nat → (Nat → Int32) × (Nat → Int32) → (Nat → Int32) × (Nat → Int32) := fun g y => (upd y.1 g (((pk >>> ((3 + (6 * nI g)) &&& 31)) >>> (4 &&& 31)) &&& 3), upd y.2 g ((pk >>> ((3 + (6 * nI g)) &&& 31)) &&& 15))
def hGI (n : Nat) : HS → Int32 → Int32
  | (_, (_, _, _, _, _, st, _, _, _)), w => lpN (sGI st w) n 0 0
def hWR (n : Nat) : HS → Int32
  | (_, (_, _, _, _, we, st, _, _, _)) => lpN (sWR st we) n 0 0
def hAG (n : Nat) : HS → Int32
  | (_, (_, _, _, _, _, _, gr, _, _)) => lpN (sAG gr) n 0 0
def hFS (n : Nat) : HS → Int32 → Int32 → Int32
  | (_, (_, bu, wa, ho, _, st, _, _, _)), f, what => lpN (sFS st wa ho bu f what) n 0 0
def hReas : HS → Int32 → Int32
  | ((gu, fl, _, _, _, _, _), (sg, bu, _, _, _, st, gr, _, _)), g => if isG gu g then vReas fl sg bu st gr g.toNatClampNeg else -1
def hAdd (g : Nat) : HS → HS
  | ((gu, fl, se, pr, re, go, ch), (sg, bu, wa, ho, we, st, gr, po, ri)) => ((gu, fl, se, pr, re, go, ch), (sg, bu, wa, ho, we, st, vAdd gr g, po, ri))
def hOut (n : Nat) : HS → HS
  | ((gu, fl, se, pr, re, go, ch), (sg, bu, wa, ho, we, st, gr, po, ri)) => ((gu, fl, se, pr, re, go, (lpN (sOut fl ho) n 0 (ch, st, gr)).1), (sg, bu, wa, ho, we, (lpN (sOut fl ho) n 0 (ch, st, gr)).2.1, (lpN (sOut fl ho) n 0 (ch, st, gr)).2.2, po, ri))
def hIn (n : Nat) : HS → HS
  | ((gu, fl, se, pr, re, go, ch), (sg, bu, wa, ho, we, st, gr, po, ri)) => ((gu, fl, se, pr, re, go, ch), (sg, bu, wa, ho, we, (lpN (sIn fl (sg 0) wa we) n 0 (lpN (sWR st we) n 0 0, st, gr)).2.1, (lpN (sIn fl (sg 0) wa we) n 0 (lpN (sWR st we) n 0 0, st, gr)).2.2, po, ri))
def hTv (n : Nat) (t : Int32) : HS → HS
  | ((gu, fl, se, pr, re, go, ch), (sg, bu, wa, ho, we, st, gr, po, ri)) => ((gu, t, se + ((vHi t fl - vLo t fl) * sg 2 + 5), pr, re, go + (vHi t fl - vLo t fl), ch), (sg, bu, wa, ho, we, st, (lpN (sTv (vLo t fl) (vHi t fl) (vHi t fl - vLo t fl) st ho wa) n 0 (gr, ri)).1, po, (lpN (sTv (vLo t fl) (vHi t fl) (vHi t fl - vLo t fl) st ho wa) n 0 (gr, ri)).2))
def hPr (j : Nat) : HS → HS
  | ((gu, fl, se, pr, re, go, ch), (sg, bu, wa, ho, we, st, gr, po, ri)) => ((gu, fl, se, pr + 1, re, go, ch), (sg, bu, wa, ho, we, st, gr, upd po j (po j + 1), ri))
def hGo (n j : Nat) (x : HS) : HS := hIn n (hOut n (hTv n (x.2.2.1 j) (hPr j x)))
def hRef : HS → HS
  | ((gu, fl, se, pr, re, go, ch), rows) => ((gu, fl, se, pr, re + 1, go, ch), rows)
def hRest (n : Nat) : HS → HS
  | ((gu, fl, se, pr, re, go, ch), (sg, bu, wa, ho, we, st, gr, po, ri)) => ((gu, fl, se + 30, pr, re, go, ch), (sg, bu, wa, ho, we, st, lpN sRe n 0 gr, po, ri))
def hPos (n : Nat) : HS → Int32
  | ((_, fl, _, _, _, _, _), (_, _, _, _, _, st, gr, _, _)) => lpN (sPk st gr) n 0 fl
def hTake (n : Nat) (pk : Int32) : HS → HS
  | ((gu, _, se, pr, re, go, ch), (sg, bu, wa, ho, we, st, gr, po, ri)) => ((gu, pk &&& 7, se, pr, re, go, ch), (sg, bu, wa, ho, we, (lpN (sTk pk) n 0 (st, gr)).1, (lpN (sTk pk) n 0 (st, gr)).2, po, ri))
/-- which guest a number that stands for one stands for -/
theorem isG_of {n : Nat} {g : Int32} (hn : n ≤ 4) (h : isG (nI n) g) : ∃ j : Nat, j < n ∧ g = nI j := by
  obtain ⟨h1, h2⟩ := h
  obtain ⟨j, hj, rfl⟩ := nI_of h1
  refine ⟨j, ?_, rfl⟩
  rcases Nat.lt_or_ge j n with q | q
  · exact q
  · exact absurd (nI_le q hj) h2
theorem isG_nI {n j : Nat} (hn : n ≤ 4) (h : j < n) : isG (nI n) (nI j) := ⟨nI_pos (by omega), nI_ge h (by omega)⟩
def hNum (n : Nat) (x : HS) (w : Int32) : Int32 :=
  if w = 0 then x.1.1 else if w = 1 then x.1.2.1 else if w = 2 then hWR n x else if w = 3 then hGI n x 0 else if w = 4 then hGI n x 1 else if w = 5 then hGI n x 2 else if w = 6 then x.1.2.2.1 else if w = 7 then x.1.2.2.2.1 else if w = 8 then x.1.2.2.2.2.1 else if w = 9 then x.1.2.2.2.2.2.1 else if w = 10 then hAG n x else if w = 11 then x.1.2.2.2.2.2.2 else -1
def hWhere : HS → Nat → Int32
  | ((_, fl, _, _, _, _, _), (_, _, wa, ho, _, st, _, _, _)), j => if st j = 1 then fl else if st j = 2 then ho j else wa j
def hGN : HS → Nat → Int32 → Int32
  | ((gu, fl, se, pr, re, go, ch), (sg, bu, wa, ho, we, st, gr, po, ri)), j, w => if w = 0 then bu j else if w = 1 then ho j else if w = 2 then we j else if w = 3 then st j else if w = 4 then hWhere ((gu, fl, se, pr, re, go, ch), (sg, bu, wa, ho, we, st, gr, po, ri)) j else if w = 5 then gr j else if w = 6 then po j else if w = 7 then ri j else -1
def hSt : HS → Int32 → Int32
  | ((gu, _, _, _, _, _, _), (_, _, _, _, _, st, _, _, _)), g => if isG gu g then st g.toNatClampNeg else -1
def hGr : HS → Int32 → Int32
  | ((gu, _, _, _, _, _, _), (_, _, _, _, _, _, gr, _, _)), g => if isG gu g then gr g.toNatClampNeg else -1
def hGuestN (x : HS) (g w : Int32) : Int32 := if isG x.1.1 g then hGN x g.toNatClampNeg w else -1
def hWhereG (x : HS) (g : Int32) : Int32 := if isG x.1.1 g then hWhere x g.toNatClampNeg else -1
def hMove (a b : Nat) : HS → HS
  | ((gu, fl, se, pr, re, go, ch), (sg, bu, wa, ho, we, st, gr, po, ri)) => ((gu, fl, se, pr, re, go, ch), (sg, upd bu b (bu a), upd wa b (wa a), upd ho b (ho a), upd we b (we a), upd st b (st a), upd gr b (gr a), upd po b (po a), upd ri b (ri a)))
def sMv : Nat → HS → HS := fun i y => hMove (i + 1) i y
def hLess (y : HS) : HS := ((y.1.1 - 1, y.1.2), y.2)
def hDis (n j : Nat) (x : HS) : HS := hLess (lpN sMv (n - 1 - j) j x)
def hLeave (n : Nat) (x : HS) (g : Int32) : HS := if isG x.1.1 g then hDis n g.toNatClampNeg x else x
def hPress (n : Nat) (x : HS) (g : Int32) : HS := if hReas x g = 0 then hGo n g.toNatClampNeg x else if hReas x g = -1 then x else hRef x
def hWill (n : Nat) (x : HS) (g : Int32) : HS := if hReas x g = 0 then hGo n g.toNatClampNeg x else x
def hStand (n : Nat) (x : HS) (g : Int32) : HS := if isG x.1.1 g then (if x.1.2.1 = x.2.2.1 g.toNatClampNeg then x else hGo n g.toNatClampNeg x) else x
def hStandR (n : Nat) (x : HS) (g : Int32) : Int32 := if isG x.1.1 g then (if x.1.2.1 = x.2.2.1 g.toNatClampNeg then 0 else hFS n (hGo n g.toNatClampNeg x) (hGo n g.toNatClampNeg x).1.2.1 0) else 0
def hCome (n : Nat) (b a hh w : Int32) : HS → HS
  | ((gu, fl, se, pr, re, go, ch), (sg, bu, wa, ho, we, st, gr, po, ri)) => ((gu + 1, fl, se, pr, re, go, ch), (sg, upd bu n b, upd wa n a, upd ho n hh, upd we n w, upd st n (if a = hh then 2 else 0), upd gr n 0, upd po n 0, upd ri n 0))
abbrev okC (n : Nat) (b a hh w : Int32) : Prop := okF b ∧ okF a ∧ okF hh ∧ okW w ∧ n < 4
def hAdm (n : Nat) (b a hh w : Int32) (x : HS) : HS := if okC n b a hh w then hCome n b a hh w x else x
theorem hReas_g {n : Nat} {x : HS} {g : Int32} (hn : n ≤ 4) (hg : x.1.1 = nI n) (h : hReas x g = 0) : ∃ j : Nat, j < n ∧ g = nI j := by
  obtain ⟨⟨gu, fl, se, pr, re, go, ch⟩, ⟨sg, bu, wa, ho, we, st, gr, po, ri⟩⟩ := x
  obtain rfl : gu = nI n := hg
  simp only [hReas] at h
  split at h
  · exact isG_of hn ‹_›
  · exact absurd h (by decide)
theorem vBel_nar {st wa ho bu : Nat → Int32} {g : Nat} {f what : Int32} : narrow .boolean (.int (vBel st wa ho bu g f what)) = .int (vBel st wa ho bu g f what) := by
  unfold vBel
  split
  · exact zb_nar
  · split <;> exact zb_nar
