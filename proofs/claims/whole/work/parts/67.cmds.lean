/-! every command: what the law compares, and what holds behind it -/
theorem kApp_0 {z : Nat} {v : Int32} (h : kApp z v = 0) : inL v.toInt64 0 255 ∧ ¬ z = 120 := by
  unfold kApp at h
  by_cases c : inL v.toInt64 0 255
  · rw [if_pos c] at h
    by_cases c2 : z = 120
    · rw [if_pos c2] at h; exact absurd h (by decide)
    · exact ⟨c, c2⟩
  · rw [if_neg c] at h; exact absurd h (by decide)
theorem kGuest_0 {a g v : Int32} (h : kGuest a g v = 0) : isG a g ∧ inL v.toInt64 0 7 := by
  unfold kGuest at h
  by_cases c : isG a g
  · rw [if_pos c] at h
    by_cases c2 : inL v.toInt64 0 7
    · exact ⟨c, c2⟩
    · rw [if_neg c2] at h; exact absurd h (by decide)
  · rw [if_neg c] at h; exact absurd h (by decide)
theorem kFloor_0 {g v : Int32} (h : kFloor g v = 0) : inL v.toInt64 0 2 := by
  unfold kFloor at h
  by_cases c : okF g
  · rw [if_pos c] at h
    by_cases c2 : inL v.toInt64 0 2
    · exact c2
    · rw [if_neg c2] at h; exact absurd h (by decide)
  · rw [if_neg c] at h; exact absurd h (by decide)
theorem kSetg_0 {v : Int32} (h : kSetg v = 0) : inL v.toInt64 0 2 := by
  unfold kSetg at h
  by_cases c : inL v.toInt64 0 2
  · exact c
  · rw [if_neg c] at h; exact absurd h (by decide)
theorem kG_0 {a g : Int32} (h : kG a g = 0) : isG a g := by
  unfold kG at h
  by_cases c : isG a g
  · exact c
  · rw [if_neg c] at h; exact absurd h (by decide)
theorem kSet_0 {w v : Int32} (h : kSet w v = 0) : okSV w v := by
  unfold kSet at h
  by_cases c : okSV w v
  · exact c
  · rw [if_neg c] at h; exact absurd h (by decide)
theorem kUndo_0 {a : Nat} (h : kUndo a = 0) : ¬ a = 0 := by
  unfold kUndo at h
  intro c
  rw [if_pos c] at h; exact absurd h (by decide)
theorem kSave_0 {v : Int32} (h : kSave v = 0) : v = nI 0 ∨ v = nI 1 := by
  unfold kSave at h
  by_cases c : inL v.toInt64 0 1
  · obtain ⟨w, hw, rfl⟩ := inL_nat (c := 1) (k := 1) (by decide) (by decide) c
    rcases Nat.lt_or_ge 0 w with q | q
    · obtain rfl : w = 1 := by omega
      exact Or.inr rfl
    · obtain rfl : w = 0 := by omega
      exact Or.inl rfl
  · rw [if_neg c] at h; exact absurd h (by decide)
theorem kCome_0 {n : Nat} {a b c w : Int32} (h : kCome n a b c w = 0) : okC n a b c w := by
  unfold kCome at h
  by_cases c1 : okF a
  · rw [if_pos c1] at h
    by_cases c2 : okF b
    · rw [if_pos c2] at h
      by_cases c3 : okF c
      · rw [if_pos c3] at h
        by_cases c4 : inL w.toInt64 1 4
        · rw [if_pos c4] at h
          by_cases c5 : 4 ≤ n
          · rw [if_pos c5] at h; exact absurd h (by decide)
          · exact ⟨c1, c2, c3, (inI (a := 1) (c := 4)).mp c4, by omega⟩
        · rw [if_neg c4] at h; exact absurd h (by decide)
      · rw [if_neg c3] at h; exact absurd h (by decide)
    · rw [if_neg c2] at h; exact absurd h (by decide)
  · rw [if_neg c1] at h; exact absurd h (by decide)
theorem okT_app {z : Nat} {f : Nat → Int32} {v : Int32} (h : okT z f) (hK : kApp z v = 0) : okT (z + 1) (upd f z v) := by
  obtain ⟨h1, h2⟩ := h
  obtain ⟨k1, k2⟩ := kApp_0 hK
  refine ⟨by omega, fun j hj => ?_⟩
  by_cases c : j = z
  · subst c
    obtain ⟨w, hw, rfl⟩ := inL_nat (c := 255) (k := 255) (by decide) (by decide) k1
    exact ⟨w, by omega, by unfold upd; rw [if_pos rfl]⟩
  · obtain ⟨a, ha, e⟩ := h2 j (by omega)
    exact ⟨a, ha, by unfold upd; rw [if_neg c]; exact e⟩
theorem rst_k {o : Option HQ} {a : Int32} {y : HS} (h : relS o a y) : (if a = 0 then (2 : Int32) else 0) = if o.isNone = true then 2 else 0 := by
  rcases h with ⟨rfl, rfl⟩ | ⟨q, rfl, h, -⟩
  · rfl
  · rw [if_neg h]; rfl
theorem rst_x {o : Option HQ} {a : Int32} {y : HS} {q : HQ} (h : relS o a y) (e : o = some q) : RelX q.2 y := by
  rcases h with ⟨h, -⟩ | ⟨q2, h, -, hx⟩
  · rw [h] at e; cases e
  · rw [h] at e
    cases e
    exact hx
theorem relM_0 {L : List HQ} {d : Nat → HS} : relM (memo 0 L) d := fun k x h => by
  have e : memo 0 L = [] := by unfold memo; rw [List.take_zero]; rfl
  rw [e, List.getElem?_nil] at h
  cases h
section CMD
variable {z ct n : Nat} {f : Nat → Int32} {L : List HQ} {sc : Int32} {pf bf : Nat → Int32} {y0 y1 x : HS} {nw : Nat → Nat} {o0 o1 : Option HQ} {rf sp ou : Int32} {yn yt y3 : HS} {di ke : Nat → HS} {ik : Nat → Int32} {fo : Nat → Int64} {k r : Int32} {u1 : LwS} {u2 : MS}
theorem cmd_append (v : Int32) (hn : n ≤ 4) (hR : RelN n x yn) (hS : RelL ((z, f), (ct, L), ((sc, pf, bf), y0), y1, (nw, x), (o0, o1)) ((rf, nI z, nI ct, sp, ou), f, (yn, yt, y3), di, ke, ik)) (h1 : lawP (kApp z v) (fun (r : Int32) (u : BS) => r = nI (z + 1) ∧ u = ((z + 1, upd f z v), (ct, L), ((sc, pf, bf), y0), y1, (nw, x), (o0, o1))) fo ((z, f), (ct, L), ((sc, pf, bf), y0), y1, (nw, x), (o0, o1)) k u1) (h2 : mPost (kApp z v) r (nI (z + 1)) u2 (((0, nI (z + 1), (nI ct), sp, ou), upd f z v, (yn, yt, y3), di, ke, ik)) ((rf, nI z, (nI ct), sp, ou), f, (yn, yt, y3), di, ke, ik)) : u2.1.1 = k ∧ (k = 0 → u1.1 0 = r.toInt64) ∧ RelL u1.2 u2 := by
  refine st_gen hS h1 h2 (fun r1 u hK hp => ?_)
  obtain ⟨rfl, rfl⟩ := hp
  obtain ⟨a1, ⟨a2, a3, a4⟩, a5, a6⟩ := hS
  exact ⟨rfl, ⟨a1, ⟨rfl, rfl, okT_app a4 hK⟩, a5, a6⟩, rfl⟩
theorem cmd_about (v : Int32) (hn : n ≤ 4) (hR : RelN n x yn) (hS : RelL ((z, f), (ct, L), ((sc, pf, bf), y0), y1, (nw, x), (o0, o1)) ((rf, nI z, nI ct, sp, ou), f, (yn, yt, y3), di, ke, ik)) (h1 : lawP (kAbout v) (fun (r : Int32) (u : BS) => r = hNum n x v ∧ u = ((z, f), (ct, L), ((sc, pf, bf), y0), y1, (nw, x), (o0, o1))) fo ((z, f), (ct, L), ((sc, pf, bf), y0), y1, (nw, x), (o0, o1)) k u1) (h2 : mPost (kAbout v) r (hNum n yn v) u2 (((0, (nI z), (nI ct), sp, ou), f, (yn, yt, y3), di, ke, ik)) ((rf, (nI z), (nI ct), sp, ou), f, (yn, yt, y3), di, ke, ik)) : u2.1.1 = k ∧ (k = 0 → u1.1 0 = r.toInt64) ∧ RelL u1.2 u2 := by
  refine st_gen hS h1 h2 (fun r1 u hK hp => ?_)
  obtain ⟨rfl, rfl⟩ := hp
  exact ⟨(rel_num hR.2.1).symm, rl_same hS, rfl⟩
theorem cmd_guestOf (g v : Int32) (hn : n ≤ 4) (hR : RelN n x yn) (hS : RelL ((z, f), (ct, L), ((sc, pf, bf), y0), y1, (nw, x), (o0, o1)) ((rf, nI z, nI ct, sp, ou), f, (yn, yt, y3), di, ke, ik)) (h1 : lawP (kGuest (nI n) g v) (fun (r : Int32) (u : BS) => r = hGuestN x g v ∧ u = ((z, f), (ct, L), ((sc, pf, bf), y0), y1, (nw, x), (o0, o1))) fo ((z, f), (ct, L), ((sc, pf, bf), y0), y1, (nw, x), (o0, o1)) k u1) (h2 : mPost (kGuest (nI n) g v) r (mCol yn v.toNatClampNeg g.toNatClampNeg) u2 (((0, (nI z), (nI ct), sp, ou), f, (yn, yt, y3), di, ke, ik)) ((rf, (nI z), (nI ct), sp, ou), f, (yn, yt, y3), di, ke, ik)) : u2.1.1 = k ∧ (k = 0 → u1.1 0 = r.toInt64) ∧ RelL u1.2 u2 := by
  refine st_gen hS h1 h2 (fun r1 u hK hp => ?_)
  obtain ⟨k1, k2⟩ := kGuest_0 hK
  obtain ⟨j, hj, rfl⟩ := isG_of hn k1
  obtain ⟨w, hw, rfl⟩ := inL_nat (c := 7) (k := 7) (by decide) (by decide) k2
  obtain ⟨rfl, rfl⟩ := hp
  refine ⟨?_, rl_same hS, rfl⟩
  rw [nI_clamp (show w < 2 ^ 31 by omega), nI_clamp (show j < 2 ^ 31 by omega), rel_gn hn hR hj (by omega)]
  unfold hGuestN
  rw [hR.1, if_pos k1, nI_clamp (show j < 2 ^ 31 by omega)]
theorem cmd_floorOf (f9 v : Int32) (hn : n ≤ 4) (hR : RelN n x yn) (hS : RelL ((z, f), (ct, L), ((sc, pf, bf), y0), y1, (nw, x), (o0, o1)) ((rf, nI z, nI ct, sp, ou), f, (yn, yt, y3), di, ke, ik)) (h1 : lawP (kFloor f9 v) (fun (r : Int32) (u : BS) => r = hFS n x f9 v ∧ u = ((z, f), (ct, L), ((sc, pf, bf), y0), y1, (nw, x), (o0, o1))) fo ((z, f), (ct, L), ((sc, pf, bf), y0), y1, (nw, x), (o0, o1)) k u1) (h2 : mPost (kFloor f9 v) r (mFS n yn f9 v) u2 (((0, (nI z), (nI ct), sp, ou), f, (yn, yt, y3), di, ke, ik)) ((rf, (nI z), (nI ct), sp, ou), f, (yn, yt, y3), di, ke, ik)) : u2.1.1 = k ∧ (k = 0 → u1.1 0 = r.toInt64) ∧ RelL u1.2 u2 := by
  refine st_gen hS h1 h2 (fun r1 u hK hp => ?_)
  obtain ⟨w, hw, rfl⟩ := inL_nat (c := 2) (k := 2) (by decide) (by decide) (kFloor_0 hK)
  obtain ⟨rfl, rfl⟩ := hp
  refine ⟨(rel_fs hn hR ?_).symm, rl_same hS, rfl⟩
  rcases (show w = 0 ∨ w = 1 ∨ w = 2 by omega) with rfl | rfl | rfl
  · exact Or.inl rfl
  · exact Or.inr (Or.inl rfl)
  · exact Or.inr (Or.inr rfl)
theorem cmd_setting (v : Int32) (hn : n ≤ 4) (hR : RelN n x yn) (hS : RelL ((z, f), (ct, L), ((sc, pf, bf), y0), y1, (nw, x), (o0, o1)) ((rf, nI z, nI ct, sp, ou), f, (yn, yt, y3), di, ke, ik)) (h1 : lawP (kSetg v) (fun (r : Int32) (u : BS) => r = hSgOf x v ∧ u = ((z, f), (ct, L), ((sc, pf, bf), y0), y1, (nw, x), (o0, o1))) fo ((z, f), (ct, L), ((sc, pf, bf), y0), y1, (nw, x), (o0, o1)) k u1) (h2 : mPost (kSetg v) r (yn.2.1 v.toNatClampNeg) u2 (((0, (nI z), (nI ct), sp, ou), f, (yn, yt, y3), di, ke, ik)) ((rf, (nI z), (nI ct), sp, ou), f, (yn, yt, y3), di, ke, ik)) : u2.1.1 = k ∧ (k = 0 → u1.1 0 = r.toInt64) ∧ RelL u1.2 u2 := by
  refine st_gen hS h1 h2 (fun r1 u hK hp => ?_)
  obtain ⟨w, hw, rfl⟩ := inL_nat (c := 2) (k := 2) (by decide) (by decide) (kSetg_0 hK)
  obtain ⟨rfl, rfl⟩ := hp
  refine ⟨?_, rl_same hS, rfl⟩
  unfold hSgOf
  rw [if_pos (show isG 3 (nI w) from isG_nI (n := 3) (by decide) (by omega)), hR.2.1.2.1]
theorem cmd_come (bb a9 hh w9 : Int32) (hn : n ≤ 4) (hR : RelN n x yn) (hS : RelL ((z, f), (ct, L), ((sc, pf, bf), y0), y1, (nw, x), (o0, o1)) ((rf, nI z, nI ct, sp, ou), f, (yn, yt, y3), di, ke, ik)) (h1 : lawP (kCome n bb a9 hh w9) (fun (r : Int32) (u : BS) => r = (if okC n bb a9 hh w9 then nI n else -1) ∧ ∃ (c2 : Nat) (L2 : List HQ), (c2 ≤ L2.length ∧ L2.length ≤ 14 ∧ memo c2 L2 = pushM (memo ct L) x) ∧ u = ((z, f), (c2, L2), ((sc, pf, bf), y0), y1, (nw, (hAdm n bb a9 hh w9 x)), (o0, o1))) fo ((z, f), (ct, L), ((sc, pf, bf), y0), y1, (nw, x), (o0, o1)) k u1) (h2 : mPost (kCome n bb a9 hh w9) r (nI n) u2 (((0, (nI z), nI (mAc ct), sp, ou), f, ((hCome n bb a9 hh w9 yn), yt, y3), (mRem ct yn di), ke, ik)) ((rf, (nI z), nI ct, sp, ou), f, (yn, yt, y3), di, ke, ik)) : u2.1.1 = k ∧ (k = 0 → u1.1 0 = r.toInt64) ∧ RelL u1.2 u2 := by
  refine st_gen hS h1 h2 (fun r1 u hK hp => ?_)
  obtain ⟨rfl, c2, L2, hm, rfl⟩ := hp
  have hc := kCome_0 hK
  have hx : RelX (hAdm n bb a9 hh w9 x) (hCome n bb a9 hh w9 yn) := by
    unfold hAdm
    rw [if_pos hc]
    exact ⟨n + 1, hc.2.2.2.2, relN_come hR hc.1 hc.2.1 hc.2.2.1⟩
  exact ⟨if_pos hc, rl_push hS hm hx, rfl⟩
theorem cmd_leave (g : Int32) (hn : n ≤ 4) (hR : RelN n x yn) (hS : RelL ((z, f), (ct, L), ((sc, pf, bf), y0), y1, (nw, x), (o0, o1)) ((rf, nI z, nI ct, sp, ou), f, (yn, yt, y3), di, ke, ik)) (h1 : lawP (kG (nI n) g) (fun (r : Int32) (u : BS) => r = hGr x g ∧ ∃ (c2 : Nat) (L2 : List HQ), (c2 ≤ L2.length ∧ L2.length ≤ 14 ∧ memo c2 L2 = pushM (memo ct L) x) ∧ u = ((z, f), (c2, L2), ((sc, pf, bf), y0), y1, (nw, (hLeave n x g)), (o0, o1))) fo ((z, f), (ct, L), ((sc, pf, bf), y0), y1, (nw, x), (o0, o1)) k u1) (h2 : mPost (kG (nI n) g) r (yn.2.2.2.2.2.2.2.1 g.toNatClampNeg) u2 (((0, (nI z), nI (mAc ct), sp, ou), f, ((hDis n g.toNatClampNeg yn), yt, y3), (mRem ct yn di), ke, ik)) ((rf, (nI z), nI ct, sp, ou), f, (yn, yt, y3), di, ke, ik)) : u2.1.1 = k ∧ (k = 0 → u1.1 0 = r.toInt64) ∧ RelL u1.2 u2 := by
  refine st_gen hS h1 h2 (fun r1 u hK hp => ?_)
  obtain ⟨j, hj, rfl⟩ := isG_of hn (kG_0 hK)
  obtain ⟨rfl, c2, L2, hm, rfl⟩ := hp
  rw [nI_clamp (show j < 2 ^ 31 by omega)]
  exact ⟨gr_at hn hR hj, rl_push hS hm (relX_dis hn hR hj), rfl⟩
theorem cmd_press (g : Int32) (hn : n ≤ 4) (hR : RelN n x yn) (hS : RelL ((z, f), (ct, L), ((sc, pf, bf), y0), y1, (nw, x), (o0, o1)) ((rf, nI z, nI ct, sp, ou), f, (yn, yt, y3), di, ke, ik)) (h1 : lawP (kG (nI n) g) (fun (r : Int32) (u : BS) => r = hReas x g ∧ ∃ (c2 : Nat) (L2 : List HQ), (c2 ≤ L2.length ∧ L2.length ≤ 14 ∧ memo c2 L2 = pushM (memo ct L) x) ∧ u = ((z, f), (c2, L2), ((sc, pf, bf), y0), y1, (nw, (hPress n x g)), (o0, o1))) fo ((z, f), (ct, L), ((sc, pf, bf), y0), y1, (nw, x), (o0, o1)) k u1) (h2 : mPost (kG (nI n) g) r ((vReas yn.1.2.1 yn.2.1 yn.2.2.1 yn.2.2.2.2.2.2.1 yn.2.2.2.2.2.2.2.1 g.toNatClampNeg)) u2 (((0, (nI z), nI (mAc ct), sp, ou), f, ((mPress n g.toNatClampNeg yn), yt, y3), (mRem ct yn di), ke, ik)) ((rf, (nI z), nI ct, sp, ou), f, (yn, yt, y3), di, ke, ik)) : u2.1.1 = k ∧ (k = 0 → u1.1 0 = r.toInt64) ∧ RelL u1.2 u2 := by
  refine st_gen hS h1 h2 (fun r1 u hK hp => ?_)
  obtain ⟨j, hj, rfl⟩ := isG_of hn (kG_0 hK)
  obtain ⟨rfl, c2, L2, hm, rfl⟩ := hp
  rw [nI_clamp (show j < 2 ^ 31 by omega)]
  exact ⟨(rel_reas hn hR hj).symm, rl_push hS hm (relX_press hn hR hj), rfl⟩
theorem cmd_set (w9 v : Int32) (hn : n ≤ 4) (hR : RelN n x yn) (hS : RelL ((z, f), (ct, L), ((sc, pf, bf), y0), y1, (nw, x), (o0, o1)) ((rf, nI z, nI ct, sp, ou), f, (yn, yt, y3), di, ke, ik)) (h1 : lawP (kSet w9 v) (fun (r : Int32) (u : BS) => r = hSetR x w9 v ∧ ∃ (c2 : Nat) (L2 : List HQ), (c2 ≤ L2.length ∧ L2.length ≤ 14 ∧ memo c2 L2 = pushM (memo ct L) x) ∧ u = ((z, f), (c2, L2), ((sc, pf, bf), y0), y1, (nw, (hSet w9 v x)), (o0, o1))) fo ((z, f), (ct, L), ((sc, pf, bf), y0), y1, (nw, x), (o0, o1)) k u1) (h2 : mPost (kSet w9 v) r (yn.2.1 w9.toNatClampNeg) u2 (((0, (nI z), nI (mAc ct), sp, ou), f, ((mSetV w9 v yn), yt, y3), (mRem ct yn di), ke, ik)) ((rf, (nI z), nI ct, sp, ou), f, (yn, yt, y3), di, ke, ik)) : u2.1.1 = k ∧ (k = 0 → u1.1 0 = r.toInt64) ∧ RelL u1.2 u2 := by
  refine st_gen hS h1 h2 (fun r1 u hK hp => ?_)
  obtain ⟨rfl, c2, L2, hm, rfl⟩ := hp
  have hv := kSet_0 hK
  refine ⟨?_, rl_push hS hm (relX_set hn hR hv), rfl⟩
  unfold hSetR
  rw [if_pos hv, hR.2.1.2.1]
theorem cmd_undo  (hn : n ≤ 4) (hR : RelN n x yn) (hS : RelL ((z, f), (ct, L), ((sc, pf, bf), y0), y1, (nw, x), (o0, o1)) ((rf, nI z, nI ct, sp, ou), f, (yn, yt, y3), di, ke, ik)) (h1 : lawP (kUndo ct) (fun (r : Int32) (u : BS) => r = nI (ct - 1) ∧ ∃ y : HS, memo ct L = memo (ct - 1) L ++ [y] ∧ u = ((z, f), (ct - 1, L), ((sc, pf, bf), y0), y1, (nw, y), (o0, o1))) fo ((z, f), (ct, L), ((sc, pf, bf), y0), y1, (nw, x), (o0, o1)) k u1) (h2 : mPost (kUndo ct) r (nI (ct - 1)) u2 (((0, (nI z), nI (ct - 1), sp, ou), f, ((di (ct - 1)), yt, y3), di, ke, ik)) ((rf, (nI z), nI ct, sp, ou), f, (yn, yt, y3), di, ke, ik)) : u2.1.1 = k ∧ (k = 0 → u1.1 0 = r.toInt64) ∧ RelL u1.2 u2 := by
  refine st_gen hS h1 h2 (fun r1 u hK hp => ?_)
  obtain ⟨rfl, y, hm, rfl⟩ := hp
  have hc := kUndo_0 hK
  obtain ⟨a1, a2, ⟨b1, b2, b3, b4⟩, a4⟩ := hS
  have b1 : ct ≤ L.length := b1
  have hl : (memo (ct - 1) L).length = ct - 1 := memo_l2 (by omega)
  refine ⟨rfl, ⟨b4 (ct - 1) y ?_, a2, ⟨show ct - 1 ≤ L.length by omega, b2, rfl, fun k9 x9 h9 => b4 k9 x9 ?_⟩, a4⟩, rfl⟩
  · show (memo ct L)[ct - 1]? = some y
    rw [hm, List.getElem?_append_right (by rw [hl]; exact Nat.le_refl _), hl, Nat.sub_self]
    rfl
  · show (memo ct L)[k9]? = some x9
    rw [hm, List.getElem?_append_left (List.getElem?_eq_some_iff.mp h9).1]
    exact h9
theorem cmd_why (g : Int32) (hn : n ≤ 4) (hR : RelN n x yn) (hS : RelL ((z, f), (ct, L), ((sc, pf, bf), y0), y1, (nw, x), (o0, o1)) ((rf, nI z, nI ct, sp, ou), f, (yn, yt, y3), di, ke, ik)) (h1 : lawP (kG (nI n) g) (fun (r : Int32) (u : BS) => r = hReas x g ∧ u = ((z, f), (ct, L), ((sc, pf, bf), y0), y1, (nw, x), (o0, o1))) fo ((z, f), (ct, L), ((sc, pf, bf), y0), y1, (nw, x), (o0, o1)) k u1) (h2 : mPost (kG (nI n) g) r ((vReas yn.1.2.1 yn.2.1 yn.2.2.1 yn.2.2.2.2.2.2.1 yn.2.2.2.2.2.2.2.1 g.toNatClampNeg)) u2 (((0, (nI z), (nI ct), sp, ou), f, (yn, yt, y3), di, ke, ik)) ((rf, (nI z), (nI ct), sp, ou), f, (yn, yt, y3), di, ke, ik)) : u2.1.1 = k ∧ (k = 0 → u1.1 0 = r.toInt64) ∧ RelL u1.2 u2 := by
  refine st_gen hS h1 h2 (fun r1 u hK hp => ?_)
  obtain ⟨j, hj, rfl⟩ := isG_of hn (kG_0 hK)
  obtain ⟨rfl, rfl⟩ := hp
  rw [nI_clamp (show j < 2 ^ 31 by omega)]
  exact ⟨(rel_reas hn hR hj).symm, rl_same hS, rfl⟩
theorem cmd_fewest (v : Int32) (hn : n ≤ 4) (hR : RelN n x yn) (hS : RelL ((z, f), (ct, L), ((sc, pf, bf), y0), y1, (nw, x), (o0, o1)) ((rf, nI z, nI ct, sp, ou), f, (yn, yt, y3), di, ke, ik)) (h1 : lawP (kFew v) (fun (r : Int32) (u : BS) => r = hFew n x ∧ ∃ q9, u = ((z, f), (ct, L), q9, y1, (nw, x), (o0, o1))) fo ((z, f), (ct, L), ((sc, pf, bf), y0), y1, (nw, x), (o0, o1)) k u1) (h2 : mPost (kFew v) r (hFew n x) u2 (((0, (nI z), (nI ct), sp, ou), f, (yn, yt, u2.2.2.1.2.2), di, ke, ik)) ((rf, (nI z), (nI ct), sp, ou), f, (yn, yt, y3), di, ke, ik)) : u2.1.1 = k ∧ (k = 0 → u1.1 0 = r.toInt64) ∧ RelL u1.2 u2 := by
  refine st_gen hS h1 h2 (fun r1 u hK hp => ?_)
  obtain ⟨rfl, q9, rfl⟩ := hp
  exact ⟨rfl, rl_same hS, rfl⟩
theorem cmd_ifPressed (v row9 what : Int32) (hn : n ≤ 4) (hR : RelN n x yn) (hS : RelL ((z, f), (ct, L), ((sc, pf, bf), y0), y1, (nw, x), (o0, o1)) ((rf, nI z, nI ct, sp, ou), f, (yn, yt, y3), di, ke, ik)) (h1 : lawP (kIfp v row9 what) (fun (r : Int32) (u : BS) => r = vIfp n x (lpN (sPrC n v.toNatClampNeg row9.toNatClampNeg) v.toNatClampNeg 0 x) what ∧ ∃ y9, u = ((z, f), (ct, L), ((sc, pf, bf), y0), y9, (nw, x), (o0, o1))) fo ((z, f), (ct, L), ((sc, pf, bf), y0), y1, (nw, x), (o0, o1)) k u1) (h2 : mPost (kIfp v row9 what) r (vIfp n x (lpN (sPr v.toNatClampNeg row9.toNatClampNeg) v.toNatClampNeg 0 x) what) u2 (((0, (nI z), (nI ct), sp, ou), f, (yn, u2.2.2.1.2.1, y3), di, ke, ik)) ((rf, (nI z), (nI ct), sp, ou), f, (yn, yt, y3), di, ke, ik)) : u2.1.1 = k ∧ (k = 0 → u1.1 0 = r.toInt64) ∧ RelL u1.2 u2 := by
  refine st_gen hS h1 h2 (fun r1 u hK hp => ?_)
  obtain ⟨rfl, q9, rfl⟩ := hp
  exact ⟨ifp_same (relN_hN hn hR), rl_same hS, rfl⟩
theorem cmd_leftStanding (g : Int32) (hn : n ≤ 4) (hR : RelN n x yn) (hS : RelL ((z, f), (ct, L), ((sc, pf, bf), y0), y1, (nw, x), (o0, o1)) ((rf, nI z, nI ct, sp, ou), f, (yn, yt, y3), di, ke, ik)) (h1 : lawP (kG (nI n) g) (fun (r : Int32) (u : BS) => r = hStandR n x g ∧ u = ((z, f), (ct, L), ((sc, pf, bf), y0), (hStand n x g), (nw, x), (o0, o1))) fo ((z, f), (ct, L), ((sc, pf, bf), y0), y1, (nw, x), (o0, o1)) k u1) (h2 : mPost (kG (nI n) g) r (hStandR n x g) u2 (((0, (nI z), (nI ct), sp, ou), f, (yn, u2.2.2.1.2.1, y3), di, ke, ik)) ((rf, (nI z), (nI ct), sp, ou), f, (yn, yt, y3), di, ke, ik)) : u2.1.1 = k ∧ (k = 0 → u1.1 0 = r.toInt64) ∧ RelL u1.2 u2 := by
  refine st_gen hS h1 h2 (fun r1 u hK hp => ?_)
  obtain ⟨rfl, rfl⟩ := hp
  exact ⟨rfl, rl_same hS, rfl⟩
theorem cmd_runScript (v : Int32) (s9 : Int64) (hn : n ≤ 4) (hR : RelN n x yn) (hS : RelL ((z, f), (ct, L), ((sc, pf, bf), y0), y1, (nw, x), (o0, o1)) ((rf, nI z, nI ct, sp, ou), f, (yn, yt, y3), di, ke, ik)) (h1 : lawP (kRun v s9) (fun (r : Int32) (u : BS) => r = vRun v s9 x ∧ ∃ y9, u = ((z, f), (ct, L), ((sc, pf, bf), y0), y9, (nw, x), (o0, o1))) fo ((z, f), (ct, L), ((sc, pf, bf), y0), y1, (nw, x), (o0, o1)) k u1) (h2 : mPost (kRun v s9) r (vRun v s9 x) u2 (((0, (nI z), (nI ct), sp, ou), f, (yn, u2.2.2.1.2.1, y3), di, ke, ik)) ((rf, (nI z), (nI ct), sp, ou), f, (yn, yt, y3), di, ke, ik)) : u2.1.1 = k ∧ (k = 0 → u1.1 0 = r.toInt64) ∧ RelL u1.2 u2 := by
  refine st_gen hS h1 h2 (fun r1 u hK hp => ?_)
  obtain ⟨rfl, q9, rfl⟩ := hp
  exact ⟨rfl, rl_same hS, rfl⟩
theorem cmd_simulate (seed : Int64) (v : Int32) (hn : n ≤ 4) (hR : RelN n x yn) (hS : RelL ((z, f), (ct, L), ((sc, pf, bf), y0), y1, (nw, x), (o0, o1)) ((rf, nI z, nI ct, sp, ou), f, (yn, yt, y3), di, ke, ik)) (h1 : lawP (kSim v) (fun (r : Int32) (u : BS) => r = vSim x (lpN sSim v.toNatClampNeg 0 (seed, x)).2 ∧ ∃ y9, u = ((z, f), (ct, L), ((sc, pf, bf), y0), y9, (nw, x), (o0, o1))) fo ((z, f), (ct, L), ((sc, pf, bf), y0), y1, (nw, x), (o0, o1)) k u1) (h2 : mPost (kSim v) r (vSim x (lpN sSim v.toNatClampNeg 0 (seed, x)).2) u2 (((0, (nI z), (nI ct), sp, ou), f, (yn, u2.2.2.1.2.1, y3), di, ke, ik)) ((rf, (nI z), (nI ct), sp, ou), f, (yn, yt, y3), di, ke, ik)) : u2.1.1 = k ∧ (k = 0 → u1.1 0 = r.toInt64) ∧ RelL u1.2 u2 := by
  refine st_gen hS h1 h2 (fun r1 u hK hp => ?_)
  obtain ⟨rfl, q9, rfl⟩ := hp
  exact ⟨rfl, rl_same hS, rfl⟩
theorem cmd_save (v : Int32) (hn : n ≤ 4) (hR : RelN n x yn) (hS : RelL ((z, f), (ct, L), ((sc, pf, bf), y0), y1, (nw, x), (o0, o1)) ((rf, nI z, nI ct, sp, ou), f, (yn, yt, y3), di, ke, ik)) (h1 : lawP (kSave v) (fun (r : Int32) (u : BS) => r = x.1.2.2.1 ∧ ∃ qa : Nat → Nat, u.2.2.2.2.2 = (if v = 0 then (some (qa, x), o1) else (o0, some (qa, x))) ∧ u = ((z, f), (ct, L), ((sc, pf, bf), y0), y1, (nw, x), (u.2.2.2.2.2.1, u.2.2.2.2.2.2))) fo ((z, f), (ct, L), ((sc, pf, bf), y0), y1, (nw, x), (o0, o1)) k u1) (h2 : mPost (kSave v) r (yn.1.2.2.1) u2 (((0, (nI z), (nI ct), sp, ou), f, (yn, yt, y3), di, (va_up ke v.toNatClampNeg yn), (upd ik v.toNatClampNeg 1))) ((rf, (nI z), (nI ct), sp, ou), f, (yn, yt, y3), di, ke, ik)) : u2.1.1 = k ∧ (k = 0 → u1.1 0 = r.toInt64) ∧ RelL u1.2 u2 := by
  refine st_gen hS h1 h2 (fun r1 u hK hp => ?_)
  obtain ⟨rfl, qa, e, e2⟩ := hp
  obtain ⟨a1, a2, a3, a4, a5⟩ := hS
  refine ⟨by rw [hR.2.1.1], ?_, rfl⟩
  rw [e2, e]
  rcases kSave_0 hK with rfl | rfl
  · rw [if_pos (show nI 0 = 0 by decide)]
    rw [nI_clamp (show 0 < 2 ^ 31 by decide)]
    exact ⟨a1, a2, a3, Or.inr ⟨(qa, x), rfl, (show ¬ (1 : Int32) = 0 by decide), a1⟩, a5⟩
  · rw [if_neg (show ¬ nI 1 = 0 by decide)]
    rw [nI_clamp (show 1 < 2 ^ 31 by decide)]
    exact ⟨a1, a2, a3, a4, Or.inr ⟨(qa, x), rfl, (show ¬ (1 : Int32) = 0 by decide), a1⟩⟩
theorem cmd_restore (v : Int32) (hn : n ≤ 4) (hR : RelN n x yn) (hS : RelL ((z, f), (ct, L), ((sc, pf, bf), y0), y1, (nw, x), (o0, o1)) ((rf, nI z, nI ct, sp, ou), f, (yn, yt, y3), di, ke, ik)) (h1 : lawP (kRst o0 o1 v) (fun (r : Int32) (u : BS) => ∃ q : HQ, (if v = 0 then o0 else o1) = some q ∧ r = q.2.1.2.2.1 ∧ u = ((z, f), (0, L), ((sc, pf, bf), y0), y1, (nw, q.2), (o0, o1))) fo ((z, f), (ct, L), ((sc, pf, bf), y0), y1, (nw, x), (o0, o1)) k u1) (h2 : mPost (kRest ik v) r ((ke v.toNatClampNeg).1.2.2.1) u2 (((0, (nI z), 0, sp, ou), f, ((ke v.toNatClampNeg), yt, y3), di, ke, ik)) ((rf, (nI z), (nI ct), sp, ou), f, (yn, yt, y3), di, ke, ik)) : u2.1.1 = k ∧ (k = 0 → u1.1 0 = r.toInt64) ∧ RelL u1.2 u2 := by
  have hKK : kRest ik v = kRst o0 o1 v := by
    unfold kRest kRst
    by_cases c : inL v.toInt64 0 1
    · rw [if_pos c, if_pos c]
      have hv : v = nI 0 ∨ v = nI 1 := kSave_0 (by unfold kSave; rw [if_pos c])
      rcases hv with rfl | rfl
      · rw [if_pos (show nI 0 = 0 by decide)]
        exact rst_k hS.2.2.2.1
      · rw [if_neg (show ¬ nI 1 = 0 by decide)]
        exact rst_k hS.2.2.2.2
    · rw [if_neg c, if_neg c]
  rw [hKK] at h2
  refine st_gen hS h1 h2 (fun r1 u hK hp => ?_)
  obtain ⟨q, hq, rfl, rfl⟩ := hp
  obtain ⟨a1, a2, ⟨b1, b2, b3, b4⟩, a4, a5⟩ := hS
  have hx : RelX q.2 (ke v.toNatClampNeg) := by
    have hv : v = nI 0 ∨ v = nI 1 := kSave_0 (by
      unfold kSave
      unfold kRst at hK
      by_cases c : inL v.toInt64 0 1
      · rw [if_pos c]
      · rw [if_neg c] at hK; exact absurd hK (by decide))
    rcases hv with rfl | rfl
    · rw [if_pos (show nI 0 = 0 by decide)] at hq
      exact rst_x a4 hq
    · rw [if_neg (show ¬ nI 1 = 0 by decide)] at hq
      exact rst_x a5 hq
  refine ⟨?_, ⟨hx, a2, ⟨Nat.zero_le _, b2, rfl, relM_0⟩, a4, a5⟩, rfl⟩
  obtain ⟨n9, hn9, hR9⟩ := hx
  rw [hR9.2.1.1]
theorem cmd_load  (hn : n ≤ 4) (hR : RelN n x yn) (hS : RelL ((z, f), (ct, L), ((sc, pf, bf), y0), y1, (nw, x), (o0, o1)) ((rf, nI z, nI ct, sp, ou), f, (yn, yt, y3), di, ke, ik)) (h1 : lawP (kLoad z f) (fun (r : Int32) (u : BS) => r = (vLd z f).1 ∧ ∃ q9 nw2, u = ((z, f), (0, L), q9, y1, (nw2, (vLd z f).2), (none, none))) fo ((z, f), (ct, L), ((sc, pf, bf), y0), y1, (nw, x), (o0, o1)) k u1) (h2 : LdP z f r u2 ((0, nI z, 0, u2.1.2.2.2.1, u2.1.2.2.2.2), f, (u2.2.2.1.1, u2.2.2.1.2.1, u2.2.2.1.2.2), di, ke, (upd (upd ik 0 0) 1 0)) ((1, nI z, (nI ct), u2.1.2.2.2.1, u2.1.2.2.2.2), f, (yn, u2.2.2.1.2.1, u2.2.2.1.2.2), di, ke, ik)) : u2.1.1 = k ∧ (k = 0 → u1.1 0 = r.toInt64) ∧ RelL u1.2 u2 := by
  have h3 : mPost (kLoad z f) r (vLd z f).1 u2 ((0, nI z, 0, u2.1.2.2.2.1, u2.1.2.2.2.2), f, (u2.2.2.1.1, u2.2.2.1.2.1, u2.2.2.1.2.2), di, ke, (upd (upd ik 0 0) 1 0)) ((rf, nI z, nI ct, u2.1.2.2.2.1, u2.1.2.2.2.2), f, (yn, u2.2.2.1.2.1, u2.2.2.1.2.2), di, ke, ik) := by
    unfold kLoad
    rcases h2 with ⟨c, e, -, e2⟩ | ⟨c, e, e2⟩
    · rw [if_pos c]; exact Or.inl ⟨rfl, e, e2⟩
    · rw [if_neg c]; exact Or.inr ⟨by decide, e, e2⟩
  refine st_gen (rl_same hS) h1 h3 (fun r1 u hK hp => ?_)
  obtain ⟨rfl, q9, nw2, rfl⟩ := hp
  obtain ⟨a1, a2, ⟨b1, b2, b3, b4⟩, a4⟩ := hS
  refine ⟨rfl, ⟨?_, a2, ⟨Nat.zero_le _, b2, rfl, relM_0⟩, Or.inl ⟨rfl, rfl⟩, Or.inl ⟨rfl, rfl⟩⟩, rfl⟩
  rcases h2 with ⟨-, -, hx, -⟩ | ⟨hx, -⟩
  · exact hx
  · unfold kLoad at hK; rw [if_neg hx] at hK; exact absurd hK (by decide)
theorem cmd_clearText {r1 : Int32} {u : BS} (hn : n ≤ 4) (hR : RelN n x yn) (hS : RelL ((z, f), (ct, L), ((sc, pf, bf), y0), y1, (nw, x), (o0, o1)) ((rf, nI z, nI ct, sp, ou), f, (yn, yt, y3), di, ke, ik)) (h1 : r1 = nI z ∧ u = ((0, f), (ct, L), ((sc, pf, bf), y0), y1, (nw, x), (o0, o1))) (h2 : r = (nI z) ∧ u2 = ((0, 0, (nI ct), sp, ou), f, (yn, yt, y3), di, ke, ik)) : r1 = r ∧ RelL u u2 := by
  obtain ⟨rfl, rfl⟩ := h1
  obtain ⟨rfl, rfl⟩ := h2
  obtain ⟨a1, a2, a3, a4⟩ := hS
  exact ⟨rfl, a1, ⟨rfl, rfl, Nat.zero_le _, fun j hj => absurd hj (Nat.not_lt_zero _)⟩, a3, a4⟩
theorem cmd_errorPosition {r1 : Int32} {u : BS} (hn : n ≤ 4) (hR : RelN n x yn) (hS : RelL ((z, f), (ct, L), ((sc, pf, bf), y0), y1, (nw, x), (o0, o1)) ((rf, nI z, nI ct, sp, ou), f, (yn, yt, y3), di, ke, ik)) (h1 : r1 = vErr z f ∧ u = ((z, f), (ct, L), ((sc, pf, bf), y0), y1, (nw, x), (o0, o1))) (h2 : r = vErr z f ∧ u2 = ((0, nI z, (nI ct), u2.1.2.2.2.1, u2.1.2.2.2.2), f, (yn, u2.2.2.1.2.1, u2.2.2.1.2.2), di, ke, ik)) : r1 = r ∧ RelL u u2 := by
  obtain ⟨rfl, rfl⟩ := h1
  obtain ⟨h2, e⟩ := h2
  refine ⟨h2.symm, ?_⟩
  rw [e]
  exact rl_same hS
theorem cmd_rest {r1 : Int32} {u : BS} (hn : n ≤ 4) (hR : RelN n x yn) (hS : RelL ((z, f), (ct, L), ((sc, pf, bf), y0), y1, (nw, x), (o0, o1)) ((rf, nI z, nI ct, sp, ou), f, (yn, yt, y3), di, ke, ik)) (h1 : r1 = hAG n (hRest n x) ∧ ∃ (c2 : Nat) (L2 : List HQ), (c2 ≤ L2.length ∧ L2.length ≤ 14 ∧ memo c2 L2 = pushM (memo ct L) x) ∧ u = ((z, f), (c2, L2), ((sc, pf, bf), y0), y1, (nw, (hRest n x)), (o0, o1))) (h2 : r = hAG n (mRest n yn) ∧ u2 = ((0, (nI z), nI (mAc ct), sp, ou), f, ((mRest n yn), yt, y3), (mRem ct yn di), ke, ik)) : r1 = r ∧ RelL u u2 := by
  obtain ⟨rfl, c2, L2, hm, rfl⟩ := h1
  obtain ⟨rfl, rfl⟩ := h2
  exact ⟨(rel_ag (relN_rest hR).2.1).symm, rl_push hS hm ⟨n, hn, relN_rest hR⟩⟩
theorem cmd_best {r1 : Int32} {u : BS} (hn : n ≤ 4) (hR : RelN n x yn) (hS : RelL ((z, f), (ct, L), ((sc, pf, bf), y0), y1, (nw, x), (o0, o1)) ((rf, nI z, nI ct, sp, ou), f, (yn, yt, y3), di, ke, ik)) (h1 : r1 = hBst n x ∧ ∃ q9, u = ((z, f), (ct, L), q9, y1, (nw, x), (o0, o1))) (h2 : r = hBst n x ∧ u2 = ((0, (nI z), (nI ct), sp, ou), f, (yn, yt, u2.2.2.1.2.2), di, ke, ik)) : r1 = r ∧ RelL u u2 := by
  obtain ⟨rfl, q9, rfl⟩ := h1
  obtain ⟨h2, e⟩ := h2
  refine ⟨h2.symm, ?_⟩
  rw [e]
  exact rl_same hS
end CMD
