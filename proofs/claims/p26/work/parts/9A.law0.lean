/-! THE CLAIM OUT OF ONE WALK OF THE LAW'S BODY. Your part is whole_start (and what it stands on); all else here is the same for every law, but numbers. -/
def R_law : String := "ButtonGuestsLaw"
def lw_P (b : Addr) (xs : List Int32) (args : Array Value) (s : State) : Prop := args = #[.ref b] ∧ s.IntsAt b xs ∧ xs.length ≤ 260 ∧ (Jvm.Cond.and given_1 narrow_1).before args s = true
def lw_Q (_ : Array Value) (s : State) (o : Outcome) (t : State) : Prop := o = .returned (some (.int 1)) ∧ Framed s o t [] 678137 7067214
def lw_Z (below : List Frame) (a : Array Value) (s : State) : State → Prop := fun t => ∃ o, t.status = .running ∧ Ended t below o ∧ lw_Q a s o t
/-- the law's own end, with 1 on the stack, nothing written that was there before, its room as the claim has it -/
theorem lw_ret {p : Program} {l : Launch} {e : Env} {s : State} {m : MethodId} {below : List Frame} {meth : Method} {c : Code} {b : Nat} (hx : p.tables.exec = Jvm.exec) (hb : c.code = code) (hr : meth.sig.returnType = ret) (hlocks : meth.locks = false) {pc : Nat} {H : Heap} {ls : Array Slot} (hdg : decode code pc = .ok (.ireturn, 1)) : W p l e room_1 s m #[Value.ref b] below meth c H [] 678137 7067214 (lw_Z below #[Value.ref b] s) (F0 m pc ls [.int 1]) := by
  intro T hT X
  obtain ⟨fs, hret, hrun, hended, hW, hframe⟩ := X.leave (v := some (.int 1)) (hlocks := hlocks) (fun h => by rw [hr] at h; cases h)
  have hmeth' : T.vm.method? m = some meth := X.method'
  refine ⟨T.setFrames fs, ?_, .returned (some (.int 1)), hrun, hended, rfl, ⟨_, rfl⟩, hW, hframe⟩
  jvm_step X.here [X.here.top, hx, hb, hdg, hmeth', hr, ret, narrow_b1]
  (try refine ⟨rfl, ?_⟩); (try refine ⟨rfl, ?_⟩)
  first | (intro acts; rw [hret _ acts rfl rfl rfl]) | rw [hret _ _ rfl rfl rfl]
  exact Steps.refl _
/-- what holds at the law's entry: the machine, the code, the tables' words (any of lw_tbl by 'hts w (by decide +kernel)'), the script of L ints xs at the cell b, what the Statement gives of the start (any of its parts by flat_of_before) -/
def lw_At (p : Program) (s : State) (m : MethodId) (meth : Method) (c : Code) (b L : Nat) (xs : Nat → Int32) : Prop :=
  p.tables.exec = Jvm.exec ∧ c.code = code ∧ meth.sig.returnType = ret ∧ c.maxLocals = 9 ∧ s.vm.findClass R_law = some m.cls ∧ (∀ w ∈ lw_tbl, w.before #[Value.ref b] s = true) ∧ va_X b L xs s s.heap ∧ b < s.heap.size ∧ meth.locks = false ∧ (Jvm.Cond.and given_1 narrow_1).before #[Value.ref b] s = true
abbrev lwA (s : State) : Nat → Prop := fun q => s.heap.size ≤ q
/-! the law: what is known at its entry, its loop, its start -/
section KN
variable {s : State} {args : Array Value}
theorem kn_int (h : (Cond.arrayClass .int).before args s = true) : ∃ cA, ArrOfT s cA .int ∧ va_RA s cA .int := by
  obtain ⟨c, k, comp, h1, h2, h3⟩ := Cond.arrayClass_spec h
  exact ⟨c, fun n z => ⟨fun k h => (by cases h), k, h2, comp, h3⟩, h1⟩
theorem kn_char (h : (Cond.arrayClass .char).before args s = true) : ∃ cA, ArrOfT s cA .char ∧ va_RA s cA .char := by
  obtain ⟨c, k, comp, h1, h2, h3⟩ := Cond.arrayClass_spec h
  exact ⟨c, fun n z => ⟨fun k h => (by cases h), k, h2, comp, h3⟩, h1⟩
theorem kn_ref {C : String} (h : (Cond.arrayOver (.object C)).before args s = true) : ∃ cA, ArrOfT s cA (.object C) ∧ va_RA s cA (.object C) := by
  obtain ⟨comp, c, k, h1, h2, h3, h4, h5⟩ := Cond.arrayOver_spec h
  exact ⟨c, fun n z => ⟨fun k h => (by cases h), k, h3, comp, h4⟩, k, comp, h3, h4, h1, h5⟩
end KN
theorem hfs_X7 : ∀ j, j < 6 → defaultValue (tyX7 j) = vp_V [.null, .null, .null, .null, .null, .null] j := fun j hj => by
  rcases (show j = 0 ∨ j = 1 ∨ j = 2 ∨ j = 3 ∨ j = 4 ∨ j = 5 by omega) with rfl | rfl | rfl | rfl | rfl | rfl <;> rfl
set_option maxHeartbeats 4000000 in
set_option maxRecDepth 100000 in
/-- what of the start the class' methods carry along -/
theorem law_Gl {p : Program} {s : State} {m : MethodId} {meth : Method} {c : Code} {sb Ls : Nat} {xs : Nat → Int32} (C0 : lw_At p s m meth c sb Ls xs) : Gl (lwA s) s := by
  obtain ⟨hx, hb, hr, hml, hown, hts, hXs, hbl, hlocks, hgv⟩ := C0
  have hs := flat_of_before _ hgv
  have hA : ∀ a : Nat, a < s.heap.size → ¬ lwA s a := fun _ h => Nat.not_le.mpr h
  obtain ⟨t1, ht1, hT1⟩ := va_Tof (tm := .static RX1 "LEAST_VALUE" "[I") (ty := .int) (N := 3) (f := fun j => .int (fLe j)) (A := lwA s) (by decide) (hs (.arrayOf (.static RX1 "LEAST_VALUE" "[I") .int) (by decide +kernel)) (Cond.eq_int (hs (.eq (.length (.static RX1 "LEAST_VALUE" "[I")) (.int 3)) (by decide +kernel)) rfl) (fun j hj => by
    rcases (show j = 0 ∨ j = 1 ∨ j = 2 by omega) with rfl | rfl | rfl
    · exact Cond.eq_int (hs (.eq (.elem (.static RX1 "LEAST_VALUE" "[I") (.int 0)) (.int 4)) (by decide +kernel)) rfl
    · exact Cond.eq_int (hs (.eq (.elem (.static RX1 "LEAST_VALUE" "[I") (.int 1)) (.int 1)) (by decide +kernel)) rfl
    · exact Cond.eq_int (hs (.eq (.elem (.static RX1 "LEAST_VALUE" "[I") (.int 2)) (.int 1)) (by decide +kernel)) rfl) hA
  obtain ⟨t2, ht2, hT2⟩ := va_Tof (tm := .static RX1 "GREATEST_VALUE" "[I") (ty := .int) (N := 3) (f := fun j => .int (fGr j)) (A := lwA s) (by decide) (hs (.arrayOf (.static RX1 "GREATEST_VALUE" "[I") .int) (by decide +kernel)) (Cond.eq_int (hs (.eq (.length (.static RX1 "GREATEST_VALUE" "[I")) (.int 3)) (by decide +kernel)) rfl) (fun j hj => by
    rcases (show j = 0 ∨ j = 1 ∨ j = 2 by omega) with rfl | rfl | rfl
    · exact Cond.eq_int (hs (.eq (.elem (.static RX1 "GREATEST_VALUE" "[I") (.int 0)) (.int 16)) (by decide +kernel)) rfl
    · exact Cond.eq_int (hs (.eq (.elem (.static RX1 "GREATEST_VALUE" "[I") (.int 1)) (.int 9)) (by decide +kernel)) rfl
    · exact Cond.eq_int (hs (.eq (.elem (.static RX1 "GREATEST_VALUE" "[I") (.int 2)) (.int 9)) (by decide +kernel)) rfl) hA
  have hGs : Gs (lwA s) s := ⟨t1, t2, ⟨va_Zref (hts (.laysStatic RX1 "LEAST_VALUE" "[I") (by decide +kernel)) (hts (.initialized RX1) (by decide +kernel)) ht1 hA, hT1⟩, va_Zref (hts (.laysStatic RX1 "GREATEST_VALUE" "[I") (by decide +kernel)) (hts (.initialized RX1) (by decide +kernel)) ht2 hA, hT2⟩
  have hGn : Gn s := ⟨va_Nw.of rfl (hts (.methodLinkNest RX3 22 yX1_init RX7) (by decide +kernel)), va_Nw.of rfl (hts (.methodLinkNest RX5 11 yX1_init RX7) (by decide +kernel)), va_Nw.of rfl (hts (.methodLinkNest RX7 36 yX1_init RX7) (by decide +kernel)), va_Nw.of rfl (hts (.methodLinkNest RX7 9 yX2_init RX7) (by decide +kernel)), va_Nw.of rfl (hts (.methodLinkNest RX7 18 yX3_init RX7) (by decide +kernel)), va_Nw.of rfl (hts (.methodLinkNest RX7 25 yX5_init RX7) (by decide +kernel)), va_AO.of (hts (.arrayOver (.object "ButtonGuests$Hotel")) (by decide +kernel))⟩
  have hstr : ∀ q ∈ exT, Cond.stringRef RX7 q.1 q.2 ∈ lw_tbl := by decide +kernel
  have hT : ∀ q ∈ exT, ∃ a : Nat, vk_R RX7 q.1 q.2 a s := fun q hq => by
    have h := hts _ (hstr q hq)
    obtain ⟨cur, -, hcur⟩ : ∃ cur : ClassId, True ∧ s.vm.findClass RX7 = some cur := by
      obtain ⟨c9, k9, h9, -⟩ := Cond.instantiable_spec (hts (.instantiable RX7 6) (by decide +kernel))
      exact ⟨c9, trivial, h9⟩
    obtain ⟨k, cf, i, a, -, -, -, -, -, he⟩ := Cond.stringRef_spec hcur h
    exact ⟨a, vk_R.of h he⟩
  exact ⟨⟨⟨hGs, hGn⟩, ⟨vx_Zqof (hts (.laysStatic Bundle.tN "UNASSIGNED_STACK" Bundle.steD) (by decide +kernel)) (hts (.initialized Bundle.tN) (by decide +kernel)) (hs (.isRef (.static Bundle.tN "UNASSIGNED_STACK" Bundle.steD)) (by decide +kernel)) hA, vx_Zqof (hts (.laysStatic Bundle.tN "SUPPRESSED_SENTINEL" Bundle.listD) (by decide +kernel)) (hts (.initialized Bundle.tN) (by decide +kernel)) (hs (.isRef (.static Bundle.tN "SUPPRESSED_SENTINEL" Bundle.listD)) (by decide +kernel)) hA⟩, hT, va_Nw.of rfl (hts (.castable exA exA) (by decide +kernel)), va_Nw.of rfl (hts (.castable exS exS) (by decide +kernel)), va_Nw.of rfl (hts (.castable exI exI) (by decide +kernel)), va_Nw.of rfl (hts (.declares (Bundle.initS "java/lang/RuntimeException")) (by decide +kernel)), va_Nw.of rfl (hts (.declares (Bundle.initS "java/lang/Exception")) (by decide +kernel)), va_Nw.of rfl (hts (.declares (Bundle.initS Bundle.tN)) (by decide +kernel))⟩, va_Nc.of (hs (.not (.castable exA exI)) (by decide +kernel)), va_Nc.of (hs (.not (.castable exA exS)) (by decide +kernel)), va_Nc.of (hs (.not (.castable exI exA)) (by decide +kernel)), va_Nc.of (hs (.not (.castable exI exS)) (by decide +kernel)), va_Nc.of (hs (.not (.castable exS exA)) (by decide +kernel)), va_Nc.of (hs (.not (.castable exS exI)) (by decide +kernel))⟩
set_option maxHeartbeats 4000000 in
set_option maxRecDepth 100000 in
/-- the classes and the rows' classes, as they are at the law's entry -/
theorem law_K {p : Program} {s : State} {m : MethodId} {meth : Method} {c : Code} {sb Ls : Nat} {xs : Nat → Int32} (C0 : lw_At p s m meth c sb Ls xs) : ∃ (D : va_G) (cy : Nat → ClassId), va_K D vwCl (tyL cy) s := by
  obtain ⟨hx, hb, hr, hml, hown, hts, hXs, hbl, hlocks, hgv⟩ := C0
  obtain ⟨c0, i0, k0⟩ := u_known (C := RX1) (T := TX1) (N := 16) (n := 16) hts inX1 (hts (.instantiable RX1 16) (by decide +kernel))
  obtain ⟨c1, i1, k1⟩ := u_known (C := RX2) (T := TX2) (N := 2) (n := 2) hts inX2 (hts (.instantiable RX2 2) (by decide +kernel))
  obtain ⟨c2, i2, k2⟩ := u_known (C := RX3) (T := TX3) (N := 2) (n := 2) hts inX3 (hts (.instantiable RX3 2) (by decide +kernel))
  obtain ⟨c3, i3, k3⟩ := u_known (C := RX5) (T := TX5) (N := 4) (n := 4) hts inX5 (hts (.instantiable RX5 4) (by decide +kernel))
  obtain ⟨c4, i4, k4⟩ := u_known (C := RX7) (T := TX7) (N := 6) (n := 6) hts inX7 (hts (.instantiable RX7 6) (by decide +kernel))
  obtain ⟨a0, r0⟩ := kn_int (hts (.arrayClass .int) (by decide +kernel))
  obtain ⟨a1, r1⟩ := kn_char (hts (.arrayClass .char) (by decide +kernel))
  obtain ⟨a2, r2⟩ := kn_ref (hts (.arrayOver (.object "ButtonGuests$Hotel")) (by decide +kernel))
  refine ⟨(fun k => if k = 0 then c0 else if k = 1 then c1 else if k = 2 then c2 else if k = 3 then c3 else c4, fun k => if k = 0 then i0 else if k = 1 then i1 else if k = 2 then i2 else if k = 3 then i3 else i4), fun k => if k = 0 then a0 else if k = 1 then a1 else a2, ?_, ?_⟩
  · intro k q hq
    match k, hq with
    | 0, hq => cases hq; exact k0
    | 1, hq => cases hq; exact k1
    | 2, hq => cases hq; exact k2
    | 3, hq => cases hq; exact k3
    | 4, hq => cases hq; exact k4
    | k + 5, hq => simp [vwCl] at hq
  · intro k q hq
    match k, hq with
    | 0, hq => cases hq; exact r0
    | 1, hq => cases hq; exact r1
    | 2, hq => cases hq; exact r2
    | k + 3, hq => simp [tyL] at hq
