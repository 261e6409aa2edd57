/-! what the tables and the static rows say, carried along; starts of methods with a word more -/
def fLe : Nat → Int32 := fun k => if k = 0 then 4 else 1
def fGr : Nat → Int32 := fun k => if k = 0 then 16 else 9
/-- the static rows of Hotel -/
def Gs (A : Nat → Prop) (U : State) : Prop := ∃ t1 t2 : Nat, (va_Z RX1 "LEAST_VALUE" "[I" (.ref t1) A U U.heap ∧ va_T .int t1 3 (fun j => .int (fLe j)) A U U.heap) ∧ (va_Z RX1 "GREATEST_VALUE" "[I" (.ref t2) A U U.heap ∧ va_T .int t2 3 (fun j => .int (fGr j)) A U U.heap)
theorem Gs.calling {A : Nat → Prop} {U : State} {g : JFrame} {mk : MethodId} {a : Array Value} (h : Gs A U) : Gs A (U.calling g mk a) := by
  obtain ⟨t1, t2, ⟨z1, x1⟩, z2, x2⟩ := h
  exact ⟨t1, t2, ⟨va_Z.moved (u := U) (U := U.calling g mk a) (Vm.Alike.refl U.vm) z1, va_T.moved (u := U) (U := U.calling g mk a) (Vm.Alike.refl U.vm) x1⟩, va_Z.moved (u := U) (U := U.calling g mk a) (Vm.Alike.refl U.vm) z2, va_T.moved (u := U) (U := U.calling g mk a) (Vm.Alike.refl U.vm) x2⟩
theorem Gs.at {A A2 : Nat → Prop} {s U : State} {H : Heap} {locs : List Loc} (h : Gs A s) (hS : va_S A s.heap H locs) (hA : ∀ q, A2 q → A q) (hU : U.heap = H) (hW : s.WarmedH U.vm) : Gs A2 U := by
  obtain ⟨t1, t2, ⟨z1, x1⟩, z2, x2⟩ := h
  have k : ∀ a : Nat, a < s.heap.size → ¬ A a → U.heap[a]? = s.heap[a]? := fun a h1 h2 => by rw [hU]; exact hS.2.1 a h1 h2
  exact ⟨t1, t2, ⟨va_Z.narrow (va_Z.kept (va_Z.moved hW.alike z1) k) hA, va_T.narrow (va_T.kept (va_T.moved hW.alike x1) k) hA⟩, va_Z.narrow (va_Z.kept (va_Z.moved hW.alike z2) k) hA, va_T.narrow (va_T.kept (va_T.moved hW.alike x2) k) hA⟩
/-- the private constructors of nest mates, and the class of rows of hotels -/
def Gn (U : State) : Prop := va_Nw (.methodLinkNest RX3 22 yX1_init RX7) U ∧ va_Nw (.methodLinkNest RX5 11 yX1_init RX7) U ∧ va_Nw (.methodLinkNest RX7 36 yX1_init RX7) U ∧ va_Nw (.methodLinkNest RX7 9 yX2_init RX7) U ∧ va_Nw (.methodLinkNest RX7 18 yX3_init RX7) U ∧ va_Nw (.methodLinkNest RX7 25 yX5_init RX7) U ∧ va_AO "ButtonGuests$Hotel" U
theorem Gn.warm {s U : State} (hW : s.WarmedH U.vm) (h : Gn s) : Gn U := by
  obtain ⟨h1, h2, h3, h4, h5, h6, h7⟩ := h
  exact ⟨va_Nw.warmM hW h1, va_Nw.warmM hW h2, va_Nw.warmM hW h3, va_Nw.warmM hW h4, va_Nw.warmM hW h5, va_Nw.warmM hW h6, va_AO.moved hW.alike h7⟩
theorem Gn.calling {U : State} {g : JFrame} {mk : MethodId} {a : Array Value} (h : Gn U) : Gn (U.calling g mk a) := by
  obtain ⟨h1, h2, h3, h4, h5, h6, h7⟩ := h
  have e : U.vm = (U.calling g mk a).vm := rfl
  exact ⟨va_Nw.same rfl e h1, va_Nw.same rfl e h2, va_Nw.same rfl e h3, va_Nw.same rfl e h4, va_Nw.same rfl e h5, va_Nw.same rfl e h6, va_AO.moved (u := U) (U := U.calling g mk a) (Vm.Alike.refl U.vm) h7⟩
abbrev rdX (D : va_G) (cy : Nat → ClassId) (av : List Value) (ws : va_W) (X : State → Prop) : Array Value → State → Prop := va_Pc av (fun U => (va_P D vwCl ws U.heap ∧ va_K D vwCl (tyL cy) U) ∧ X U)
abbrev wrX (D : va_G) (cy : Nat → ClassId) (av : List Value) (ws : va_W) (sz : Nat) (X : State → Prop) : Array Value → State → Prop := va_Pc av (fun U => (U.heap.size = sz ∧ va_P D vwCl ws U.heap ∧ va_K D vwCl (tyL cy) U ∧ va_D (fun _ => True) ws) ∧ X U)
def Xok (X : State → Prop) : Prop := ∀ (U : State) (g : JFrame) (mk : MethodId) (a : Array Value), X U → X (U.calling g mk a)
theorem Xok_s {A : Nat → Prop} : Xok (Gs A) := fun _ _ _ _ h => h.calling
theorem Xok_n : Xok Gn := fun _ _ _ _ h => h.calling
theorem Xok_a {X Y : State → Prop} (h1 : Xok X) (h2 : Xok Y) : Xok (fun U => X U ∧ Y U) := fun U g mk a h => ⟨h1 U g mk a h.1, h2 U g mk a h.2⟩
theorem rdX_blind {D : va_G} {cy : Nat → ClassId} {av : List Value} {ws : va_W} {X : State → Prop} (hX : Xok X) : FrameBlind (rdX D cy av ws X) := fun a U g mk q => ⟨q.1, ⟨q.2.1.1, va_K.moved (u := U) (U := U.calling g mk a) (Vm.Alike.refl U.vm) q.2.1.2⟩, hX U g mk a q.2.2⟩
theorem wrX_blind {D : va_G} {cy : Nat → ClassId} {av : List Value} {ws : va_W} {sz : Nat} {X : State → Prop} (hX : Xok X) : FrameBlind (wrX D cy av ws sz X) := fun a U g mk q => ⟨q.1, ⟨q.2.1.1, q.2.1.2.1, va_K.moved (u := U) (U := U.calling g mk a) (Vm.Alike.refl U.vm) q.2.1.2.2.1, q.2.1.2.2.2⟩, hX U g mk a q.2.2⟩
theorem MrdX {l : Launch} {y : MethodName} {ws ws' : List Cond} {rm : Room} {cc : ByteArray} {maxL : Nat} {ty : FieldType} {D : va_G} {cy : Nat → ClassId} {As : List Value} {Wc : va_W} {r : Int32} {X : State → Prop}
    (hy : plainName y.cls = true) (hw : ws = Cond.code y cc maxL (some ty) :: ws') (hlen : (lg_sl As).length ≤ maxL) (hnr : narrow ty (.int r) = .int r)
    (body : ∀ (p : Program) (e : Env) (s : State) (m : MethodId) (args : Array Value) (below : List Frame) (meth : Method) (c : Code) (Q : State → Prop) (ls : Array Slot), X s → CallFix p m c cc maxL s args ws y.cls → va_K D vwCl (tyL cy) s → va_P D vwCl Wc s.heap → lv_has ls maxL (lv_args 0 As) →
      (∀ (pc : Nat) (ls : Array Slot), decode cc pc = .ok (.ireturn, 1) → W p l e rm s m args below meth c s.heap [] 0 0 Q (F0 m pc ls [.int r])) →
      W p l e rm s m args below meth c s.heap [] 0 0 Q (F0 m 0 ls [])) : Met l y ws rm (rdX D cy As Wc X) (QcRead r) 0 0 (fun _ => False) := by
  refine Met.ofW (cc := cc) (maxL := maxL) (ret := some ty) hy hw ?_
  intro p e s m args below meth c s₁ B hml hv
  obtain ⟨rfl, ⟨hP, hK⟩, hX⟩ := hv
  have hx := B.exec
  have hb := B.bytes
  have hr := B.returns
  have hts := atoms_spec (ws := ws) B.pre
  have hown : s.vm.findClass y.cls = some m.cls := findClass_of_methodNamed B.named
  have hlocks := B.notSynchronized
  have hl := lv_entry As (n := maxL) hlen
  rw [lg_entry_eq]
  exact body p e s m _ below meth c _ _ hX ⟨hx, hb, hml, hown, hts⟩ hK hP hl (fun pc ls hd => W.zret hx hb hr hnr (fun t ht hW => ⟨rfl, ht⟩) (fun q h => by cases h) hd)
theorem MwiX {S : Type} {post : Int32 → S → Prop} {W1 : S → va_W} {l : Launch} {y : MethodName} {ws ws' : List Cond} {rm : Room} {cc : ByteArray} {maxL mc ms sz : Nat} {ty : FieldType} {D : va_G} {cy : Nat → ClassId} {As : List Value} {Wc : va_W} {X : State → Prop}
    (hy : plainName y.cls = true) (hw : ws = Cond.code y cc maxL (some ty) :: ws') (hlen : (lg_sl As).length ≤ maxL) (hnr : ∀ r u, post r u → narrow ty (.int r) = .int r)
    (body : ∀ (p : Program) (e : Env) (s : State) (m : MethodId) (args : Array Value) (below : List Frame) (meth : Method) (c : Code) (Q : State → Prop) (ls : Array Slot) (A : Nat → Prop), A = va_A Wc s.heap.size → s.heap.size = sz → X s → CallFix p m c cc maxL s args ws y.cls → va_K D vwCl (tyL cy) s → va_P D vwCl Wc s.heap → va_D A Wc → (∀ q : Nat, s.heap.size ≤ q → A q) → lv_has ls maxL (lv_args 0 As) →
      (∀ (pc : Nat) (ls : Array Slot) (H : Heap) (locs : List Loc) (r : Int32) (u : S), decode cc pc = .ok (.ireturn, 1) → va_P D vwCl (W1 u) H → va_D A (W1 u) → va_S A s.heap H locs → post r u → W p l e rm s m args below meth c H locs mc ms Q (F0 m pc ls [.int r])) →
      W p l e rm s m args below meth c s.heap [] 0 0 Q (F0 m 0 ls [])) : Met l y ws rm (wrX D cy As Wc sz X) (va_Qi post (wrB D (va_A Wc sz) W1) (va_A Wc sz)) mc ms (va_A Wc sz) := by
  refine Met.ofW (cc := cc) (maxL := maxL) (ret := some ty) hy hw ?_
  intro p e s m args below meth c s₁ B hml hv
  obtain ⟨rfl, ⟨hsz, hP, hK, hD0⟩, hX⟩ := hv
  have hx := B.exec
  have hb := B.bytes
  have hr := B.returns
  have hts := atoms_spec (ws := ws) B.pre
  have hown : s.vm.findClass y.cls = some m.cls := findClass_of_methodNamed B.named
  have hlocks := B.notSynchronized
  have hl := lv_entry As (n := maxL) hlen
  rw [lg_entry_eq]
  subst hsz
  exact body p e s m _ below meth c _ _ (va_A Wc s.heap.size) rfl rfl hX ⟨hx, hb, hml, hown, hts⟩ hK hP hD0.self (fun q h => Or.inr h) hl (fun pc ls H locs r u hd hP1 hD1 hS hp => W.zret hx hb hr (hnr r u hp) (fun t ht hW => ⟨⟨r, u, rfl, hp, by rw [ht]; exact hP1, hD1⟩, hS.F ht⟩) hS.2.2 hd)
theorem MwvX {S : Type} {post : S → Prop} {W1 : S → va_W} {l : Launch} {y : MethodName} {ws ws' : List Cond} {rm : Room} {cc : ByteArray} {maxL mc ms sz : Nat} {D : va_G} {cy : Nat → ClassId} {As : List Value} {Wc : va_W} {X : State → Prop}
    (hy : plainName y.cls = true) (hw : ws = Cond.code y cc maxL none :: ws') (hlen : (lg_sl As).length ≤ maxL)
    (body : ∀ (p : Program) (e : Env) (s : State) (m : MethodId) (args : Array Value) (below : List Frame) (meth : Method) (c : Code) (Q : State → Prop) (ls : Array Slot) (A : Nat → Prop), A = va_A Wc s.heap.size → s.heap.size = sz → meth.name = y.name → X s → CallFix p m c cc maxL s args ws y.cls → va_K D vwCl (tyL cy) s → va_P D vwCl Wc s.heap → va_D A Wc → (∀ q : Nat, s.heap.size ≤ q → A q) → lv_has ls maxL (lv_args 0 As) →
      (∀ (pc : Nat) (ls : Array Slot) (H : Heap) (locs : List Loc) (u : S), decode cc pc = .ok (.return_, 1) → va_P D vwCl (W1 u) H → va_D A (W1 u) → va_S A s.heap H locs → post u → W p l e rm s m args below meth c H locs mc ms Q (F0 m pc ls [])) →
      W p l e rm s m args below meth c s.heap [] 0 0 Q (F0 m 0 ls [])) : Met l y ws rm (wrX D cy As Wc sz X) (va_Qv post (wrB D (va_A Wc sz) W1) (va_A Wc sz)) mc ms (va_A Wc sz) := by
  refine Met.ofW (cc := cc) (maxL := maxL) (ret := none) hy hw ?_
  intro p e s m args below meth c s₁ B hml hv
  obtain ⟨rfl, ⟨hsz, hP, hK, hD0⟩, hX⟩ := hv
  have hx := B.exec
  have hb := B.bytes
  have hr := B.returns
  have hts := atoms_spec (ws := ws) B.pre
  have hown : s.vm.findClass y.cls = some m.cls := findClass_of_methodNamed B.named
  have hlocks := B.notSynchronized
  have hin : meth.name = y.name := (name_of_methodNamed B.named B.method).1
  have hl := lv_entry As (n := maxL) hlen
  rw [lg_entry_eq]
  subst hsz
  exact body p e s m _ below meth c _ _ (va_A Wc s.heap.size) rfl rfl hin hX ⟨hx, hb, hml, hown, hts⟩ hK hP hD0.self (fun q h => Or.inr h) hl (fun pc ls H locs u hd hP1 hD1 hS hp => W.vret hx hb hr (fun t ht hW => ⟨⟨u, rfl, hp, by rw [ht]; exact hP1, hD1⟩, hS.F ht⟩) hS.2.2 hd)
section ZX
variable {p : Program} {l : Launch} {e : Env} {R : Room} {s : State} {m : MethodId} {args : Array Value} {below : List Frame} {meth : Method} {c : Code} {H : Heap} {locs : List Loc} {cells slots : Nat} {Q : State → Prop}
variable {cc bytes : ByteArray} {pc nL maxL n mc ms index : Nat} {ls : Array Slot} {rest st0 : List Value} {Ts ws wsy : List Cond} {own C : String} {y : MethodName} {ret : Option FieldType} {rm : Room} {D : va_G} {cy : Nat → ClassId} {b : Nat} {As : List Value} {Wc : va_W} {X : State → Prop}
theorem rd_SX {r : Int32} (hF : CallFix p m c cc nL s args Ts own) (hM : Met l y wsy rm (rdX D cy As Wc X) (QcRead r) 0 0 (fun _ => False)) (cw : CallB R s args own index y bytes maxL ret wsy rm 0 0 n ∧ (Cond.static y).before args s = true)
    (hK : va_K D vwCl (tyL cy) s) (hPc : va_P D vwCl Wc H) (hXo : Xok X) (hX : ∀ U : State, U.heap = H → s.WarmedH U.vm → X U)
    (hn : As.length = n) (hl : ls.size = nL) (hst : st0 = As.reverse ++ rest) (hW : (rest.map fun v => v.category).sum ≤ 8) (hdg : decode cc pc = .ok (.invokestatic index, 3)) (hf : cells + 0 ≤ R.cells ∧ slots + 0 ≤ R.slots)
    (kk : W p l e R s m args below meth c H locs cells slots Q (F0 m (pc + 3) ls (.int r :: rest))) : W p l e R s m args below meth c H locs cells slots Q (F0 m pc ls st0) := by
  subst hst
  exact W.callR (W.runS (As := As) (rest := rest) hF hM cw ⟨rdX_blind hXo, fun U hU hW => ⟨rfl, ⟨by rw [hU]; exact hPc, va_K.moved hW.alike hK⟩, hX U hU hW⟩⟩ rfl hn hl rfl (lv_room hW) hdg hf) kk
theorem rd_VX {r : Int32} (hF : CallFix p m c cc nL s args Ts own) (hM : Met l y wsy rm (rdX D cy (.ref b :: As) Wc X) (QcRead r) 0 0 (fun _ => False)) (cw : CallW R s args own C index y bytes maxL ret wsy rm 0 0 n)
    (hK : va_K D vwCl (tyL cy) s) (hPc : va_P D vwCl Wc H) (q0 ci : Nat) {q : vw_C} {fs : List Value} (he : Wc[q0]? = some (b, .inr (ci, fs))) (hc : vwCl[ci]? = some q) (hq : q.1 = C) (hXo : Xok X) (hX : ∀ U : State, U.heap = H → s.WarmedH U.vm → X U)
    (hn : As.length = n) (hl : ls.size = nL) (hst : st0 = As.reverse ++ .ref b :: rest) (hW : (rest.map fun v => v.category).sum ≤ 8) (hdg : decode cc pc = .ok (.invokevirtual index, 3)) (hf : cells + 0 ≤ R.cells ∧ slots + 0 ≤ R.slots)
    (kk : W p l e R s m args below meth c H locs cells slots Q (F0 m (pc + 3) ls (.int r :: rest))) : W p l e R s m args below meth c H locs cells slots Q (F0 m pc ls st0) := by
  subst hst
  exact W.callR (W.runV (As := As) (rest := rest) hF hM cw ⟨rdX_blind hXo, by rw [← hq]; exact va_recv hK hPc hc he, fun U hU hW => ⟨rfl, ⟨by rw [hU]; exact hPc, va_K.moved hW.alike hK⟩, hX U hU hW⟩⟩ rfl hn hl rfl (lv_room hW) hdg hf) kk
variable {A : Nat → Prop} {wsW Wr : va_W}
theorem wrX_preV (hK : va_K D vwCl (tyL cy) s) (hP : va_P D vwCl wsW H) (hD : va_D A wsW) (hsp : wsW.Perm (Wc ++ Wr)) (q0 ci : Nat) {q : vw_C} {fs : List Value} (he : Wc[q0]? = some (b, .inr (ci, fs))) (hc : vwCl[ci]? = some q) (hq : q.1 = C) (hXo : Xok X) (hX : ∀ U : State, U.heap = H → s.WarmedH U.vm → X U) : PreV s H C b (wrX D cy (.ref b :: As) Wc H.size X) As := by
  have hPc := zz_Pl (zz_Pp hP hsp)
  exact ⟨wrX_blind hXo, by rw [← hq]; exact va_recv hK hPc hc he, fun U hU hW => ⟨rfl, ⟨by rw [hU], by rw [hU]; exact hPc, va_K.moved hW.alike hK, (zz_Dl (zz_Dp hD hsp)).weaken (fun _ _ _ _ => trivial)⟩, hX U hU hW⟩⟩
theorem wrX_preS (hK : va_K D vwCl (tyL cy) s) (hP : va_P D vwCl wsW H) (hD : va_D A wsW) (hsp : wsW.Perm (Wc ++ Wr)) (hXo : Xok X) (hX : ∀ U : State, U.heap = H → s.WarmedH U.vm → X U) : PreS s H (wrX D cy As Wc H.size X) As := by
  have hPc := zz_Pl (zz_Pp hP hsp)
  exact ⟨wrX_blind hXo, fun U hU hW => ⟨rfl, ⟨by rw [hU], by rw [hU]; exact hPc, va_K.moved hW.alike hK, (zz_Dl (zz_Dp hD hsp)).weaken (fun _ _ _ _ => trivial)⟩, hX U hU hW⟩⟩
variable {cl : List vw_C} {tys : List (ClassId × FieldType)} {H0 : Heap}
/-- a new row of numbers: its class is the one that is known -/
theorem zz_newa {c : Code} (hexec : p.tables.exec = Jvm.exec) (hb : c.code = cc) (atype : ArrayType) (ty : FieldType) (hty : newarray.typeOf atype = ty) (harr : (Cond.arrayClass (newarray.typeOf atype)).before args s = true) (hra : ∀ (U : State) (cA : ClassId), va_RA U cA ty = (U.vm.findClass ("[" ++ ty.toString) = some cA))
    (hK : va_K D cl tys s) (hP : va_P D cl wsW H) (hD : va_D A wsW) (hS : va_S A H0 H locs) (hA : ∀ q, H0.size ≤ q → A q) (t0 : Nat) {cA0 : ClassId} (ht : tys[t0]? = some (cA0, ty))
    {n : Int32} {N' : Nat} {a0 : vp_A} (ha : ∀ cA : ClassId, vp_cell cA a0 = arrV cA N' (fun _ => defaultValue ty)) (hn : ¬ n < 0) (hN : n.toNatClampNeg = N') (hbytes : N' * componentBytes ty ≤ 536870912) (hcells : cells + 1 ≤ R.cells) (hslots : slots + N' ≤ R.slots) (hdg : decode cc pc = .ok (.newarray atype, 2))
    (kk : ∀ (q : Nat) (H1 : Heap), va_P D cl (wsW ++ [(q, .inl (cA0, a0))]) H1 → va_D A (wsW ++ [(q, .inl (cA0, a0))]) → va_S A H0 H1 locs →
      W p l e R s m args below meth c H1 locs (cells + 1) (slots + N') Q (F0 m (pc + 2) ls (.ref q :: rest))) : W p l e R s m args below meth c H locs cells slots Q (F0 m pc ls (.int n :: rest)) := by
  refine va_newa hexec hb harr hty hK hP hD hS hA ha hn hN hbytes hcells hslots hdg (fun q cA H1 hK1 hP1 hD1 hS1 => ?_)
  have e : cA = cA0 := by
    have a1 := (hK1.2 tys.length (cA, ty) (by simp)).2
    have a2 := (hK.2 t0 (cA0, ty) ht).2
    rw [hra] at a1 a2
    exact Option.some.inj (a1.symm.trans a2)
  subst e
  exact kk q H1 hP1 hD1 hS1
/-- a new row of references -/
theorem zz_newq {c : Code} (hexec : p.tables.exec = Jvm.exec) (hb : c.code = cc) {C : String} (hown : s.vm.findClass own = some m.cls) (hclink : (Cond.classLink own index C).before args s = true) (hover : va_AO C s) (hK : va_K D cl tys s) (hP : va_P D cl wsW H) (hD : va_D A wsW) (hS : va_S A H0 H locs) (hA : ∀ q, H0.size ≤ q → A q) (t0 : Nat) {cA0 : ClassId} (ht : tys[t0]? = some (cA0, .object C))
    {n : Int32} {N' : Nat} (hn : ¬ n < 0) (hN : n.toNatClampNeg = N') (hbytes : N' * 4 ≤ 536870912) (hcells : cells + 1 ≤ R.cells) (hslots : slots + N' ≤ R.slots) (hdg : decode cc pc = .ok (.anewarray index, 3))
    (kk : ∀ (q : Nat) (H1 : Heap), va_P D cl (wsW ++ [(q, .inl (cA0, N', .inr (.inr (.inr (.inr (fun _ => none))))))]) H1 → va_D A (wsW ++ [(q, .inl (cA0, N', .inr (.inr (.inr (.inr (fun _ => none))))))]) → va_S A H0 H1 locs →
      W p l e R s m args below meth c H1 locs (cells + 1) (slots + N') Q (F0 m (pc + 3) ls (.ref q :: rest))) : W p l e R s m args below meth c H locs cells slots Q (F0 m pc ls (.int n :: rest)) := by
  refine va_newq hexec hb hown hclink hover hK hP hD hS hA hn hN hbytes hcells hslots hdg (fun q cA H1 hK1 hP1 hD1 hS1 => ?_)
  have e : cA = cA0 := by
    have a1 := (hK1.2 tys.length (cA, .object C) (by simp)).2
    have a2 := (hK.2 t0 (cA0, .object C) ht).2
    obtain ⟨k1, c1, -, -, -, f1⟩ := a1
    obtain ⟨k2, c2, -, -, -, f2⟩ := a2
    exact Option.some.inj (f1.symm.trans f2)
  subst e
  exact kk q H1 hP1 hD1 hS1
end ZX
