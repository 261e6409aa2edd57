/-! the law's wrappers: what is carried along, the catch, the start -/
def Gl (A : Nat → Prop) (U : State) : Prop := Gx A U ∧ (va_Nc exA exI U ∧ va_Nc exA exS U ∧ va_Nc exI exA U ∧ va_Nc exI exS U ∧ va_Nc exS exA U ∧ va_Nc exS exI U)
theorem Gl.calling {A : Nat → Prop} {U : State} {g : JFrame} {mk : MethodId} {a : Array Value} (h : Gl A U) : Gl A (U.calling g mk a) := by
  obtain ⟨h1, w1, w2, w3, w4, w5, w6⟩ := h
  have e : U.vm.Alike (U.calling g mk a).vm := Vm.Alike.refl U.vm
  exact ⟨h1.calling, va_Nc.moved e w1, va_Nc.moved e w2, va_Nc.moved e w3, va_Nc.moved e w4, va_Nc.moved e w5, va_Nc.moved e w6⟩
theorem Gl.at {A A2 : Nat → Prop} {s U : State} {H : Heap} {locs : List Loc} (h : Gl A s) (hS : va_S A s.heap H locs) (hA : ∀ q, A2 q → A q) (hU : U.heap = H) (hW : s.WarmedH U.vm) : Gl A2 U := by
  obtain ⟨h1, w1, w2, w3, w4, w5, w6⟩ := h
  exact ⟨h1.at hS hA hU hW, va_Nc.moved hW.alike w1, va_Nc.moved hW.alike w2, va_Nc.moved hW.alike w3, va_Nc.moved hW.alike w4, va_Nc.moved hW.alike w5, va_Nc.moved hW.alike w6⟩
theorem Xok_l {A : Nat → Prop} : Xok (Gl A) := fun _ _ _ _ h => h.calling
section ZWR
variable {p : Program} {l : Launch} {e : Env} {R : Room} {s : State} {m : MethodId} {args : Array Value} {below : List Frame} {meth : Method} {c : Code} {H : Heap} {locs : List Loc} {cells slots : Nat} {Q : State → Prop}
variable {ls : Array Slot} {rest : List Value} {pc : Nat} {own E E1 E2 : String} {ce : Cell} {q : Addr}
theorem cat1 (hown : s.vm.findClass own = some m.cls) {a0 b0 h0 t0 : Nat} {tl : List (Nat × Nat × Nat × Nat)} (hT : c.exceptionTable.toList = tableOf ((a0, b0, h0, t0) :: tl)) (hx : covers ⟨a0, b0, h0, t0⟩ pc = true) (ht : t0 ≠ 0) (hlink : (Cond.classLink own t0 E).before args s = true) (hcast : (Cond.castable E E).before args s = true) (hcell : H[q]? = some ce) (hv : ce.vm = .none) (hcl : s.vm.findClass E = some ce.cls)
    (kk : W p l e R s m args below meth c H locs cells slots Q (F0 m h0 ls [.ref q])) : vx_W p l e R s m args below meth c H locs cells slots Q (F0 m pc ls rest) q :=
  vx_catch hown [] ⟨a0, b0, h0, t0⟩ (tableOf tl) hT (fun _ h => absurd h List.not_mem_nil) hx ht hlink hcast hcell hv hcl kk
theorem cat2 (hown : s.vm.findClass own = some m.cls) {a0 b0 h0 t0 a1 b1 h1 t1 : Nat} {tl : List (Nat × Nat × Nat × Nat)} (hT : c.exceptionTable.toList = tableOf ((a1, b1, h1, t1) :: (a0, b0, h0, t0) :: tl)) (hx : covers ⟨a0, b0, h0, t0⟩ pc = true) (ht : t0 ≠ 0) (ht1 : t1 ≠ 0) (hl1 : (Cond.classLink own t1 E1).before args s = true) (hn1 : va_Nc E E1 s) (hlink : (Cond.classLink own t0 E).before args s = true) (hcast : (Cond.castable E E).before args s = true) (hcell : H[q]? = some ce) (hv : ce.vm = .none) (hcl : s.vm.findClass E = some ce.cls)
    (kk : W p l e R s m args below meth c H locs cells slots Q (F0 m h0 ls [.ref q])) : vx_W p l e R s m args below meth c H locs cells slots Q (F0 m pc ls rest) q :=
  vx_catch hown [⟨a1, b1, h1, t1⟩] ⟨a0, b0, h0, t0⟩ (tableOf tl) hT (fun z hz => by cases List.mem_singleton.mp hz; exact Or.inr ⟨ht1, E1, hl1, hn1⟩) hx ht hlink hcast hcell hv hcl kk
theorem cat3 (hown : s.vm.findClass own = some m.cls) {a0 b0 h0 t0 a1 b1 h1 t1 a2 b2 h2 t2 : Nat} {tl : List (Nat × Nat × Nat × Nat)} (hT : c.exceptionTable.toList = tableOf ((a2, b2, h2, t2) :: (a1, b1, h1, t1) :: (a0, b0, h0, t0) :: tl)) (hx : covers ⟨a0, b0, h0, t0⟩ pc = true) (ht : t0 ≠ 0) (ht2 : t2 ≠ 0) (hl2 : (Cond.classLink own t2 E2).before args s = true) (hn2 : va_Nc E E2 s) (ht1 : t1 ≠ 0) (hl1 : (Cond.classLink own t1 E1).before args s = true) (hn1 : va_Nc E E1 s) (hlink : (Cond.classLink own t0 E).before args s = true) (hcast : (Cond.castable E E).before args s = true) (hcell : H[q]? = some ce) (hv : ce.vm = .none) (hcl : s.vm.findClass E = some ce.cls)
    (kk : W p l e R s m args below meth c H locs cells slots Q (F0 m h0 ls [.ref q])) : vx_W p l e R s m args below meth c H locs cells slots Q (F0 m pc ls rest) q :=
  vx_catch hown [⟨a2, b2, h2, t2⟩, ⟨a1, b1, h1, t1⟩] ⟨a0, b0, h0, t0⟩ (tableOf tl) hT (fun z hz => by
    rcases List.mem_cons.mp hz with rfl | hz
    · exact Or.inr ⟨ht2, E2, hl2, hn2⟩
    · cases List.mem_singleton.mp hz; exact Or.inr ⟨ht1, E1, hl1, hn1⟩) hx ht hlink hcast hcell hv hcl kk
end ZWR
/-- the start of a wrapper: a method with a table that answers an int -/
theorem MthL {S : Type} {post : Int32 → S → Prop} {W1 : S → va_W} {l : Launch} {y : MethodName} {ws ws' : List Cond} {rm : Room} {cc : ByteArray} {maxL mc ms sz : Nat} {hh : List (Nat × Nat × Nat × Nat)} {D : va_G} {cy : Nat → ClassId} {As : List Value} {Wc : va_W} {X : State → Prop}
    (hy : plainName y.cls = true) (hw : ws = Cond.codeWith y cc maxL (some .int) hh :: ws') (hlen : (lg_sl As).length ≤ maxL)
    (body : ∀ (p : Program) (e : Env) (s : State) (m : MethodId) (args : Array Value) (below : List Frame) (meth : Method) (c : Code) (Q : State → Prop) (ls : Array Slot) (A : Nat → Prop), A = va_A Wc s.heap.size → s.heap.size = sz → X s → c.exceptionTable.toList = tableOf hh → CallFix p m c cc maxL s args ws y.cls → va_K D vwCl (tyL cy) s → va_P D vwCl Wc s.heap → va_D A Wc → (∀ q : Nat, s.heap.size ≤ q → A q) → lv_has ls maxL (lv_args 0 As) →
      (∀ (pc : Nat) (ls : Array Slot) (H : Heap) (locs : List Loc) (r : Int32) (u : S), decode cc pc = .ok (.ireturn, 1) → va_P D vwCl (W1 u) H → va_D A (W1 u) → va_S A s.heap H locs → post r u → W p l e rm s m args below meth c H locs mc ms Q (F0 m pc ls [.int r])) →
      W p l e rm s m args below meth c s.heap [] 0 0 Q (F0 m 0 ls [])) : Met l y ws rm (wrX D cy As Wc sz X) (va_Qi post (wrB D (va_A Wc sz) W1) (va_A Wc sz)) mc ms (va_A Wc sz) := by
  refine va_MetW (cc := cc) (maxL := maxL) (ret := some .int) (hh := hh) hy hw ?_
  intro p e s m args below meth c s₁ B hml hv
  obtain ⟨rfl, ⟨hsz, hP, hK, hD0⟩, hX⟩ := hv
  have hx := B.exec
  have hb := B.bytes
  have hr := B.returns
  have hts := atoms_spec (ws := ws) B.pre
  have hT := vx_table (x := y) B (hts _ (by rw [hw]; exact List.mem_cons_self))
  have hown : s.vm.findClass y.cls = some m.cls := findClass_of_methodNamed B.named
  have hl := lv_entry As (n := maxL) hlen
  rw [lg_entry_eq]
  subst hsz
  exact body p e s m _ below meth c _ _ (va_A Wc s.heap.size) rfl rfl hX hT ⟨hx, hb, hml, hown, hts⟩ hK hP hD0.self (fun q h => Or.inr h) hl (fun pc ls H locs r u hd hP1 hD1 hS hp => W.zret hx hb hr rfl (fun t ht hW => ⟨⟨r, u, rfl, hp, by rw [ht]; exact hP1, hD1⟩, hS.F ht⟩) hS.2.2 hd)
section KC
theorem k_app {z : Nat} {v : Int32} : kApp z v = 0 ∨ kApp z v = 1 ∨ kApp z v = 2 := by
  unfold kApp
  split
  · split <;> simp
  · simp
theorem k_about {v : Int32} : kAbout v = 0 ∨ kAbout v = 1 := by unfold kAbout; split <;> simp
theorem k_guest {n g v : Int32} : kGuest n g v = 0 ∨ kGuest n g v = 1 ∨ kGuest n g v = 2 := by
  unfold kGuest
  split
  · split <;> simp
  · simp
theorem k_floor {f v : Int32} : kFloor f v = 0 ∨ kFloor f v = 1 ∨ kFloor f v = 2 := by
  unfold kFloor
  split
  · split <;> simp
  · simp
theorem k_setg {v : Int32} : kSetg v = 0 ∨ kSetg v = 1 := by unfold kSetg; split <;> simp
theorem k_come {n : Nat} {bb a z w : Int32} : kCome n bb a z w = 0 ∨ kCome n bb a z w = 1 ∨ kCome n bb a z w = 2 ∨ kCome n bb a z w = 3 := by
  unfold kCome
  split
  · split
    · split
      · split
        · split <;> simp
        · simp
      · simp
    · simp
  · simp
theorem k_g {n g : Int32} : kG n g = 0 ∨ kG n g = 1 := by unfold kG; split <;> simp
theorem k_set {w v : Int32} : kSet w v = 0 ∨ kSet w v = 1 := by unfold kSet; split <;> simp
theorem k_undo {a : Nat} : kUndo a = 0 ∨ kUndo a = 1 := by unfold kUndo; split <;> simp
theorem k_few {v : Int32} : kFew v = 0 ∨ kFew v = 1 := by unfold kFew; split <;> simp
theorem k_ifp {v row w : Int32} : kIfp v row w = 0 ∨ kIfp v row w = 1 := by
  unfold kIfp
  split
  · split
    · split <;> simp
    · simp
  · simp
theorem k_run {v : Int32} {s : Int64} : kRun v s = 0 ∨ kRun v s = 1 := by
  unfold kRun
  split
  · split <;> simp
  · simp
theorem k_sim {v : Int32} : kSim v = 0 ∨ kSim v = 1 := by unfold kSim; split <;> simp
theorem k_save {v : Int32} : kSave v = 0 ∨ kSave v = 1 := by unfold kSave; split <;> simp
theorem k_rst {o0 o1 : Option HQ} {v : Int32} : kRst o0 o1 v = 0 ∨ kRst o0 o1 v = 1 ∨ kRst o0 o1 v = 2 := by
  unfold kRst
  split
  · generalize hq : (if v = 0 then o0 else o1).isNone = w
    cases w <;> simp
  · simp
theorem k_load {z : Nat} {f : Nat → Int32} : kLoad z f = 0 ∨ kLoad z f = 1 := by unfold kLoad; split <;> simp
end KC
