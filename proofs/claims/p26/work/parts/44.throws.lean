/-! exceptions of the class: what is carried along, and a throw -/
def exT : List (Nat × String) := [(46, "no character code from 0 to 255"), (57, "the text is full"), (71, "the text is not a hotel"), (114, "no number from 0 to 11"), (123, "no number from 0 to 7"), (133, "no such floor"), (136, "no number from 0 to 2"), (144, "no such setting"), (152, "no weight from 1 to 4"), (155, "there are 4 guests"), (171, "no such setting, or no value of it"), (176, "no state is remembered"), (185, "neither 0 nor 1"), (193, "no number of presses from 1 to 5"), (201, "no row of so many digits"), (203, "no number from 0 to 4"), (216, "no number of commands from 1 to 3"), (218, "no script of so many digits"), (228, "no number of turns from 1 to 100"), (243, "nothing has been saved in the slot"), (248, "no such guest"), (250, "no such save slot")]
abbrev exN : List String := ["java/lang/RuntimeException", "java/lang/Exception"]
abbrev exA : String := "java/lang/IllegalArgumentException"
abbrev exS : String := "java/lang/IllegalStateException"
abbrev exI : String := "java/lang/IndexOutOfBoundsException"
abbrev exB : List Cond := [.castable exA exA, .castable exS exS, .castable exI exI, .declares (Bundle.initS "java/lang/RuntimeException"), .declares (Bundle.initS "java/lang/Exception"), .declares (Bundle.initS Bundle.tN)]
/-- static rows and constructors, the two statics of Throwable, the texts, the words of a throw that the tables keep -/
def Gx (A : Nat → Prop) (U : State) : Prop := (Gs A U ∧ Gn U) ∧ (vx_Zq Bundle.tN "UNASSIGNED_STACK" Bundle.steD A U U.heap ∧ vx_Zq Bundle.tN "SUPPRESSED_SENTINEL" Bundle.listD A U U.heap) ∧ (∀ q ∈ exT, ∃ a : Nat, vk_R RX7 q.1 q.2 a U) ∧ (va_Nw (.castable exA exA) U ∧ va_Nw (.castable exS exS) U ∧ va_Nw (.castable exI exI) U ∧ va_Nw (.declares (Bundle.initS "java/lang/RuntimeException")) U ∧ va_Nw (.declares (Bundle.initS "java/lang/Exception")) U ∧ va_Nw (.declares (Bundle.initS Bundle.tN)) U)
theorem Gx.calling {A : Nat → Prop} {U : State} {g : JFrame} {mk : MethodId} {a : Array Value} (h : Gx A U) : Gx A (U.calling g mk a) := by
  obtain ⟨⟨h1, h2⟩, ⟨z1, z2⟩, hT, w1, w2, w3, w4, w5, w6⟩ := h
  have e : U.vm = (U.calling g mk a).vm := rfl
  exact ⟨⟨h1.calling, h2.calling⟩, ⟨vx_Zq.moved (u := U) (U := U.calling g mk a) (Vm.Alike.refl U.vm) z1, vx_Zq.moved (u := U) (U := U.calling g mk a) (Vm.Alike.refl U.vm) z2⟩, fun q hq => (hT q hq).imp fun _ h => vk_R.same e.symm h, va_Nw.same rfl e w1, va_Nw.same rfl e w2, va_Nw.same rfl e w3, va_Nw.same rfl e w4, va_Nw.same rfl e w5, va_Nw.same rfl e w6⟩
theorem Gx.at {A A2 : Nat → Prop} {s U : State} {H : Heap} {locs : List Loc} (h : Gx A s) (hS : va_S A s.heap H locs) (hA : ∀ q, A2 q → A q) (hU : U.heap = H) (hW : s.WarmedH U.vm) : Gx A2 U := by
  obtain ⟨⟨h1, h2⟩, ⟨z1, z2⟩, hT, w1, w2, w3, w4, w5, w6⟩ := h
  have k : ∀ a : Nat, a < s.heap.size → ¬ A a → U.heap[a]? = s.heap[a]? := fun a h1 h2 => by rw [hU]; exact hS.2.1 a h1 h2
  exact ⟨⟨Gs.at h1 hS hA hU hW, Gn.warm hW h2⟩, ⟨vx_Zq.narrow (vx_Zq.kept (vx_Zq.moved hW.alike z1) k) hA, vx_Zq.narrow (vx_Zq.kept (vx_Zq.moved hW.alike z2) k) hA⟩, fun q hq => (hT q hq).imp fun _ h => vk_R.warm hW h, va_Nw.warmC hW w1, va_Nw.warmC hW w2, va_Nw.warmC hW w3, va_Nw.warmD hW w4, va_Nw.warmD hW w5, va_Nw.warmD hW w6⟩
theorem Xok_x {A : Nat → Prop} : Xok (Gx A) := fun _ _ _ _ h => h.calling
theorem Gx.words {A : Nat → Prop} {s : State} {args : Array Value} (h : Gx A s) : ∀ w ∈ exB, w.before args s = true := by
  obtain ⟨-, -, -, w1, w2, w3, w4, w5, w6⟩ := h
  exact vx_c (va_Nw.use rfl w1) (vx_c (va_Nw.use rfl w2) (vx_c (va_Nw.use rfl w3) (vx_c (va_Nw.use rfl w4) (vx_c (va_Nw.use rfl w5) (vx_c (va_Nw.use rfl w6) vx_n)))))
/-- which exception stands for a number -/
def xn (L : List String) (k : Int32) : String := if k = 1 then L.getD 0 "" else if k = 2 then L.getD 1 "" else L.getD 2 ""
abbrev thX (D : va_G) (A : Nat → Prop) (Wc : va_W) (L : List String) (K : Int32) : String → State → State → Prop := vx_X (fun _ : Unit => ¬ K = 0) (fun E _ t => E = xn L K ∧ va_P D vwCl Wc t.heap ∧ va_D A Wc) A
theorem exA_B : ∀ w ∈ (vx_atS RX7 48 exA exN).filter (fun w => !goodWord w), w ∈ exB := by decide +kernel
theorem exA_G : ∀ w ∈ Cond.classLink RX7 44 exA :: Cond.initialized exA :: vx_atS RX7 48 exA exN, vx_ot w = true := by decide +kernel
theorem exS_B : ∀ w ∈ (vx_atS RX7 59 exS exN).filter (fun w => !goodWord w), w ∈ exB := by decide +kernel
theorem exS_G : ∀ w ∈ Cond.classLink RX7 55 exS :: Cond.initialized exS :: vx_atS RX7 59 exS exN, vx_ot w = true := by decide +kernel
theorem exI_B : ∀ w ∈ (vx_atS RX7 135 exI exN).filter (fun w => !goodWord w), w ∈ exB := by decide +kernel
theorem exI_G : ∀ w ∈ Cond.classLink RX7 131 exI :: Cond.initialized exI :: vx_atS RX7 135 exI exN, vx_ot w = true := by decide +kernel
section ZTH
variable {p : Program} {l : Launch} {e : Env} {R : Room} {s : State} {m : MethodId} {args : Array Value} {below : List Frame} {meth : Method} {c : Code} {H : Heap} {locs : List Loc} {cells slots : Nat} {Q : State → Prop}
variable {Qc : Array Value → State → Outcome → State → Prop} {XC : String → State → State → Prop} {free : Addr → Prop} {ls : Array Slot} {rest st0 : List Value} {cc : ByteArray} {pc nL : Nat}
theorem thr_A (hexec : p.tables.exec = Jvm.exec) (hb : c.code = cc) (hl : l.stackTraces = false) {text : String} {is mc ms : Nat} {A : Nat → Prop} (hown : s.vm.findClass RX7 = some m.cls) (hX : Gx A s) (hS : va_S A s.heap H locs) (hsize : ls.size = c.maxLocals)
    (hk : (Cond.classLink RX7 44 exA).before args s = true) (hini : (Cond.initialized exA).before args s = true) (hgw : ∀ w ∈ (vx_atS RX7 48 exA exN).filter goodWord, w.before args s = true) (k9 : Nat) (hk9 : exT[k9]? = some (is, text))
    (d0 : decode cc pc = .ok (.new 44, 3)) (d3 : decode cc (pc + 3) = .ok (.dup, 1)) (d4 : decode cc (pc + 4) = .ok (.ldc is, 2)) (d6 : decode cc (pc + 6) = .ok (.invokespecial 48, 3)) (d9 : decode cc (pc + 9) = .ok (.athrow, 1))
    (hout : ∀ x ∈ c.exceptionTable.toList, False) (hF : 6 ≤ R.frames) (hLo : (rest.map fun v => v.category).sum + 82 ≤ R.locals) (hC : cells + 1 ≤ R.cells) (hSl : slots + 6 ≤ R.slots) (hlocks : meth.locks = false)
    (hx : ∀ t : State, s.vm.Alike t.vm → H.size ≤ t.heap.size → (∀ q : Nat, q < H.size → t.heap[q]? = H[q]?) → XC exA s t) (hf : ∀ z ∈ locs, free z.base) (hc : cells + 1 ≤ mc) (hs : slots + 6 ≤ ms) :
    W p l e R s m args below meth c H locs cells slots (vx_MQ below Qc XC args s mc ms free) (F0 m pc ls rest) := by
  have hX2 := hX
  obtain ⟨-, ⟨z1, z2⟩, hT, -⟩ := hX
  obtain ⟨sa, hsa⟩ := hT _ (List.mem_of_getElem? hk9)
  exact vx_throwS (names := exN) hexec hb hl hown (by decide +kernel) (by decide +kernel) hk hini hsa (vx_hat hgw exA_B hX2.words) exA_G z1 z2 hS hsize d0 d3 d4 d6 d9 (fun x h => (hout x h).elim) (show 2 + 3 < R.frames by omega) (show _ + (13 * (2 + 1) + 43) ≤ R.locals by omega) hC hSl hlocks hx hf hc hs
theorem thr_S (hexec : p.tables.exec = Jvm.exec) (hb : c.code = cc) (hl : l.stackTraces = false) {text : String} {is mc ms : Nat} {A : Nat → Prop} (hown : s.vm.findClass RX7 = some m.cls) (hX : Gx A s) (hS : va_S A s.heap H locs) (hsize : ls.size = c.maxLocals)
    (hk : (Cond.classLink RX7 55 exS).before args s = true) (hini : (Cond.initialized exS).before args s = true) (hgw : ∀ w ∈ (vx_atS RX7 59 exS exN).filter goodWord, w.before args s = true) (k9 : Nat) (hk9 : exT[k9]? = some (is, text))
    (d0 : decode cc pc = .ok (.new 55, 3)) (d3 : decode cc (pc + 3) = .ok (.dup, 1)) (d4 : decode cc (pc + 4) = .ok (.ldc is, 2)) (d6 : decode cc (pc + 6) = .ok (.invokespecial 59, 3)) (d9 : decode cc (pc + 9) = .ok (.athrow, 1))
    (hout : ∀ x ∈ c.exceptionTable.toList, False) (hF : 6 ≤ R.frames) (hLo : (rest.map fun v => v.category).sum + 82 ≤ R.locals) (hC : cells + 1 ≤ R.cells) (hSl : slots + 6 ≤ R.slots) (hlocks : meth.locks = false)
    (hx : ∀ t : State, s.vm.Alike t.vm → H.size ≤ t.heap.size → (∀ q : Nat, q < H.size → t.heap[q]? = H[q]?) → XC exS s t) (hf : ∀ z ∈ locs, free z.base) (hc : cells + 1 ≤ mc) (hs : slots + 6 ≤ ms) :
    W p l e R s m args below meth c H locs cells slots (vx_MQ below Qc XC args s mc ms free) (F0 m pc ls rest) := by
  have hX2 := hX
  obtain ⟨-, ⟨z1, z2⟩, hT, -⟩ := hX
  obtain ⟨sa, hsa⟩ := hT _ (List.mem_of_getElem? hk9)
  exact vx_throwS (names := exN) hexec hb hl hown (by decide +kernel) (by decide +kernel) hk hini hsa (vx_hat hgw exS_B hX2.words) exS_G z1 z2 hS hsize d0 d3 d4 d6 d9 (fun x h => (hout x h).elim) (show 2 + 3 < R.frames by omega) (show _ + (13 * (2 + 1) + 43) ≤ R.locals by omega) hC hSl hlocks hx hf hc hs
theorem thr_I (hexec : p.tables.exec = Jvm.exec) (hb : c.code = cc) (hl : l.stackTraces = false) {text : String} {is mc ms : Nat} {A : Nat → Prop} (hown : s.vm.findClass RX7 = some m.cls) (hX : Gx A s) (hS : va_S A s.heap H locs) (hsize : ls.size = c.maxLocals)
    (hk : (Cond.classLink RX7 131 exI).before args s = true) (hini : (Cond.initialized exI).before args s = true) (hgw : ∀ w ∈ (vx_atS RX7 135 exI exN).filter goodWord, w.before args s = true) (k9 : Nat) (hk9 : exT[k9]? = some (is, text))
    (d0 : decode cc pc = .ok (.new 131, 3)) (d3 : decode cc (pc + 3) = .ok (.dup, 1)) (d4 : decode cc (pc + 4) = .ok (.ldc is, 2)) (d6 : decode cc (pc + 6) = .ok (.invokespecial 135, 3)) (d9 : decode cc (pc + 9) = .ok (.athrow, 1))
    (hout : ∀ x ∈ c.exceptionTable.toList, False) (hF : 6 ≤ R.frames) (hLo : (rest.map fun v => v.category).sum + 82 ≤ R.locals) (hC : cells + 1 ≤ R.cells) (hSl : slots + 6 ≤ R.slots) (hlocks : meth.locks = false)
    (hx : ∀ t : State, s.vm.Alike t.vm → H.size ≤ t.heap.size → (∀ q : Nat, q < H.size → t.heap[q]? = H[q]?) → XC exI s t) (hf : ∀ z ∈ locs, free z.base) (hc : cells + 1 ≤ mc) (hs : slots + 6 ≤ ms) :
    W p l e R s m args below meth c H locs cells slots (vx_MQ below Qc XC args s mc ms free) (F0 m pc ls rest) := by
  have hX2 := hX
  obtain ⟨-, ⟨z1, z2⟩, hT, -⟩ := hX
  obtain ⟨sa, hsa⟩ := hT _ (List.mem_of_getElem? hk9)
  exact vx_throwS (names := exN) hexec hb hl hown (by decide +kernel) (by decide +kernel) hk hini hsa (vx_hat hgw exI_B hX2.words) exI_G z1 z2 hS hsize d0 d3 d4 d6 d9 (fun x h => (hout x h).elim) (show 2 + 3 < R.frames by omega) (show _ + (13 * (2 + 1) + 43) ≤ R.locals by omega) hC hSl hlocks hx hf hc hs
/-- what was thrown: the world as it was -/
theorem thX_of {D : va_G} {A : Nat → Prop} {Wc : va_W} {L : List String} {K k : Int32} {E : String} {t : State} (hP : va_P D vwCl Wc H) (hD : va_D A Wc) (hS : va_S A s.heap H locs) (hK : K = k) (hk : ¬ k = 0) (hE : E = xn L k) (h1 : H.size ≤ t.heap.size) (h2 : ∀ q : Nat, q < H.size → t.heap[q]? = H[q]?) : thX D A Wc L K E s t :=
  ⟨(), by rw [hK]; exact hk, ⟨by rw [hK]; exact hE, hP.kept fun k x hx => h2 x.1 (hP k x hx).lt, hD⟩, Nat.le_trans hS.1 h1, fun q q1 q2 => (h2 q (Nat.lt_of_lt_of_le q1 hS.1)).trans (hS.2.1 q q1 q2)⟩
theorem thX_up {D : va_G} {A : Nat → Prop} {Wc : va_W} {L : List String} {K : Int32} {E : String} {t : State} (hP : va_P D vwCl Wc H) (hD : va_D A Wc) (hS : va_S A s.heap H locs) (hK : ¬ K = 0) (hE : E = xn L K) (ht : t.heap = H) : thX D A Wc L K E s t :=
  ⟨(), hK, ⟨hE, by rw [ht]; exact hP, hD⟩, hS.F ht⟩
variable {A : Nat → Prop} {D : va_G} {Wc Wr wsW : va_W} {mc ms : Nat} {a : Array Value} {L : List String} {K : Int32}
theorem th_v {S : Type} {post : S → Prop} {W1 : S → va_W} (ws1 : S → va_W) (hr : vx_Run p l e R s m args below meth c H locs cells slots mc ms (F0 m pc ls st0) rest (va_Qv post (wrB D (va_A Wc H.size) W1) (va_A Wc H.size) a) (thX D (va_A Wc H.size) Wc L K) (va_A Wc H.size))
    (hP : va_P D vwCl wsW H) (hD : va_D A wsW) (hS : va_S A s.heap H locs) (hA : ∀ q, s.heap.size ≤ q → A q) (hsp : wsW.Perm (Wc ++ Wr)) (hjo : ∀ u, (ws1 u).Perm (W1 u ++ Wr))
    (kx : ∀ (E : String) (ce : Cell) (q9 : Addr) (H1 : Heap) (locs1 : List Loc), E = xn L K → ¬ K = 0 → va_P D vwCl wsW H1 → va_D A wsW → va_S A s.heap H1 locs1 → H1[q9]? = some ce → ce.vm = .none → s.vm.findClass E = some ce.cls → vx_W p l e R s m args below meth c H1 locs1 (cells + mc) (slots + ms) Q (F0 m pc ls rest) q9)
    (kk : ∀ (u : S) (H1 : Heap) (locs1 : List Loc), post u → va_P D vwCl (ws1 u) H1 → va_D A (ws1 u) → va_S A s.heap H1 locs1 → W p l e R s m args below meth c H1 locs1 (cells + mc) (slots + ms) Q (F0 m (pc + 3) ls rest)) : W p l e R s m args below meth c H locs cells slots Q (F0 m pc ls st0) := by
  have hF := zz_free hD hsp hS hA
  refine vx_callv hr hS (fun q _ h => hF q h) hF (fun q _ h => hF q h) (fun E ce q9 u t H1 locs1 ht hvm hp hB hz hk hS1 hc hv hcl => ?_) (fun u t H1 locs1 ht hvm hp hB hz hk hS1 => ?_)
  · obtain ⟨hE, hP1, hD1⟩ := hB
    rw [ht] at hP1
    obtain ⟨g1, g2⟩ := zz_join hP hD hsp hsp hF hk hP1 hD1
    exact kx E ce q9 H1 locs1 hE hp g1 g2 hS1 hc hv hcl
  · obtain ⟨hP1, hD1⟩ := hB
    rw [ht] at hP1
    obtain ⟨g1, g2⟩ := zz_join hP hD hsp (hjo u) hF hk hP1 hD1
    exact kk u H1 locs1 hp g1 g2 hS1
theorem th_i {S : Type} {post : Int32 → S → Prop} {W1 : S → va_W} (ws1 : S → va_W) (hr : vx_Run p l e R s m args below meth c H locs cells slots mc ms (F0 m pc ls st0) rest (va_Qi post (wrB D (va_A Wc H.size) W1) (va_A Wc H.size) a) (thX D (va_A Wc H.size) Wc L K) (va_A Wc H.size))
    (hP : va_P D vwCl wsW H) (hD : va_D A wsW) (hS : va_S A s.heap H locs) (hA : ∀ q, s.heap.size ≤ q → A q) (hsp : wsW.Perm (Wc ++ Wr)) (hjo : ∀ u, (ws1 u).Perm (W1 u ++ Wr))
    (kx : ∀ (E : String) (ce : Cell) (q9 : Addr) (H1 : Heap) (locs1 : List Loc), E = xn L K → ¬ K = 0 → va_P D vwCl wsW H1 → va_D A wsW → va_S A s.heap H1 locs1 → H1[q9]? = some ce → ce.vm = .none → s.vm.findClass E = some ce.cls → vx_W p l e R s m args below meth c H1 locs1 (cells + mc) (slots + ms) Q (F0 m pc ls rest) q9)
    (kk : ∀ (r : Int32) (u : S) (H1 : Heap) (locs1 : List Loc), post r u → va_P D vwCl (ws1 u) H1 → va_D A (ws1 u) → va_S A s.heap H1 locs1 → W p l e R s m args below meth c H1 locs1 (cells + mc) (slots + ms) Q (F0 m (pc + 3) ls (.int r :: rest))) : W p l e R s m args below meth c H locs cells slots Q (F0 m pc ls st0) := by
  have hF := zz_free hD hsp hS hA
  refine vx_calli hr hS (fun q _ h => hF q h) hF (fun q _ h => hF q h) (fun E ce q9 u t H1 locs1 ht hvm hp hB hz hk hS1 hc hv hcl => ?_) (fun r u t H1 locs1 ht hvm hp hB hz hk hS1 => ?_)
  · obtain ⟨hE, hP1, hD1⟩ := hB
    rw [ht] at hP1
    obtain ⟨g1, g2⟩ := zz_join hP hD hsp hsp hF hk hP1 hD1
    exact kx E ce q9 H1 locs1 hE hp g1 g2 hS1 hc hv hcl
  · obtain ⟨hP1, hD1⟩ := hB
    rw [ht] at hP1
    obtain ⟨g1, g2⟩ := zz_join hP hD hsp (hjo u) hF hk hP1 hD1
    exact kk r u H1 locs1 hp g1 g2 hS1
end ZTH
/-- the start of a method that may throw -/
theorem MthI {S : Type} {post : Int32 → S → Prop} {W1 : S → va_W} {l : Launch} {y : MethodName} {ws ws' : List Cond} {rm : Room} {cc : ByteArray} {maxL mc ms sz : Nat} {ty : FieldType} {D : va_G} {cy : Nat → ClassId} {As : List Value} {Wc : va_W} {X : State → Prop} {L : List String} {K : Int32}
    (hy : plainName y.cls = true) (hw : ws = Cond.code y cc maxL (some ty) :: ws') (hlen : (lg_sl As).length ≤ maxL) (hnr : ∀ r u, post r u → narrow ty (.int r) = .int r)
    (body : ∀ (p : Program) (e : Env) (s : State) (m : MethodId) (args : Array Value) (below : List Frame) (meth : Method) (c : Code) (Q : State → Prop) (ls : Array Slot) (A : Nat → Prop), A = va_A Wc s.heap.size → s.heap.size = sz → Q = vx_MQ below (va_Qi post (wrB D A W1) A) (thX D A Wc L K) args s mc ms A → meth.locks = false → (∀ x ∈ c.exceptionTable.toList, False) → X s → CallFix p m c cc maxL s args ws y.cls → va_K D vwCl (tyL cy) s → va_P D vwCl Wc s.heap → va_D A Wc → (∀ q : Nat, s.heap.size ≤ q → A q) → lv_has ls maxL (lv_args 0 As) →
      (∀ (pc : Nat) (ls : Array Slot) (H : Heap) (locs : List Loc) (r : Int32) (u : S), decode cc pc = .ok (.ireturn, 1) → va_P D vwCl (W1 u) H → va_D A (W1 u) → va_S A s.heap H locs → post r u → W p l e rm s m args below meth c H locs mc ms Q (F0 m pc ls [.int r])) →
      W p l e rm s m args below meth c s.heap [] 0 0 Q (F0 m 0 ls [])) : vx_Met l y ws rm (wrX D cy As Wc sz X) (va_Qi post (wrB D (va_A Wc sz) W1) (va_A Wc sz)) (thX D (va_A Wc sz) Wc L K) mc ms (va_A Wc sz) := by
  refine vx_ofW (cc := cc) (maxL := maxL) (ret := some ty) hy hw ?_
  intro p e s m args below meth c s₁ B hml hno hv
  obtain ⟨rfl, ⟨hsz, hP, hK, hD0⟩, hX⟩ := hv
  have hx := B.exec
  have hb := B.bytes
  have hr := B.returns
  have hts := atoms_spec (ws := ws) B.pre
  have hown : s.vm.findClass y.cls = some m.cls := findClass_of_methodNamed B.named
  have hlocks := B.notSynchronized
  have hl := lv_entry As (n := maxL) hlen
  rw [lg_entry_eq]
  subst hsz
  exact body p e s m _ below meth c _ _ (va_A Wc s.heap.size) rfl rfl rfl hlocks hno hX ⟨hx, hb, hml, hown, hts⟩ hK hP hD0.self (fun q h => Or.inr h) hl (fun pc ls H locs r u hd hP1 hD1 hS hp => vx_ret (W.zret hx hb hr (hnr r u hp) (fun t ht hW => ⟨⟨r, u, rfl, hp, by rw [ht]; exact hP1, hD1⟩, hS.F ht⟩) hS.2.2 hd))
theorem MthV {S : Type} {post : S → Prop} {W1 : S → va_W} {l : Launch} {y : MethodName} {ws ws' : List Cond} {rm : Room} {cc : ByteArray} {maxL mc ms sz : Nat} {D : va_G} {cy : Nat → ClassId} {As : List Value} {Wc : va_W} {X : State → Prop} {L : List String} {K : Int32}
    (hy : plainName y.cls = true) (hw : ws = Cond.code y cc maxL none :: ws') (hlen : (lg_sl As).length ≤ maxL)
    (body : ∀ (p : Program) (e : Env) (s : State) (m : MethodId) (args : Array Value) (below : List Frame) (meth : Method) (c : Code) (Q : State → Prop) (ls : Array Slot) (A : Nat → Prop), A = va_A Wc s.heap.size → s.heap.size = sz → Q = vx_MQ below (va_Qv post (wrB D A W1) A) (thX D A Wc L K) args s mc ms A → meth.locks = false → (∀ x ∈ c.exceptionTable.toList, False) → X s → CallFix p m c cc maxL s args ws y.cls → va_K D vwCl (tyL cy) s → va_P D vwCl Wc s.heap → va_D A Wc → (∀ q : Nat, s.heap.size ≤ q → A q) → lv_has ls maxL (lv_args 0 As) →
      (∀ (pc : Nat) (ls : Array Slot) (H : Heap) (locs : List Loc) (u : S), decode cc pc = .ok (.return_, 1) → va_P D vwCl (W1 u) H → va_D A (W1 u) → va_S A s.heap H locs → post u → W p l e rm s m args below meth c H locs mc ms Q (F0 m pc ls [])) →
      W p l e rm s m args below meth c s.heap [] 0 0 Q (F0 m 0 ls [])) : vx_Met l y ws rm (wrX D cy As Wc sz X) (va_Qv post (wrB D (va_A Wc sz) W1) (va_A Wc sz)) (thX D (va_A Wc sz) Wc L K) mc ms (va_A Wc sz) := by
  refine vx_ofW (cc := cc) (maxL := maxL) (ret := none) hy hw ?_
  intro p e s m args below meth c s₁ B hml hno hv
  obtain ⟨rfl, ⟨hsz, hP, hK, hD0⟩, hX⟩ := hv
  have hx := B.exec
  have hb := B.bytes
  have hr := B.returns
  have hts := atoms_spec (ws := ws) B.pre
  have hown : s.vm.findClass y.cls = some m.cls := findClass_of_methodNamed B.named
  have hlocks := B.notSynchronized
  have hl := lv_entry As (n := maxL) hlen
  rw [lg_entry_eq]
  subst hsz
  exact body p e s m _ below meth c _ _ (va_A Wc s.heap.size) rfl rfl rfl hlocks hno hX ⟨hx, hb, hml, hown, hts⟩ hK hP hD0.self (fun q h => Or.inr h) hl (fun pc ls H locs u hd hP1 hD1 hS hp => vx_ret (W.vret hx hb hr (fun t ht hW => ⟨⟨u, rfl, hp, by rw [ht]; exact hP1, hD1⟩, hS.F ht⟩) hS.2.2 hd))
theorem i_le {a c : Int32} : a ≤ c ↔ ¬ c < a := by rw [Int32.le_iff_toInt_le, Int32.lt_iff_toInt_lt]; omega
theorem in_lo {v a c : Int32} (h : v < a) : ¬ inL v.toInt64 a.toInt64 c.toInt64 := fun q => (inI.mp q).1 h
theorem in_hi {v a c : Int32} (h : ¬ v ≤ c) : ¬ inL v.toInt64 a.toInt64 c.toInt64 := fun q => h (i_le.mpr (inI.mp q).2)
theorem in_ok {v a c : Int32} (h1 : ¬ v < a) (h2 : v ≤ c) : inL v.toInt64 a.toInt64 c.toInt64 := inI.mpr ⟨h1, i_le.mp h2⟩
