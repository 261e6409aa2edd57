/-! the law's small methods -/
def thr (v : Int32) : Prop := v = cI ∨ v = cA ∨ v = cS
theorem thr_n : ∀ a, a < 14 → ¬ (nI a = -9999001) ∧ ¬ (nI a = -9999002) ∧ ¬ (nI a = -9999003) := by decide +kernel
abbrev rm_L_thrown : Room := { frames := 0, cells := 0, slots := 0, locals := 0 }
theorem c_L_thrown (l : Launch) (D : va_G) (cy : Nat → ClassId) (v : Int32) (h : ¬ (v = -9999001) ∧ ¬ (v = -9999002) ∧ ¬ (v = -9999003)) : Met l yL_thrown wsL_thrown rm_L_thrown (rdP D cy [.int v] []) (QcRead 0) 0 0 (fun _ => False) := by
  refine Mrd (cc := cL_thrown) (maxL := 1) (ty := .boolean) (by decide) rfl (Nat.le_of_ble_eq_true rfl) rfl ?_
  intro p e s m args below meth c Q ls hF hK hP hl hret
  obtain ⟨hx9, hb, hml, hown, hts⟩ := id hF
  have hown : s.vm.findClass RL = some m.cls := hown
  have hl : lv_has ls 1 [(0, .int v)] := hl
  refine lv_iload_n hx9 hb dL_thrown_0 rfl (lv_at hl 0 rfl) ?_
  refine lv_ldc (v := (-9999001)) hx9 hb hown (hts (.constant RL 15 (-9999001)) (by decide +kernel)) dL_thrown_1 ?_
  refine lv_icmp_eq (tgt := 18) hx9 hb dL_thrown_3 (by decide) (fun c_1 => ?_) (fun c_1 => ?_)
  · exact absurd c_1 h.1
  · refine lv_iload_n hx9 hb dL_thrown_6 rfl (lv_at hl 0 rfl) ?_
    refine lv_ldc (v := (-9999002)) hx9 hb hown (hts (.constant RL 18 (-9999002)) (by decide +kernel)) dL_thrown_7 ?_
    refine lv_icmp_eq (tgt := 18) hx9 hb dL_thrown_9 (by decide) (fun c_2 => ?_) (fun c_2 => ?_)
    · exact absurd c_2 h.2.1
    · refine lv_iload_n hx9 hb dL_thrown_12 rfl (lv_at hl 0 rfl) ?_
      refine lv_ldc (v := (-9999003)) hx9 hb hown (hts (.constant RL 21 (-9999003)) (by decide +kernel)) dL_thrown_13 ?_
      refine lv_icmp_ne (tgt := 22) hx9 hb dL_thrown_15 (by decide) (fun c_3 => ?_) (fun c_3 => ?_)
      · refine lv_iconst (v := 0) hx9 hb dL_thrown_22 (by decide) ?_
        exact hret _ _ dL_thrown_23
      · exact absurd c_3 h.2.2
/-- what the script gives at a place -/
def cellV (L : Nat) (xs : Nat → Int32) (k : Nat) : Int32 := (if k < L then xs k else 15520129 * nI (k + 3) + 12041) &&& 2147483647
theorem cellV_n {L : Nat} {xs : Nat → Int32} {k : Nat} : ∃ j : Nat, j < 2 ^ 31 ∧ cellV L xs k = nI j := pk_andE _ 31 (by decide +kernel)
def Xs (sb L : Nat) (xs : Nat → Int32) (U : State) : Prop := va_X sb L xs U U.heap ∧ sb < U.heap.size
theorem Xok_c {sb L : Nat} {xs : Nat → Int32} : Xok (Xs sb L xs) := fun U g mk a h => ⟨va_X.moved (u := U) (U := U.calling g mk a) (Vm.Alike.refl U.vm) h.1, h.2⟩
theorem Xs.at {sb L : Nat} {xs : Nat → Int32} {A : Nat → Prop} {s U : State} {H : Heap} {locs : List Loc} (hX : va_X sb L xs s s.heap) (hbl : sb < s.heap.size) (hbA : ¬ A sb) (hS : va_S A s.heap H locs) (hU : U.heap = H) (hW : s.WarmedH U.vm) : Xs sb L xs U := by
  subst hU
  exact ⟨va_X.moved hW.alike (hX.kept (hS.2.1 sb hbl hbA)), Nat.lt_of_lt_of_le hbl hS.1⟩
abbrev rm_L_cell : Room := { frames := 0, cells := 0, slots := 0, locals := 0 }
theorem c_L_cell (l : Launch) (D : va_G) (cy : Nat → ClassId) (sb L : Nat) (xs : Nat → Int32) (hL : L ≤ 260) (k : Nat) (hk : k < 1000) : Met l yL_cell wsL_cell rm_L_cell (rdX D cy [.ref sb, .int (nI k)] [] (Xs sb L xs)) (QcRead (cellV L xs k)) 0 0 (fun _ => False) := by
  refine MrdX (cc := cL_cell) (maxL := 2) (ty := .int) (by decide) rfl (Nat.le_of_ble_eq_true rfl) rfl ?_
  intro p e s m args below meth c Q ls hX hF hK hP hl hret
  obtain ⟨hx9, hb, hml, hown, hts⟩ := id hF
  have hown : s.vm.findClass RL = some m.cls := hown
  have hl : lv_has ls 2 [(0, .ref sb), (1, .int (nI k))] := hl
  obtain ⟨hXs, hbl⟩ := hX
  have hS : va_S (fun _ => False) s.heap s.heap [] := va_S.rf
  refine lv_iload_n hx9 hb dL_cell_0 rfl (lv_at hl 1 rfl) ?_
  refine lv_aload_n hx9 hb dL_cell_1 rfl (lv_at hl 0 rfl) ?_
  refine va_slen hx9 hb hXs hbl (fun h => h) hS dL_cell_2 ?_
  have go : ∀ v : Int32, v = (if k < L then xs k else 15520129 * nI (k + 3) + 12041) → W p l e rm_L_cell s m args below meth c s.heap [] 0 0 Q (F0 m 22 ls [.int v]) := by
    intro v hv
    refine lv_ldc (v := 2147483647) hx9 hb hown (hts (.constant RL 137 (2147483647)) (by decide +kernel)) dL_cell_22 ?_
    refine lv_iand hx9 hb dL_cell_24 ?_
    refine zz_top (y := cellV L xs k) (by rw [hv]; rfl) ?_
    exact hret _ _ dL_cell_25
  refine lv_icmp_ge (tgt := 12) hx9 hb dL_cell_3 (by decide) (fun c_1 => ?_) (fun c_1 => ?_)
  · have c_1 : L ≤ k := (nI_leI (a := L) (b := k) (by omega) (by omega)).mp c_1
    refine lv_ldc (v := 15520129) hx9 hb hown (hts (.constant RL 136 (15520129)) (by decide +kernel)) dL_cell_12 ?_
    refine lv_iload_n hx9 hb dL_cell_14 rfl (lv_at hl 1 rfl) ?_
    refine lv_iconst (v := 3) hx9 hb dL_cell_15 (by decide) ?_
    refine lv_iadd hx9 hb dL_cell_16 ?_
    refine zz_top (y := nI (k + 3)) (nI_add _ _) ?_
    refine lv_imul hx9 hb dL_cell_17 ?_
    refine lv_sipush (v := 12041) hx9 hb dL_cell_18 (by decide) ?_
    refine lv_iadd hx9 hb dL_cell_21 ?_
    exact go _ (by rw [if_neg (by omega)])
  · have c_1 : k < L := Nat.not_le.mp (fun q => c_1 ((nI_leI (a := L) (b := k) (by omega) (by omega)).mpr q))
    refine lv_aload_n hx9 hb dL_cell_6 rfl (lv_at hl 0 rfl) ?_
    refine lv_iload_n hx9 hb dL_cell_7 rfl (lv_at hl 1 rfl) ?_
    refine va_sld hx9 hb hXs hbl (fun h => h) hS (vp_in_nI c_1 (by omega)) dL_cell_8 ?_
    refine lv_goto (tgt := 22) hx9 hb dL_cell_9 (by decide) ?_
    exact go _ (by rw [if_pos c_1, nI_clamp (by omega)])
