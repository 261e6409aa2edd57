/-! words at their places, a code's bytes compared as lists -/
def zz_eq (a b : Cond) : Bool := match a, b with
  | .code y c n r, .code y2 c2 n2 r2 => decide (y = y2) && (decide (c.data.toList = c2.data.toList) && (decide (n = n2) && decide (r = r2)))
  | a, b => decide (a = b)
theorem zz_eq_ok {a b : Cond} (h : zz_eq a b = true) : a = b := by
  unfold zz_eq at h
  split at h
  · rename_i y c n r y2 c2 n2 r2
    simp only [Bool.and_eq_true, decide_eq_true_eq] at h
    obtain ⟨h1, h2, h3, h4⟩ := h
    have hc : c = c2 := by
      cases c
      cases c2
      exact congrArg ByteArray.mk (Array.toList_inj.mp h2)
    rw [h1, hc, h3, h4]
  · exact of_decide_eq_true h
def zz_at (big : List Cond) : List Cond → List Nat → Bool
  | [], [] => true
  | w :: ws, i :: is => (match big[i]? with
    | some b => zz_eq w b && goodWord w
    | none => false) && zz_at big ws is
  | _, _ => false
theorem zz_at_ok {big : List Cond} : ∀ {ws : List Cond} {is : List Nat}, zz_at big ws is = true → GoodIn big ws
  | [], [], _ => fun w h => absurd h List.not_mem_nil
  | w :: ws, i :: is, h => by
    simp only [zz_at, Bool.and_eq_true] at h
    obtain ⟨h1, h2⟩ := h
    cases hb : big[i]? with
    | none => rw [hb] at h1; exact absurd h1 Bool.false_ne_true
    | some b =>
      rw [hb] at h1
      simp only [Bool.and_eq_true] at h1
      exact goodIn_hd (by rw [zz_eq_ok h1.1]; exact List.mem_of_getElem? hb) h1.2 (zz_at_ok h2)
  | [], _ :: _, h => by simp [zz_at] at h
  | _ :: _, [], h => by simp [zz_at] at h
