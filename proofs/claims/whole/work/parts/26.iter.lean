/-! ROWS: what is still to come, and the row that stands now -/
theorem ROK_up {a : Nat} {b : Bool} {r : Nat → Option Nat} {st : Nat → LV} {v : RV} (ok : ROK v) (hst : rst v = st) {j : Nat} {w : LV} (hw : CAN w) (x : Nat) (y : Bool) (z : Nat → Option Nat) : ROK (x, y, z, va_up st j w) := by
  intro k hk
  show CAN (va_up st j w k)
  by_cases e : k = j
  · rw [e, va_up_self]; exact hw
  · rw [va_up_ne _ _ e, ← hst]; exact ok k hk
def RIt (h : HV) (w0 : LV) (v : RV) (rem : List (List Nat)) : Prop := LOK h w0 ∧ rst v 0 = w0 ∧ ROK v ∧ rmv v ≤ 2 ∧ ((rbg v = false ∧ rem = rowsV h w0 (rmv v)) ∨ (rbg v = true ∧ ((rmv v = 0 ∧ rem = []) ∨ (rmv v = 1 ∧ ∃ x, rro v 0 = some x ∧ x < 100 ∧ rem = (L1 h w0 (x + 1)).map (fun y => [y])) ∨ (rmv v = 2 ∧ ∃ x y, rro v 0 = some x ∧ x < 100 ∧ mayM h w0 x = true ∧ rst v 1 = stepV h w0 x ∧ rro v 1 = some y ∧ y < 100 ∧ rem = (L1 h (stepV h w0 x) (y + 1)).map (fun z => [x, z]) ++ L2 h w0 (x + 1)))))
/-- the row that stands now: its MOVES, and what it leaves -/
def Cur (h : HV) (w0 : LV) (v : RV) (e : List Nat) : Prop := e.length = rmv v ∧ (∀ j, j < rmv v → rro v j = e[j]?) ∧ rst v (rmv v) = endV h w0 e ∧ LOK h (endV h w0 e) ∧ ∀ x ∈ e, x < 100
theorem L2_nil {h : HV} {w : LV} {n : Nat} (q : L1 h w n = []) : L2 h w n = [] := by rw [L2, q]; rfl
theorem L2_cons {h : HV} {w : LV} {n m : Nat} (q : L1 h w n = m :: L1 h w (m + 1)) : L2 h w n = (L1 h (stepV h w m) 0).map (fun z => [m, z]) ++ L2 h w (m + 1) := by
  rw [L2, q]; rfl
