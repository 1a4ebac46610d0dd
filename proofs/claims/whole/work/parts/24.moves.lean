/-! MOVES, one after another: which may be, what they leave -/
theorem LOK_cut {h : HV} {w : LV} (k : LOK h w) {t x : Nat} (ht : t < 10) (hx : x ≤ 9) : LOK h (cutV w t x) := by
  obtain ⟨k1, k2, k3, k4, k5, k6, k7, k8⟩ := k
  refine ⟨fun s => ⟨(k1 s).1, ?_, (k1 s).2.2⟩, k2, k3, k4, k5, k6, k7, fun j hj => ⟨(k8 j hj).1, ?_, (k8 j hj).2.2.1, (k8 j hj).2.2.2⟩⟩
  · show va_up (ln w) t x s ≤ 9
    by_cases e : s = t
    · rw [e, va_up_self]; exact hx
    · rw [va_up_ne _ _ e]; exact (k1 s).2.1
  · show va_up (ln w) t x j = 0
    rw [va_up_ne _ _ (by omega)]; exact (k8 j hj).2.1
theorem fitsV_p {h : HV} {w : LV} {t p : Nat} (q : fitsV h w t p = true) : p < hn h ∧ ti w p = none ∧ hle h p ≤ ln w t := by
  simp only [fitsV, Bool.and_eq_true, decide_eq_true_eq, Option.isNone_iff_eq_none] at q
  exact ⟨q.1, q.2.1, q.2.2.1⟩
theorem mayV_f {h : HV} {w : LV} {t p : Nat} (q : mayV h w t p = true) : fitsV h w t p = true ∧ (wh w t = 100 ∨ wh w t < hn h) := by
  unfold mayV at q
  split at q
  · next e => exact ⟨q, Or.inl e⟩
  · simp only [Bool.and_eq_true, decide_eq_true_eq] at q
    exact ⟨q.2.2.2, Or.inr q.1⟩
theorem mayV_t {h : HV} {w : LV} (ok : HOK h) (k : LOK h w) {t p : Nat} (ht : t < 10) (q : mayV h w t p = true) : t < hn h := by
  have e := (mayV_f q).2
  have := ok.1
  rcases Nat.lt_or_ge t (hn h) with z | z
  · exact z
  · have := k.2.2.2.2.2.1 t z ht
    omega
theorem LOK_put {h : HV} {w : LV} (ok : HOK h) (k : LOK h w) {t p : Nat} (ht : t < 10) (hw : wh w t ≠ 200) (q : fitsV h w t p = true) : LOK h (cutV' h w t p) := by
  obtain ⟨e1, e2, e3⟩ := fitsV_p q
  have htn : t < hn h := by
    rcases Nat.lt_or_ge t (hn h) with z | z
    · exact z
    · exact absurd (k.2.2.2.2.2.1 t z ht) hw
  exact LOK_cut (LOK_bring ok k htn (Or.inr ⟨k.2.2.2.2.2.2.1 t ht hw, Or.inr ⟨e1, e2⟩⟩)) ht (ok.2.2.2.1 p).1
theorem LOK_move {h : HV} {w : LV} (ok : HOK h) (k : LOK h w) {t p : Nat} (ht : t < 10) (q : mayV h w t p = true) : LOK h (cutV' h w t p) :=
  LOK_put ok k ht (by have := (mayV_f q).2; have := ok.1; omega) (mayV_f q).1
/-- told as 10 times the timber and the place -/
def mayM (h : HV) (w : LV) (m : Nat) : Bool := mayV h w (m / 10) (m % 10)
def stepV (h : HV) (w : LV) (m : Nat) : LV := cutV' h w (m / 10) (m % 10)
theorem LOK_step {h : HV} {w : LV} (ok : HOK h) (k : LOK h w) {m : Nat} (hm : m < 100) (q : mayM h w m = true) : LOK h (stepV h w m) := LOK_move ok k (by omega) q
/-- all MOVES that may be, from m on: k of them are looked at -/
def movesK (h : HV) (w : LV) : Nat → Nat → List Nat
  | 0, _ => []
  | k + 1, m => if mayM h w m = true then m :: movesK h w k (m + 1) else movesK h w k (m + 1)
def L1 (h : HV) (w : LV) (m : Nat) : List Nat := movesK h w (100 - m) m
theorem L1_end {h : HV} {w : LV} {m : Nat} (hm : 100 ≤ m) : L1 h w m = [] := by
  rw [L1, show 100 - m = 0 by omega]; rfl
theorem L1_yes {h : HV} {w : LV} {m : Nat} (hm : m < 100) (q : mayM h w m = true) : L1 h w m = m :: L1 h w (m + 1) := by
  unfold L1
  rw [show 100 - m = (100 - (m + 1)) + 1 by omega, movesK, if_pos q]
theorem L1_no {h : HV} {w : LV} {m : Nat} (hm : m < 100) (q : mayM h w m = false) : L1 h w m = L1 h w (m + 1) := by
  unfold L1
  rw [show 100 - m = (100 - (m + 1)) + 1 by omega, movesK, if_neg (by rw [q]; decide)]
def L2 (h : HV) (w : LV) (m : Nat) : List (List Nat) := (L1 h w m).flatMap (fun x => (L1 h (stepV h w x) 0).map (fun y => [x, y]))
/-- all rows of so many MOVES, the first ones first -/
def rowsV (h : HV) (w : LV) : Nat → List (List Nat)
  | 0 => [[]]
  | 1 => (L1 h w 0).map (fun x => [x])
  | _ => L2 h w 0
def endV (h : HV) : LV → List Nat → LV
  | w, [] => w
  | w, x :: l => endV h (stepV h w x) l
