/-! BEST, PORT, THE LOG over the rows of MOVES -/
/-- the least LEAK so far and its row -/
def best1 (h : HV) (w : LV) (s : Nat × List Nat) (e : List Nat) : Nat × List Nat := if leakV h (endV h w e) < s.1 then (leakV h (endV h w e), e) else s
def bestF (h : HV) (w : LV) : List (List Nat) → Nat × List Nat → Nat × List Nat
  | [], s => s
  | e :: l, s => bestF h w l (best1 h w s e)
def bestV (h : HV) (w : LV) : Nat → Nat × List Nat
  | 0 => (leakV h w, [])
  | k + 1 => bestF h w (rowsV h w (k + 1)) (bestV h w k)
/-- the first row by which she floats n watches -/
def portF (h : HV) (w : LV) (n : Nat) : List (List Nat) → Option (List Nat)
  | [] => none
  | e :: l => if n ≤ floatsV h (endV h w e) then some e else portF h w n l
def portV (h : HV) (w : LV) (n : Nat) : Option (List Nat) :=
  match portF h w n (rowsV h w 0) with
  | some e => some e
  | none => match portF h w n (rowsV h w 1) with
    | some e => some e
    | none => portF h w n (rowsV h w 2)
theorem movesK_len (h : HV) (w : LV) : ∀ k m, (movesK h w k m).length ≤ k
  | 0, _ => Nat.le_refl _
  | k + 1, m => by
    have q := movesK_len h w k (m + 1)
    show (if mayM h w m = true then m :: movesK h w k (m + 1) else movesK h w k (m + 1)).length ≤ k + 1
    split
    · rw [List.length_cons]; omega
    · omega
theorem L1_len (h : HV) (w : LV) (m : Nat) : (L1 h w m).length ≤ 100 := Nat.le_trans (movesK_len h w _ _) (by omega)
theorem flat_len {α β : Type} (f : α → List β) (c : Nat) : ∀ l : List α, (∀ x, (f x).length ≤ c) → (l.flatMap f).length ≤ l.length * c
  | [], _ => Nat.zero_le _
  | x :: l, hf => by
    rw [List.flatMap_cons, List.length_append, List.length_cons, Nat.succ_mul]
    have := flat_len f c l hf
    have := hf x
    omega
theorem rowsV_len (h : HV) (w : LV) (m : Nat) : (rowsV h w m).length ≤ 10000 := by
  match m with
  | 0 => exact (by decide : 1 ≤ 10000)
  | 1 =>
    show ((L1 h w 0).map _).length ≤ 10000
    rw [List.length_map]
    exact Nat.le_trans (L1_len h w 0) (by decide)
  | k + 2 =>
    show (L2 h w 0).length ≤ 10000
    have q := flat_len (fun x => (L1 h (stepV h w x) 0).map (fun y => [x, y])) 100 (L1 h w 0) (fun x => by rw [List.length_map]; exact L1_len _ _ _)
    have q2 := Nat.mul_le_mul_right 100 (L1_len h w 0)
    unfold L2
    omega
/-- the Search's own cells: how many MOVES were found, and which -/
def SeaC (g : Gx) (ad : Nat → Nat) (F : Nat → va_E) (fm : Nat) (fo : Nat → Int32) : Prop := F 155 = .inr (5, [.ref (ad 3), .ref (ad 13), .ref (ad 157), .ref (ad 156), .int (nI fm)]) ∧ F 156 = .inl (g.2.2 0, 2, .inl fo)
def Fnd (fo : Nat → Int32) (fm : Nat) (l : List Nat) : Prop := l.length = fm ∧ fm ≤ 2 ∧ (∀ x ∈ l, x < 100) ∧ ∀ j, j < fm → fo j = oI (l[j]?)
def fndAt (l : List Nat) (x : Int32) : Option Nat := if 0 ≤ x ∧ x < nI l.length then l[x.toNatClampNeg]? else none
theorem Fnd_of {h : HV} {w0 : LV} {v : RV} {e : List Nat} {fo : Nat → Int32} (hc : Cur h w0 v e) (hm : rmv v ≤ 2) : Fnd (va_cpy (fun j => y1 (rro v j)) fo 0 0 (rmv v)) (rmv v) e := by
  obtain ⟨h1, h2, -, -, h5⟩ := hc
  refine ⟨h1, hm, h5, fun j hj => ?_⟩
  have e1 : va_cpy (fun j => y1 (rro v j)) fo 0 0 (rmv v) j = y1 (rro v j) := by simp [va_cpy, hj]
  rw [e1, h2 j hj]
  have h3 : j < e.length := by omega
  rw [List.getElem?_eq_getElem h3]
  rfl
theorem L1_lt {h : HV} {w : LV} {n x : Nat} (hx : x ∈ L1 h w n) : x < 100 := by
  unfold L1 at hx
  generalize hk : 100 - n = k at hx
  induction k generalizing n with
  | zero => cases hx
  | succ k ih =>
    unfold movesK at hx
    split at hx
    · rcases List.mem_cons.mp hx with rfl | hx
      · omega
      · exact ih (n := n + 1) (by omega) hx
    · exact ih (n := n + 1) (by omega) hx
theorem floatG_le (h : HV) : ∀ (k s : Nat) (u : LV), s + k ≤ 99 → floatG h k s u ≤ 99
  | 0, _, _, _ => Nat.le_refl _
  | k + 1, s, u, hs => by
    unfold floatG
    split
    · exact Nat.min_le_left _ _
    · split
      · omega
      · exact floatG_le h k (s + 1) _ (by omega)
theorem floatsV_le (h : HV) (w : LV) : floatsV h w ≤ 99 := by
  unfold floatsV
  split
  · exact Nat.zero_le _
  · exact floatG_le h 99 0 w (Nat.le_refl _)
theorem HullC.at {g : Gx} {ad : Nat → Nat} {F F' : Nat → va_E} {h : HV} (hh : HullC g ad F h) (hs : ∀ i, 3 ≤ i → i < 8 → F' i = F i) : HullC g ad F' h := by
  obtain ⟨h0, h1, h2, h3, h4⟩ := hh
  exact ⟨by rw [hs _ (by omega) (by omega)]; exact h0, by rw [hs _ (by omega) (by omega)]; exact h1, by rw [hs _ (by omega) (by omega)]; exact h2, by rw [hs _ (by omega) (by omega)]; exact h3, by rw [hs _ (by omega) (by omega)]; exact h4⟩
