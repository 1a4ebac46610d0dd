/-! WHAT A STATE IS: numbers; a Load, a Hull, a Text by the cells where they stand -/
def bI (b : Bool) : Int32 := if b then 1 else 0
def oI (o : Option Nat) : Int32 := match o with
  | none => -9
  | some k => nI k
theorem bI_f {b : Bool} : bI b = 0 ↔ b = false := by cases b <;> decide
theorem bI_t {b : Bool} : ¬ bI b = 0 ↔ b = true := by cases b <;> decide
theorem nar_b (b : Bool) : narrow .boolean (.int (bI b)) = .int (bI b) := by cases b <;> rfl
theorem fit_b (b : Bool) : fits .boolean (.int (bI b)) = true := by cases b <;> rfl
theorem vnar_b (b : Bool) : vp_nar .boolean (bI b) = bI b := by cases b <;> rfl
theorem nI_le0 {n : Nat} (h : n = 0) : nI n ≤ 0 := by subst h; decide
theorem nI_eq0 {n : Nat} (h : n = 0) : nI n = 0 := by subst h; decide
theorem nI_ngt0 {n : Nat} (h : n = 0) : ¬ 0 < nI n := by subst h; decide
theorem nI_gt0 {n : Nat} (h : 0 < n) (h2 : n < 2 ^ 31) : 0 < nI n := by
  rw [Int32.lt_iff_toInt_lt, nI_toInt h2, Int32.toInt_zero]; omega
theorem nI_ne9 {n : Nat} (h : n < 2 ^ 31) : ¬ nI n = -9 := by
  intro q
  have a := nI_toInt h
  rw [q] at a
  have b : (-9 : Int32).toInt = -9 := by decide
  omega
theorem oI_9 {o : Option Nat} (h : ∀ k, o = some k → k < 2 ^ 31) : oI o = -9 ↔ o = none := by
  cases o with
  | none => simp [oI]
  | some k => simp [oI, nI_ne9 (h k rfl)]
theorem oI_lt0 {o : Option Nat} (h : ∀ k, o = some k → k < 2 ^ 31) : oI o < 0 ↔ o = none := by
  cases o with
  | none => simp [oI]
  | some k => simp [oI, nI_pos (h k rfl)]
theorem upd_nI (f : Nat → Nat) (k x : Nat) : upd (fun j => nI (f j)) k (nI x) = fun j => nI (va_up f k x j) := by
  funext j
  by_cases h : j = k
  · subst h; simp [upd, va_up]
  · simp [upd, va_up, h]
theorem upd_oI (f : Nat → Option Nat) (k : Nat) (o : Option Nat) : upd (fun j => oI (f j)) k (oI o) = fun j => oI (va_up f k o j) := by
  funext j
  by_cases h : j = k
  · subst h; simp [upd, va_up]
  · simp [upd, va_up, h]
theorem upd_bI (f : Nat → Bool) (k : Nat) (o : Bool) : upd (fun j => bI (f j)) k (bI o) = fun j => bI (va_up f k o j) := by
  funext j
  by_cases h : j = k
  · subst h; simp [upd, va_up]
  · simp [upd, va_up, h]
/-- outside the cells lo .. hi nothing has changed -/
def Same (a b : Nat) (F F' : Nat → va_E) : Prop := ∀ i, i < a ∨ b ≤ i → F' i = F i
theorem Same.rf {a b : Nat} {F : Nat → va_E} : Same a b F F := fun _ _ => rfl
theorem Same.up {a b k : Nat} {F F' : Nat → va_E} {e : va_E} (h : Same a b F F') (h1 : a ≤ k) (h2 : k < b) : Same a b F (va_up F' k e) := fun i hi => by
  rw [va_up_ne _ _ (by omega)]; exact h i hi
theorem Same.tr {a b c d x y : Nat} {F F' F'' : Nat → va_E} (h : Same a b F F') (h2 : Same c d F' F'') (h3 : x ≤ a) (h4 : b ≤ y) (h5 : x ≤ c) (h6 : d ≤ y) : Same x y F F'' := fun i hi => (h2 i (by omega)).trans (h i (by omega))
theorem Same.tr2 {c d x y : Nat} {F F' F'' : Nat → va_E} (h : Same x y F F') (h2 : Same c d F' F'') (h5 : x ≤ c) (h6 : d ≤ y) : Same x y F F'' := fun i hi => (h2 i (by omega)).trans (h i (by omega))
theorem Same.wide {a b x y : Nat} {F F' : Nat → va_E} (h : Same a b F F') (h3 : x ≤ a) (h4 : b ≤ y) : Same x y F F' := fun i hi => h i (by omega)
/-- a Load's value: where each timber is, how long, its worms; the timber in each place; water; sunk -/
abbrev LV : Type := (Nat → Nat) × (Nat → Nat) × (Nat → Nat) × (Nat → Option Nat) × Nat × Bool
def wh (w : LV) : Nat → Nat := w.1
def ln (w : LV) : Nat → Nat := w.2.1
def wo (w : LV) : Nat → Nat := w.2.2.1
def ti (w : LV) : Nat → Option Nat := w.2.2.2.1
def wa (w : LV) : Nat := w.2.2.2.2.1
def su (w : LV) : Bool := w.2.2.2.2.2
def LoadC (g : Gx) (ad : Nat → Nat) (F : Nat → va_E) (b : Nat) (w : LV) : Prop :=
  F b = .inr (3, [.ref (ad (b + 1)), .ref (ad (b + 2)), .ref (ad (b + 3)), .ref (ad (b + 4)), .int (nI (wa w)), .int (bI (su w))]) ∧
  F (b + 1) = .inl (g.2.2 0, 10, .inl (fun j => nI (wh w j))) ∧ F (b + 2) = .inl (g.2.2 0, 10, .inl (fun j => nI (ln w j))) ∧
  F (b + 3) = .inl (g.2.2 0, 10, .inl (fun j => nI (wo w j))) ∧ F (b + 4) = .inl (g.2.2 0, 10, .inl (fun j => oI (ti w j)))
theorem LoadC.keep {g : Gx} {ad : Nat → Nat} {F F' : Nat → va_E} {b : Nat} {w : LV} {x y : Nat} (h : LoadC g ad F b w) (hs : Same x y F F') (hd : b + 5 ≤ x ∨ y ≤ b) : LoadC g ad F' b w := by
  obtain ⟨h0, h1, h2, h3, h4⟩ := h
  exact ⟨by rw [hs _ (by omega)]; exact h0, by rw [hs _ (by omega)]; exact h1, by rw [hs _ (by omega)]; exact h2, by rw [hs _ (by omega)]; exact h3, by rw [hs _ (by omega)]; exact h4⟩
/-- the Hull's value: places, pumps, hold; by place: how long, what it lets in, on which it rests; by timber: its ship -/
abbrev HV : Type := Nat × Nat × Nat × (Nat → Nat) × (Nat → Nat) × (Nat → Option Nat) × (Nat → Option Nat)
def hn (h : HV) : Nat := h.1
def hpu (h : HV) : Nat := h.2.1
def hho (h : HV) : Nat := h.2.2.1
def hle (h : HV) : Nat → Nat := h.2.2.2.1
def hin_ (h : HV) : Nat → Nat := h.2.2.2.2.1
def hre (h : HV) : Nat → Option Nat := h.2.2.2.2.2.1
def hsh (h : HV) : Nat → Option Nat := h.2.2.2.2.2.2
def HullC (g : Gx) (ad : Nat → Nat) (F : Nat → va_E) (h : HV) : Prop :=
  F 3 = .inr (2, [.ref (ad 4), .ref (ad 5), .ref (ad 6), .ref (ad 7), .int (nI (hn h)), .int (nI (hpu h)), .int (nI (hho h))]) ∧
  F 4 = .inl (g.2.2 0, 10, .inl (fun j => nI (hle h j))) ∧ F 5 = .inl (g.2.2 0, 10, .inl (fun j => nI (hin_ h j))) ∧
  F 6 = .inl (g.2.2 0, 10, .inl (fun j => oI (hre h j))) ∧ F 7 = .inl (g.2.2 0, 10, .inl (fun j => oI (hsh h j)))
theorem HullC.keep {g : Gx} {ad : Nat → Nat} {F F' : Nat → va_E} {h : HV} {x y : Nat} (hh : HullC g ad F h) (hs : Same x y F F') (hd : 8 ≤ x ∨ y ≤ 3) : HullC g ad F' h := by
  obtain ⟨h0, h1, h2, h3, h4⟩ := hh
  exact ⟨by rw [hs _ (by omega)]; exact h0, by rw [hs _ (by omega)]; exact h1, by rw [hs _ (by omega)]; exact h2, by rw [hs _ (by omega)]; exact h3, by rw [hs _ (by omega)]; exact h4⟩
/-- what lies beyond the ten: as the arrays were made -/
def CAN (w : LV) : Prop := ∀ j, 10 ≤ j → wh w j = 0 ∧ ln w j = 0 ∧ wo w j = 0 ∧ ti w j = some 0
theorem cpy_10 {α : Type} {f h : Nat → α} {k : Nat} (he : ∀ j, k ≤ j → h j = f j) : va_cpy f h 0 0 k = f := by
  funext j
  by_cases hj : j < k
  · simp [va_cpy, hj]
  · have : ¬ j < k := hj
    simp [va_cpy, hj, he j (by omega)]
/-- what a hull, a load are: small numbers, one timber a place -/
def HOK (h : HV) : Prop := hn h ≤ 10 ∧ hpu h ≤ 9 ∧ hho h ≤ 99 ∧ (∀ j, hle h j ≤ 9 ∧ hin_ h j ≤ 9) ∧ (∀ j r, hre h j = some r → r < 10 ∧ (j < hn h → r < j)) ∧ ∀ j r, hsh h j = some r → r < 3
