/-! THE REFERENCE'S OWN CELLS: the object at 175 with its numbers c, its rows q by their cells, its sums -/
def mObj (ad : Nat → Nat) (c : Nat → Int32) : va_E := .inr (9, [.ref (ad 176), .ref (ad 177), .ref (ad 178), .ref (ad 179), .ref (ad 180), .int (c 5), .int (c 6), .int (c 7), .ref (ad 181), .ref (ad 182), .ref (ad 183), .ref (ad 184), .int (c 12), .int (c 13), .int (c 14), .ref (ad 185), .int (c 16), .int (c 17), .int (c 18), .ref (ad 186), .ref (ad 187), .ref (ad 188), .int (c 22), .int (c 23), .int (c 24), .int (c 25), .ref (ad 189), .ref (ad 190), .int (c 28), .int (c 29), .ref (ad 191), .ref (ad 192), .ref (ad 193), .ref (ad 194), .ref (ad 195)])
def kt (i : Nat) : Nat := if i = 191 then 2 else if i = 192 ∨ i = 195 then 3 else 0
def kn (i : Nat) : Nat := if i = 185 then 72 else if i = 186 ∨ i = 187 ∨ i = 188 ∨ i = 193 then 60 else if i = 189 then 768 else if i = 190 then 3 else if i = 191 then 100 else if i = 192 ∨ i = 194 ∨ i = 195 then 2 else 10
def mArr (g : Gx) (q : Nat → Nat → Int32) (s : Nat → Int64) (i : Nat) : va_E := .inl (g.2.2 (kt i), kn i, if i = 191 then .inr (.inl s) else .inl (q i))
def MC (g : Gx) (ad : Nat → Nat) (F : Nat → va_E) (c : Nat → Int32) (q : Nat → Nat → Int32) (s : Nat → Int64) : Prop := F 175 = mObj ad c ∧ ∀ i, 176 ≤ i → i < 196 → F i = mArr g q s i
theorem mArr_191 {g : Gx} {q : Nat → Nat → Int32} {s : Nat → Int64} : mArr g q s 191 = .inl (g.2.2 2, 100, .inr (.inl s)) := by unfold mArr; rw [if_pos rfl]; rfl
theorem mArr_i {g : Gx} {q : Nat → Nat → Int32} {s : Nat → Int64} {i t n : Nat} (hi : i ≠ 191) (ht : kt i = t) (hn : kn i = n) : mArr g q s i = .inl (g.2.2 t, n, .inl (q i)) := by unfold mArr; rw [if_neg hi, ht, hn]
section MCELLS
variable {g : Gx} {ad : Nat → Nat} {F F' : Nat → va_E} {c : Nat → Int32} {q : Nat → Nat → Int32} {s : Nat → Int64}
theorem MC.c176 (h : MC g ad F c q s) : F 176 = .inl (g.2.2 0, 10, .inl (q 176)) := (h.2 176 (by decide) (by decide)).trans (mArr_i (by decide) (by decide) (by decide))
theorem MC.c177 (h : MC g ad F c q s) : F 177 = .inl (g.2.2 0, 10, .inl (q 177)) := (h.2 177 (by decide) (by decide)).trans (mArr_i (by decide) (by decide) (by decide))
theorem MC.c178 (h : MC g ad F c q s) : F 178 = .inl (g.2.2 0, 10, .inl (q 178)) := (h.2 178 (by decide) (by decide)).trans (mArr_i (by decide) (by decide) (by decide))
theorem MC.c179 (h : MC g ad F c q s) : F 179 = .inl (g.2.2 0, 10, .inl (q 179)) := (h.2 179 (by decide) (by decide)).trans (mArr_i (by decide) (by decide) (by decide))
theorem MC.c180 (h : MC g ad F c q s) : F 180 = .inl (g.2.2 0, 10, .inl (q 180)) := (h.2 180 (by decide) (by decide)).trans (mArr_i (by decide) (by decide) (by decide))
theorem MC.c181 (h : MC g ad F c q s) : F 181 = .inl (g.2.2 0, 10, .inl (q 181)) := (h.2 181 (by decide) (by decide)).trans (mArr_i (by decide) (by decide) (by decide))
theorem MC.c182 (h : MC g ad F c q s) : F 182 = .inl (g.2.2 0, 10, .inl (q 182)) := (h.2 182 (by decide) (by decide)).trans (mArr_i (by decide) (by decide) (by decide))
theorem MC.c183 (h : MC g ad F c q s) : F 183 = .inl (g.2.2 0, 10, .inl (q 183)) := (h.2 183 (by decide) (by decide)).trans (mArr_i (by decide) (by decide) (by decide))
theorem MC.c184 (h : MC g ad F c q s) : F 184 = .inl (g.2.2 0, 10, .inl (q 184)) := (h.2 184 (by decide) (by decide)).trans (mArr_i (by decide) (by decide) (by decide))
theorem MC.c185 (h : MC g ad F c q s) : F 185 = .inl (g.2.2 0, 72, .inl (q 185)) := (h.2 185 (by decide) (by decide)).trans (mArr_i (by decide) (by decide) (by decide))
theorem MC.c186 (h : MC g ad F c q s) : F 186 = .inl (g.2.2 0, 60, .inl (q 186)) := (h.2 186 (by decide) (by decide)).trans (mArr_i (by decide) (by decide) (by decide))
theorem MC.c187 (h : MC g ad F c q s) : F 187 = .inl (g.2.2 0, 60, .inl (q 187)) := (h.2 187 (by decide) (by decide)).trans (mArr_i (by decide) (by decide) (by decide))
theorem MC.c188 (h : MC g ad F c q s) : F 188 = .inl (g.2.2 0, 60, .inl (q 188)) := (h.2 188 (by decide) (by decide)).trans (mArr_i (by decide) (by decide) (by decide))
theorem MC.c189 (h : MC g ad F c q s) : F 189 = .inl (g.2.2 0, 768, .inl (q 189)) := (h.2 189 (by decide) (by decide)).trans (mArr_i (by decide) (by decide) (by decide))
theorem MC.c190 (h : MC g ad F c q s) : F 190 = .inl (g.2.2 0, 3, .inl (q 190)) := (h.2 190 (by decide) (by decide)).trans (mArr_i (by decide) (by decide) (by decide))
theorem MC.c191 (h : MC g ad F c q s) : F 191 = .inl (g.2.2 2, 100, .inr (.inl s)) := (h.2 191 (by decide) (by decide)).trans mArr_191
theorem MC.c192 (h : MC g ad F c q s) : F 192 = .inl (g.2.2 3, 2, .inl (q 192)) := (h.2 192 (by decide) (by decide)).trans (mArr_i (by decide) (by decide) (by decide))
theorem MC.c193 (h : MC g ad F c q s) : F 193 = .inl (g.2.2 0, 60, .inl (q 193)) := (h.2 193 (by decide) (by decide)).trans (mArr_i (by decide) (by decide) (by decide))
theorem MC.c194 (h : MC g ad F c q s) : F 194 = .inl (g.2.2 0, 2, .inl (q 194)) := (h.2 194 (by decide) (by decide)).trans (mArr_i (by decide) (by decide) (by decide))
theorem MC.c195 (h : MC g ad F c q s) : F 195 = .inl (g.2.2 3, 2, .inl (q 195)) := (h.2 195 (by decide) (by decide)).trans (mArr_i (by decide) (by decide) (by decide))
theorem MC.fld (h : MC g ad F c q s) {c' : Nat → Int32} (e : F' = va_up F 175 (mObj ad c')) : MC g ad F' c' q s := by
  subst e
  exact ⟨va_up_self _ _ _, fun i h1 h2 => by rw [va_up_ne _ _ (by omega)]; exact h.2 i h1 h2⟩
theorem MC.arr (h : MC g ad F c q s) {i t n : Nat} {f : Nat → Int32} (h1 : 176 ≤ i) (h2 : i < 196) (hi : i ≠ 191) (ht : kt i = t) (hn : kn i = n) (e : F' = va_up F i (.inl (g.2.2 t, n, .inl f))) : MC g ad F' c (va_up q i f) s := by
  subst e
  refine ⟨by rw [va_up_ne _ _ (by omega)]; exact h.1, fun j h3 h4 => ?_⟩
  by_cases hj : j = i
  · subst hj
    rw [va_up_self, mArr_i hi ht hn, va_up_self]
  · rw [va_up_ne _ _ hj, h.2 j h3 h4]
    unfold mArr
    rw [va_up_ne _ _ hj]
theorem MC.sum (h : MC g ad F c q s) {f : Nat → Int64} (e : F' = va_up F 191 (.inl (g.2.2 2, 100, .inr (.inl f)))) : MC g ad F' c q f := by
  subst e
  refine ⟨by rw [va_up_ne _ _ (by omega)]; exact h.1, fun j h3 h4 => ?_⟩
  by_cases hj : j = 191
  · subst hj
    rw [va_up_self, mArr_191]
  · rw [va_up_ne _ _ hj, h.2 j h3 h4]
    unfold mArr
    rw [if_neg hj, if_neg hj]
theorem MC.keep {a b : Nat} (h : MC g ad F c q s) (hs : Same a b F F') (hd : 196 ≤ a ∨ b ≤ 175) : MC g ad F' c q s := ⟨by rw [hs _ (by omega)]; exact h.1, fun i h1 h2 => by rw [hs _ (by omega)]; exact h.2 i h1 h2⟩
end MCELLS
/-- only bank b of at, size, worms has changed -/
def QS (b : Nat) (q q' : Nat → Nat → Int32) : Prop := ∀ i, (i < 186 ∨ 188 < i → q' i = q i) ∧ ∀ j, j < b ∨ b + 10 ≤ j → q' i j = q i j
theorem QS.rf {b : Nat} {q : Nat → Nat → Int32} : QS b q q := fun _ => ⟨fun _ => rfl, fun _ _ => rfl⟩
theorem QS.tr {b : Nat} {q q' q'' : Nat → Nat → Int32} (h : QS b q q') (h2 : QS b q' q'') : QS b q q'' := fun i => ⟨fun z => ((h2 i).1 z).trans ((h i).1 z), fun j z => ((h2 i).2 j z).trans ((h i).2 j z)⟩
theorem QS.up {b i j : Nat} {q q' : Nat → Nat → Int32} {x : Int32} (h : QS b q q') (hi : 186 ≤ i ∧ i ≤ 188) (hj : b ≤ j ∧ j < b + 10) : QS b q (va_up q' i (upd (q' i) j x)) := by
  intro k
  constructor
  · intro z; rw [va_up_ne _ _ (by omega)]; exact (h k).1 z
  · intro y z
    by_cases e : k = i
    · subst e
      rw [va_up_self]
      show (if y = j then x else q' k y) = q k y
      rw [if_neg (by omega)]
      exact (h k).2 y z
    · rw [va_up_ne _ _ e]; exact (h k).2 y z
/-- the ship that stands, and what a bank holds -/
def HullR (h : HV) (c : Nat → Int32) (q : Nat → Nat → Int32) : Prop := c 12 = nI (hn h) ∧ c 13 = nI (hpu h) ∧ c 14 = nI (hho h) ∧ ∀ p, p < hn h → q 181 p = nI (hle h p) ∧ q 182 p = nI (hin_ h p) ∧ q 183 p = oI (hre h p) ∧ q 184 p = oI (hsh h p)
def BankR (h : HV) (q : Nat → Nat → Int32) (b : Nat) (w : LV) : Prop := ∀ t, t < hn h → q 186 (b + t) = nI (wh w t) ∧ q 187 (b + t) = nI (ln w t) ∧ q 188 (b + t) = nI (wo w t)
theorem HullR.qs {h : HV} {c : Nat → Int32} {q q' : Nat → Nat → Int32} {b : Nat} (k : HullR h c q) (s : QS b q q') : HullR h c q' := ⟨k.1, k.2.1, k.2.2.1, fun p hp => by rw [(s 181).1 (by decide), (s 182).1 (by decide), (s 183).1 (by decide), (s 184).1 (by decide)]; exact k.2.2.2 p hp⟩
theorem BankR.qs {h : HV} {q q' : Nat → Nat → Int32} {b a : Nat} {w : LV} (k : BankR h q a w) (s : QS b q q') (hn10 : hn h ≤ 10) (hab : a + 10 ≤ b ∨ b + 10 ≤ a) : BankR h q' a w := fun t ht => by
  rw [(s 186).2 _ (by omega), (s 187).2 _ (by omega), (s 188).2 _ (by omega)]; exact k t ht
/-- inside: the timber in place p -/
theorem in_none {h : HV} {w : LV} (ok : HOK h) (k : LOK h w) {p : Nat} (hp : p < 10) (q : ∀ t, t < hn h → wh w t ≠ p) : ti w p = none := by
  cases e : ti w p with
  | none => rfl
  | some t => exact absurd (k.tn ok hp e).2.1 (q t (k.in_ ok hp e))
theorem in_some {h : HV} {w : LV} (ok : HOK h) (k : LOK h w) {p t : Nat} (hp : p < 10) (ht : t < hn h) (q : wh w t = p) : ti w p = some t := (k.2.2.2.1 p t hp).mpr ⟨by have := ok.1; omega, q⟩
def inB (v a b : Int64) : Bool := decide (a ≤ v) && decide (v ≤ b)
theorem lc_lt {a b : Int64} : lg_cmp a b < 0 ↔ ¬ b ≤ a := by
  unfold lg_cmp
  have hle : b ≤ a ↔ ¬ a < b := by rw [Int64.le_iff_toInt_le, Int64.lt_iff_toInt_lt]; omega
  by_cases h1 : b < a
  · rw [if_pos h1]
    have : b ≤ a := by rw [Int64.le_iff_toInt_le]; rw [Int64.lt_iff_toInt_lt] at h1; omega
    exact ⟨fun z => absurd z (by decide), fun z => absurd this z⟩
  · rw [if_neg h1]
    by_cases h2 : a = b
    · rw [if_pos h2]
      subst h2
      exact ⟨fun z => absurd z (by decide), fun z => absurd (by rw [Int64.le_iff_toInt_le]; omega) z⟩
    · rw [if_neg h2]
      have h3 : ¬ a.toInt = b.toInt := fun z => h2 (Int64.toInt_inj.mp z)
      rw [Int64.lt_iff_toInt_lt] at h1
      exact ⟨fun _ z => by rw [Int64.le_iff_toInt_le] at z; omega, fun _ => by decide⟩
theorem lc_gt {a b : Int64} : 0 < lg_cmp a b ↔ ¬ a ≤ b := by
  unfold lg_cmp
  by_cases h1 : b < a
  · rw [if_pos h1]
    rw [Int64.lt_iff_toInt_lt] at h1
    exact ⟨fun _ z => by rw [Int64.le_iff_toInt_le] at z; omega, fun _ => by decide⟩
  · rw [if_neg h1]
    rw [Int64.lt_iff_toInt_lt] at h1
    have h4 : a ≤ b := by rw [Int64.le_iff_toInt_le]; omega
    split
    · exact ⟨fun z => absurd z (by decide), fun z => absurd h4 z⟩
    · exact ⟨fun z => absurd z (by decide), fun z => absurd h4 z⟩
/-- in, of an int between two numbers -/
def inI (x a b : Int32) : Bool := decide (a ≤ x) && decide (x ≤ b)
theorem inB_i (x a b : Int32) : inB (Int32.toInt64 x) (Int32.toInt64 a) (Int32.toInt64 b) = inI x a b := by
  unfold inB inI
  simp only [Int64.le_iff_toInt_le, Int32.le_iff_toInt_le, Int32.toInt_toInt64]
