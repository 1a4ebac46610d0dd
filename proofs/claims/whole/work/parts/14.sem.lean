/-! THE SHIP'S RULES over the values of a Hull and a Load, as the class goes through them -/
def LOK (h : HV) (w : LV) : Prop := (∀ t, wh w t ≤ 200 ∧ ln w t ≤ 9 ∧ wo w t ≤ 10) ∧ wa w ≤ 300 ∧ (su w = false → wa w ≤ hho h) ∧ (∀ p t, p < 10 → (ti w p = some t ↔ t < 10 ∧ wh w t = p)) ∧ (∀ t, t < 10 → wh w t < hn h ∨ wh w t = 100 ∨ wh w t = 200) ∧ (∀ t, hn h ≤ t → t < 10 → wh w t = 200) ∧ (∀ t, t < 10 → wh w t ≠ 200 → wo w t ≤ 9) ∧ CAN w
theorem LOK.t10 {h : HV} {w : LV} (k : LOK h w) {p : Nat} (hp : p < 10) : ∀ t, ti w p = some t → t < 10 := fun t q => ((k.2.2.2.1 p t hp).mp q).1
theorem LOK.can {h : HV} {w : LV} (k : LOK h w) : CAN w := k.2.2.2.2.2.2.2
theorem LOK.tn {h : HV} {w : LV} (ok : HOK h) (k : LOK h w) {p t : Nat} (hp : p < 10) (q : ti w p = some t) : t < 10 ∧ wh w t = p ∧ p < hn h := by
  obtain ⟨h1, h2⟩ := (k.2.2.2.1 p t hp).mp q
  have := k.2.2.2.2.1 t h1
  exact ⟨h1, h2, by omega⟩
theorem oI_eq {o : Option Nat} {k : Nat} (h : ∀ j, o = some j → j < 2 ^ 31) (hk : k < 2 ^ 31) : oI o = nI k ↔ o = some k := by
  cases o with
  | none =>
    simp only [oI, reduceCtorEq, iff_false]
    exact fun q => nI_ne9 hk q.symm
  | some j =>
    simp only [oI, Option.some.injEq]
    exact nI_eq (h j rfl) hk
theorem nI_or (a b : Nat) : nI a ||| nI b = nI (a ||| b) := by
  apply Int32.toBitVec_inj.mp
  rw [Int32.toBitVec_or]
  show BitVec.ofNat 32 a ||| BitVec.ofNat 32 b = BitVec.ofNat 32 (a ||| b)
  exact (BitVec.ofNat_or ..).symm
theorem or_bit {a p : Nat} (h : a < 2 ^ p) : nI a ||| nI (2 ^ p) = nI (a + 2 ^ p) := by
  rw [nI_or]
  have e := Nat.two_pow_add_eq_or_of_lt h 1
  rw [Nat.mul_one] at e
  rw [Nat.or_comm, ← e, Nat.add_comm]
theorem shl_1 : ∀ p, p < 10 → nI 1 <<< (nI p &&& 31) = nI (2 ^ p) := by decide
/-- LEAK over the first k places; the OPEN ones as bits -/
def leakTo (h : HV) (w : LV) : Nat → Nat
  | 0 => 0
  | p + 1 => leakTo h w p + (if ti w p = none then hin_ h p else 0)
def leakV (h : HV) (w : LV) : Nat := leakTo h w (hn h)
theorem leakTo_le {h : HV} {w : LV} (ok : HOK h) : ∀ k, leakTo h w k ≤ 9 * k
  | 0 => Nat.le_refl _
  | k + 1 => by
    have q := leakTo_le (w := w) ok k
    have r := (ok.2.2.2.1 k).2
    show leakTo h w k + (if ti w k = none then hin_ h k else 0) ≤ 9 * (k + 1)
    split <;> omega
theorem leakV_le {h : HV} {w : LV} (ok : HOK h) : leakV h w ≤ 90 := by
  have q := leakTo_le (w := w) ok (hn h)
  have := ok.1
  unfold leakV
  omega
def openTo (w : LV) : Nat → Nat
  | 0 => 0
  | p + 1 => openTo w p + (if ti w p = none then 2 ^ p else 0)
theorem openTo_lt (w : LV) : ∀ k, openTo w k < 2 ^ k
  | 0 => Nat.zero_lt_one
  | k + 1 => by
    have q := openTo_lt w k
    have e : 2 ^ (k + 1) = 2 ^ k + 2 ^ k := by rw [Nat.pow_succ]; omega
    show openTo w k + (if ti w k = none then 2 ^ k else 0) < 2 ^ (k + 1)
    split <;> omega
/-- something in a place that rests on p; TAKEN; PUT; MOVES -/
def borneTo (h : HV) (w : LV) (p : Nat) : Nat → Bool
  | 0 => false
  | o + 1 => borneTo h w p o || (decide (hre h o = some p) && (ti w o).isSome)
theorem borneTo_up {h : HV} {w : LV} {p k : Nat} (q : borneTo h w p k = true) : ∀ d, borneTo h w p (k + d) = true
  | 0 => q
  | d + 1 => by
    show (borneTo h w p (k + d) || _) = true
    rw [borneTo_up q d]; rfl
def takeV (h : HV) (w : LV) (p : Nat) : Bool := (ti w p).isSome && !borneTo h w p (hn h)
def hreN (h : HV) (p : Nat) : Option Nat := if p < hn h then hre h p else none
theorem hreN_lt {h : HV} (ok : HOK h) {p u : Nat} (q : hreN h p = some u) : u < 10 ∧ u < p ∧ p < hn h ∧ hre h p = some u := by
  unfold hreN at q
  split at q
  · next hp => have := ok.2.2.2.2.1 p u q; exact ⟨this.1, this.2 hp, hp, q⟩
  · cases q
def bornV (w : LV) (o : Option Nat) : Bool := match o with
  | none => true
  | some u => (ti w u).isSome
def fitsV (h : HV) (w : LV) (t p : Nat) : Bool := decide (p < hn h) && ((ti w p).isNone && (decide (hle h p ≤ ln w t) && bornV w (hreN h p)))
def mayV (h : HV) (w : LV) (t p : Nat) : Bool := if wh w t = 100 then fitsV h w t p else decide (wh w t < hn h) && (takeV h w (wh w t) && (!decide (hreN h p = some (wh w t)) && fitsV h w t p))
def cutV' (h : HV) (w : LV) (t p : Nat) : LV := cutV (bringV w t p) t (hle h p)
/-- a WATCH: what hangs in the air, what comes down, what worms eat -/
def hangV (h : HV) (w : LV) (p : Nat) : Bool := match hre h p with
  | none => false
  | some u => (ti w u).isNone
def down1 (h : HV) (w : LV) (p : Nat) : LV := match ti w p with
  | none => w
  | some t => if hangV h w p = true then bringV w t 100 else w
def downTo (h : HV) (w : LV) : Nat → LV
  | 0 => w
  | p + 1 => down1 h (downTo h w p) p
def worm1 (w : LV) (p : Nat) : LV := match ti w p with
  | none => w
  | some t => if 0 < wo w t then (if 10 ≤ wo (wormV w t) t then bringV (wormV w t) t 200 else wormV w t) else w
def wormTo (w : LV) : Nat → LV
  | 0 => w
  | p + 1 => worm1 (wormTo w p) p
def waterN (h : HV) (w : LV) : Nat := wa w + leakV h w - hpu h
def watchV (h : HV) (w : LV) : LV := if hho h < waterN h w then sinkV (waterV w (waterN h w)) else downTo h (wormTo (waterV w (waterN h w)) (hn h)) (hn h)
