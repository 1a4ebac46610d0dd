/-! THE WHOLE OBJECT: what its acts make of a state -/
def wipeX (x : XV) : XV := ((tb (xt x), 0), xh x, xw x, xa x, xs x)
def writeX (x : XV) (n : Nat) (v : Int64) : XV := (appTo v n (xt x), xh x, xw x, xa x, xs x)
/-- an act: remembered, then this is the load -/
def actX (x : XV) (w : LV) : XV := (xt x, xh x, w, remV (xa x) (xw x), xs x)
def n18 (n : Int32) : Bool := decide (1 ≤ n) && decide (n ≤ 8)
theorem n18_t {n : Int32} (q : n18 n = true) : ∃ j, 1 ≤ j ∧ j ≤ 8 ∧ n = nI j := by
  simp only [n18, Bool.and_eq_true, decide_eq_true_eq] at q
  have q1 := Int32.le_iff_toInt_le.mp q.1
  have q2 := Int32.le_iff_toInt_le.mp q.2
  have e1 : (1 : Int32).toInt = 1 := by decide
  have e8 : (8 : Int32).toInt = 8 := by decide
  refine ⟨n.toInt.toNat, by omega, by omega, Int32.toInt_inj.mp ?_⟩
  rw [nI_toInt (by omega)]
  omega
def backX (x : XV) : XV := (xt x, xh x, undV (xa x), (afi (xa x), asz (xa x) - 1, alo (xa x)), xs x)
def keepX (x : XV) (j : Nat) : XV := (xt x, xh x, xw x, xa x, (va_up (slo (xs x)) j (xw x), va_up (sfl (xs x)) j true))
def againX (x : XV) (j : Nat) : XV := (xt x, xh x, slo (xs x) j, (afi (xa x), 0, alo (xa x)), xs x)
theorem rem_sz {a : AV} (ok : AOK a) {w : LV} (hw : CAN w) : AOK (remV a w) := by
  obtain ⟨h1, h2, h3⟩ := ok
  have hc : ∀ i, ∀ k, k < 24 → CAN (va_up (alo a) i w k) := by
    intro i k hk
    by_cases e : k = i
    · rw [e, va_up_self]; exact hw
    · rw [va_up_ne _ _ e]; exact h3 k hk
  unfold remV
  split
  · exact ⟨Nat.mod_lt _ (by decide), h2, hc _⟩
  · exact ⟨h1, by show asz a + 1 ≤ 24; omega, hc _⟩
