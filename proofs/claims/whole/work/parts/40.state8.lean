/-! THE WHOLE OBJECT: what its cells hold -/
abbrev XV : Type := TV × HV × LV × AV × SV
def xt (x : XV) : TV := x.1
def xh (x : XV) : HV := x.2.1
def xw (x : XV) : LV := x.2.2.1
def xa (x : XV) : AV := x.2.2.2.1
def xs (x : XV) : SV := x.2.2.2.2
theorem TextC.at {g : Gx} {ad : Nat → Nat} {F F' : Nat → va_E} {v : TV} (h : TextC g ad F v) (hs : ∀ i, 1 ≤ i → i < 3 → F' i = F i) : TextC g ad F' v := ⟨by rw [hs _ (by omega) (by omega)]; exact h.1, by rw [hs _ (by omega) (by omega)]; exact h.2⟩
theorem ChC.at {g : Gx} {ad : Nat → Nat} {F F' : Nat → va_E} {v : CV} (h : ChC g ad F v) (hs : ∀ i, 153 ≤ i → i < 155 → F' i = F i) : ChC g ad F' v := ⟨by rw [hs _ (by omega) (by omega)]; exact h.1, by rw [hs _ (by omega) (by omega)]; exact h.2⟩
theorem SeaC.at {g : Gx} {ad : Nat → Nat} {F F' : Nat → va_E} {fm : Nat} {fo : Nat → Int32} (h : SeaC g ad F fm fo) (hs : ∀ i, 155 ≤ i → i < 157 → F' i = F i) : SeaC g ad F' fm fo := ⟨by rw [hs _ (by omega) (by omega)]; exact h.1, by rw [hs _ (by omega) (by omega)]; exact h.2⟩
def TopC (ad : Nat → Nat) (F : Nat → va_E) : Prop := F 0 = .inr (8, [.ref (ad 1), .ref (ad 3), .ref (ad 8), .ref (ad 13), .ref (ad 18), .ref (ad 140), .ref (ad 153), .ref (ad 155)])
theorem TopC.at {ad : Nat → Nat} {F F' : Nat → va_E} (h : TopC ad F) (hs : ∀ i, 0 ≤ i → i < 1 → F' i = F i) : TopC ad F' := (hs 0 (by omega) (by omega)).trans h
def XC (g : Gx) (ad : Nat → Nat) (F : Nat → va_E) (x : XV) : Prop := TopC ad F ∧ TextC g ad F (xt x) ∧ HullC g ad F (xh x) ∧ LoadC g ad F 8 (xw x) ∧ ActC g ad F (xa x) ∧ SlotC g ad F (xs x) ∧ (∃ wt, LoadC g ad F 13 wt ∧ CAN wt) ∧ (∃ c, ChC g ad F c) ∧ (∃ fm fo, SeaC g ad F fm fo) ∧ ∃ v, RowsC g ad F v ∧ ROK v
/-- what is remembered, what is kept: of this hull -/
def XOK (x : XV) : Prop := TOK (xt x) ∧ HOK (xh x) ∧ LOK (xh x) (xw x) ∧ AOK (xa x) ∧ SOK (xs x) ∧ (∀ k, k < asz (xa x) → LOK (xh x) (alo (xa x) ((afi (xa x) + k) % 24))) ∧ ∀ j, j < 2 → sfl (xs x) j = true → LOK (xh x) (slo (xs x) j)
def ix (x : Int32) : Nat := x.toNatClampNeg
theorem ix_n {j : Nat} (h : j < 2 ^ 31) : ix (nI j) = j := nI_clamp h
theorem sw4 (x : Int32) : x = nI 0 ∨ x = nI 1 ∨ x = nI 2 ∨ x = nI 3 ∨ (x.toInt < 0 ∨ 3 < x.toInt) := by
  by_cases h : x.toInt < 0
  · exact Or.inr (Or.inr (Or.inr (Or.inr (Or.inl h))))
  by_cases h2 : 3 < x.toInt
  · exact Or.inr (Or.inr (Or.inr (Or.inr (Or.inr h2))))
  have e : ∀ j : Nat, j < 4 → x.toInt = j → x = nI j := fun j hj q => Int32.toInt_inj.mp (by rw [q, nI_toInt (by omega)])
  rcases (show x.toInt = 0 ∨ x.toInt = 1 ∨ x.toInt = 2 ∨ x.toInt = 3 by omega) with q | q | q | q
  · exact Or.inl (e 0 (by decide) q)
  · exact Or.inr (Or.inl (e 1 (by decide) q))
  · exact Or.inr (Or.inr (Or.inl (e 2 (by decide) q)))
  · exact Or.inr (Or.inr (Or.inr (Or.inl (e 3 (by decide) q))))
theorem sw10 (x : Int32) : x = nI 0 ∨ x = nI 1 ∨ x = nI 2 ∨ x = nI 3 ∨ x = nI 4 ∨ x = nI 5 ∨ x = nI 6 ∨ x = nI 7 ∨ x = nI 8 ∨ x = nI 9 ∨ (x.toInt < 0 ∨ 9 < x.toInt) := by
  by_cases h : x.toInt < 0
  · exact Or.inr (Or.inr (Or.inr (Or.inr (Or.inr (Or.inr (Or.inr (Or.inr (Or.inr (Or.inr (Or.inl h))))))))))
  by_cases h2 : 9 < x.toInt
  · exact Or.inr (Or.inr (Or.inr (Or.inr (Or.inr (Or.inr (Or.inr (Or.inr (Or.inr (Or.inr (Or.inr h2))))))))))
  have e : ∀ j : Nat, j < 10 → x.toInt = j → x = nI j := fun j hj q => Int32.toInt_inj.mp (by rw [q, nI_toInt (by omega)])
  rcases (show x.toInt = 0 ∨ x.toInt = 1 ∨ x.toInt = 2 ∨ x.toInt = 3 ∨ x.toInt = 4 ∨ x.toInt = 5 ∨ x.toInt = 6 ∨ x.toInt = 7 ∨ x.toInt = 8 ∨ x.toInt = 9 by omega) with q | q | q | q | q | q | q | q | q | q
  · exact Or.inl (e 0 (by decide) q)
  · exact Or.inr (Or.inl (e 1 (by decide) q))
  · exact Or.inr (Or.inr (Or.inl (e 2 (by decide) q)))
  · exact Or.inr (Or.inr (Or.inr (Or.inl (e 3 (by decide) q))))
  · exact Or.inr (Or.inr (Or.inr (Or.inr (Or.inl (e 4 (by decide) q)))))
  · exact Or.inr (Or.inr (Or.inr (Or.inr (Or.inr (Or.inl (e 5 (by decide) q))))))
  · exact Or.inr (Or.inr (Or.inr (Or.inr (Or.inr (Or.inr (Or.inl (e 6 (by decide) q)))))))
  · exact Or.inr (Or.inr (Or.inr (Or.inr (Or.inr (Or.inr (Or.inr (Or.inl (e 7 (by decide) q))))))))
  · exact Or.inr (Or.inr (Or.inr (Or.inr (Or.inr (Or.inr (Or.inr (Or.inr (Or.inl (e 8 (by decide) q)))))))))
  · exact Or.inr (Or.inr (Or.inr (Or.inr (Or.inr (Or.inr (Or.inr (Or.inr (Or.inr (Or.inl (e 9 (by decide) q))))))))))
-- what the reads answer
def placeA (h : HV) (w : LV) (p q : Int32) : Int32 := if isP h p = true then (if q = nI 0 then nI (hle h (ix p)) else if q = nI 1 then nI (hin_ h (ix p)) else if q = nI 2 then oI (hreN h (ix p)) else if q = nI 3 then oI (ti w (ix p)) else -2) else -1
def timberA (h : HV) (w : LV) (t q : Int32) : Int32 := if isP h t = true then (if q = nI 0 then nI (wh w (ix t)) else if q = nI 1 then nI (ln w (ix t)) else if q = nI 2 then oI (hsh h (ix t)) else if q = nI 3 then nI (wo w (ix t)) else -2) else -1
def mayA (h : HV) (w : LV) (t p : Int32) : Int32 := if isP h t = true ∧ isP h p = true then bI (!su w && mayV h w (ix t) (ix p)) else -1
theorem sw_out4 {x : Int32} (h : x.toInt < 0 ∨ 3 < x.toInt) : ¬ x = nI 0 ∧ ¬ x = nI 1 ∧ ¬ x = nI 2 ∧ ¬ x = nI 3 := by
  have e : ∀ j : Nat, j < 4 → ¬ x = nI j := fun j hj q => by rw [q, nI_toInt (by omega)] at h; omega
  exact ⟨e 0 (by decide), e 1 (by decide), e 2 (by decide), e 3 (by decide)⟩
