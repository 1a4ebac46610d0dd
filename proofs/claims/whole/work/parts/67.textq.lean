/-! THE REFERENCE: write, wipe, fault, ship -/
section CQ3
variable {A B : List Nat} {c c' c'' : Nat → Int32} {q q' q'' : Nat → Nat → Int32} {v : TV}
theorem CQ.u1 (a : CQ A B c c' q q') (b : CQ [17, 18] [] c' c'' q' q'') (h1 : 17 ∈ A) (h2 : 18 ∈ A) : CQ A B c c'' q q'' := ⟨fun i hi => (b.1 i (fun z => by
  simp only [List.mem_cons, List.not_mem_nil, or_false] at z
  rcases z with z | z
  · exact hi (z ▸ h1)
  · exact hi (z ▸ h2))).trans (a.1 i hi), fun i hi => (b.2 i List.not_mem_nil).trans (a.2 i hi)⟩
theorem TextR.scr (r : TextR v c q) (a : Scr c c' q q') : TextR v c' q' := ⟨(a.1 16 (by decide) (by decide) (by decide) (by decide)).trans r.1, fun i hi => by rw [a.2.1 185 (by decide) (by decide) (by decide)]; exact r.2 i hi⟩
theorem Scr.cq (a : Scr c c' q q') (b : CQ [5, 6, 7, 17, 18] [176, 177, 178, 179, 180] c' c'' q' q'') : Scr c c'' q q'' := by
  refine ⟨fun i h1 h2 h3 h4 => ?_, fun i h1 h2 h3 => ?_, fun i j h1 h2 h3 => ?_⟩
  · exact (b.1 i (by simp only [List.mem_cons, List.not_mem_nil, or_false]; omega)).trans (a.1 i h1 h2 h3 h4)
  · exact (b.2 i (by simp only [List.mem_cons, List.not_mem_nil, or_false]; omega)).trans (a.2.1 i h1 h2 h3)
  · have z := b.2 i (by simp only [List.mem_cons, List.not_mem_nil, or_false]; omega)
    rw [z]; exact a.2.2 i j h1 h2 h3
theorem CQ.wide {A2 B2 : List Nat} (a : CQ A B c c' q q') (h1 : ∀ i ∈ A, i ∈ A2) (h2 : ∀ i ∈ B, i ∈ B2) : CQ A2 B2 c c' q q' := ⟨fun i hi => a.1 i (fun z => hi (h1 i z)), fun i hi => a.2 i (fun z => hi (h2 i z))⟩
end CQ3
theorem SR.up {v : TV} {z : RS} {c c' : Nat → Int32} {k : Nat} {x : Int32} (h : SR v z c) (e : c' = va_up c k x) (h1 : k ≠ 17) (h2 : k ≠ 18) : SR v z c' := ⟨by rw [e, va_up_ne _ _ h2.symm]; exact h.1, by rw [e, va_up_ne _ _ h1.symm]; exact h.2.1, h.2.2⟩
/-- one entry of a row has changed -/
def U1 (r t : Nat) (x : Int32) (q q' : Nat → Nat → Int32) : Prop := (∀ i, i ≠ r → q' i = q i) ∧ (∀ j, j ≠ t → q' r j = q r j) ∧ q' r t = x
theorem u1_of {r t : Nat} {x : Int32} {q q' : Nat → Nat → Int32} (e : q' = va_up q r (upd (q r) t x)) : U1 r t x q q' := ⟨fun i hi => by rw [e, va_up_ne _ _ hi], fun j hj => by rw [e, fn_up, if_neg hj], by rw [e, fn_up, if_pos rfl]⟩
theorem U1.oth {r t : Nat} {x : Int32} {q q' : Nat → Nat → Int32} (u : U1 r t x q q') {i j : Nat} (hj : j ≠ t) : q' i j = q i j := by
  by_cases e : i = r
  · subst e; exact u.2.1 j hj
  · rw [u.1 i e]
/-- a place as it is read, into the rows -/
def RD5 (p : Nat) (q q' : Nat → Nat → Int32) (x1 x2 x3 x4 x5 : Int32) : Prop := (∀ i j, j ≠ p → q' i j = q i j) ∧ q' 176 p = x1 ∧ q' 177 p = x2 ∧ q' 178 p = x3 ∧ q' 179 p = x4 ∧ q' 180 p = x5
theorem rd5a {p : Nat} {q q1 q2 q3 q5 q6 : Nat → Nat → Int32} {x1 x2 x3 x4 x5 : Int32} (u1 : U1 176 p x1 q q1) (u2 : U1 177 p x2 q1 q2) (u3 : U1 178 p x3 q2 q3) (u5 : U1 179 p x4 q3 q5) (u6 : U1 180 p x5 q5 q6) : RD5 p q q6 x1 x2 x3 x4 x5 :=
  ⟨fun i j hj => by rw [u6.oth hj, u5.oth hj, u3.oth hj, u2.oth hj, u1.oth hj], by rw [u6.1 176 (by decide), u5.1 176 (by decide), u3.1 176 (by decide), u2.1 176 (by decide)]; exact u1.2.2, by rw [u6.1 177 (by decide), u5.1 177 (by decide), u3.1 177 (by decide)]; exact u2.2.2, by rw [u6.1 178 (by decide), u5.1 178 (by decide)]; exact u3.2.2, by rw [u6.1 179 (by decide)]; exact u5.2.2, u6.2.2⟩
theorem rd5b {p : Nat} {q q1 q2 q3 q4 q5 q6 : Nat → Nat → Int32} {x1 x2 x0 x3 x4 x5 : Int32} (u1 : U1 176 p x1 q q1) (u2 : U1 177 p x2 q1 q2) (u3 : U1 178 p x0 q2 q3) (u4 : U1 178 p x3 q3 q4) (u5 : U1 179 p x4 q4 q5) (u6 : U1 180 p x5 q5 q6) : RD5 p q q6 x1 x2 x3 x4 x5 :=
  ⟨fun i j hj => by rw [u6.oth hj, u5.oth hj, u4.oth hj, u3.oth hj, u2.oth hj, u1.oth hj], by rw [u6.1 176 (by decide), u5.1 176 (by decide), u4.1 176 (by decide), u3.1 176 (by decide), u2.1 176 (by decide)]; exact u1.2.2, by rw [u6.1 177 (by decide), u5.1 177 (by decide), u4.1 177 (by decide), u3.1 177 (by decide)]; exact u2.2.2, by rw [u6.1 178 (by decide), u5.1 178 (by decide)]; exact u4.2.2, by rw [u6.1 179 (by decide)]; exact u5.2.2, u6.2.2⟩
/-- the places read, as THE TEXT has them -/
def RdR (v : TV) (n : Nat) (q : Nat → Nat → Int32) : Prop := ∀ p, p < n → q 176 p = nI (fig v (off v p + 1)) ∧ q 177 p = nI (fig v (off v p + 2)) ∧ q 178 p = oI (reT v (off v p)) ∧ q 179 p = oI (shT v (off v p)) ∧ q 180 p = nI (if tat v (off v p) = some 80 then fig v (off v p + 5) else 0)
/-- reading on: a fault, or all well so far -/
def LI (v : TV) (f : Option Nat) (i p : Nat) (c : Nat → Int32) (q : Nat → Nat → Int32) : Prop := (∀ k, f = some k → fAll v = some k) ∧ (f = none → fRest v (10 - p) p i = fAll v ∧ i = off v p ∧ WELL v p ∧ RdR v p q ∧ c 6 = nI (fig v 1) ∧ c 7 = nI (10 * fig v 2 + fig v 3))
theorem li_step {v : TV} {b : Bool} {i p : Nat} {c c' : Nat → Int32} {q q' : Nat → Nat → Int32} (h : LI v none i p c q) (hi : i < tn v) (hp : p < 10) (hb : (tat v i = some 80 ∧ b = true) ∨ (tat v i = some 79 ∧ b = false)) (hr : RD5 p q q' (nI (fgV v (none, i + 1) 1 10)) (nI (fgV v (rpl1 v i) 0 10)) (oI (rvR v i p)) (oI (rvS v b i p)) (nI (rvW v b i p))) (hc : ∀ k, k = 6 ∨ k = 7 → c' k = c k) : LI v (rpl5 v b i p).1 (rpl5 v b i p).2 (p + 1) c' q' := by
  obtain ⟨h1, h2, h3, h4, h5, h6⟩ := h.2 rfl
  obtain ⟨e1, e2⟩ := rp_ok (p := p) hb
  rw [show 10 - p = (10 - (p + 1)) + 1 by omega, fRest, if_pos hi] at h1
  constructor
  · intro k hk
    rw [e1] at hk
    rw [← h1, if_neg (by rw [hk]; intro z; cases z)]; exact hk
  · intro hn
    rw [e1] at hn
    obtain ⟨a1, a2, a3, a4, a5, a6⟩ := e2 hn
    rw [if_pos hn] at h1
    obtain ⟨r0, r1, r2, r3, r4, r5⟩ := hr
    refine ⟨by rw [a1]; exact h1, by rw [a1, h2]; rfl, fun z hz => ?_, fun z hz => ?_, by rw [hc 6 (Or.inl rfl)]; exact h5, by rw [hc 7 (Or.inr rfl)]; exact h6⟩
    · rcases Nat.lt_succ_iff_lt_or_eq.mp hz with y | y
      · exact h3 z y
      · rw [y, ← h2]; exact ⟨hi, hn⟩
    · rcases Nat.lt_succ_iff_lt_or_eq.mp hz with y | y
      · rw [r0 _ _ (by omega), r0 _ _ (by omega), r0 _ _ (by omega), r0 _ _ (by omega), r0 _ _ (by omega)]; exact h4 z y
      · rw [y, ← h2, r1, r2, r3, r4, r5, a2, a3, a4, a5, a6]; exact ⟨rfl, rfl, rfl, rfl, rfl⟩
theorem li_bad {v : TV} {i p : Nat} {c c' : Nat → Int32} {q q' : Nat → Nat → Int32} (h : LI v none i p c q) (hi : i < tn v) (hp : p = 10 ∨ (p < 10 ∧ ¬ (tat v i = some 80 ∨ tat v i = some 79))) : LI v (some i) i p c' q' := by
  obtain ⟨h1, -⟩ := h.2 rfl
  refine ⟨fun k hk => ?_, fun z => by cases z⟩
  cases hk
  rcases hp with rfl | ⟨hp, hb⟩
  · rw [← h1]; show (if i < tn v then some i else none) = some i; rw [if_pos hi]
  · rw [show 10 - p = (9 - p) + 1 by omega, fRest, if_pos hi] at h1
    have e : fPlace v i p = some i := by unfold fPlace; rw [if_neg hb]
    rw [← h1, if_neg (by rw [e]; intro z; cases z)]; exact e
theorem li_end {v : TV} {i p : Nat} {c : Nat → Int32} {q : Nat → Nat → Int32} (h : LI v none i p c q) (hi : tn v ≤ i) : fAll v = none := by
  rw [← (h.2 rfl).1]
  cases 10 - p with
  | zero => show (if i < tn v then some i else none) = none; rw [if_neg (by omega)]
  | succ k => rw [fRest, if_neg (by omega)]
theorem all_head {v : TV} (h : tat v 0 ≠ some 83) : fAll v = some 0 := by
  have e : fHead v = some 0 := by unfold fHead; rw [if_neg h]
  unfold fAll; rw [e]; rfl
theorem all_83 {v : TV} (h : fHead v = none) : fRest v 10 0 4 = fAll v := by unfold fAll; rw [if_pos h]
theorem all_hf {v : TV} {k : Nat} (h : fHead v = some k) : fAll v = some k := by unfold fAll; rw [h]; rfl
theorem text_add {v : TV} {b : Nat} {c c' : Nat → Int32} {q q' : Nat → Nat → Int32} (r : TextR v c q) (eq : q' = va_up q 185 (upd (q 185) (tn v) (nI b))) (ec : c' 16 = nI (tn v + 1)) : TextR (addB v b) c' q' := ⟨ec, fun i hi => by
  have hi2 : i < tn v + 1 := hi
  rw [eq, fn_up]
  show _ = nI (va_up (tb v) (tn v) b i)
  by_cases e : i = tn v
  · rw [if_pos e, e, va_up_self]
  · rw [if_neg e, va_up_ne _ _ e]; exact r.2 i (by omega)⟩
theorem inB_18 (x : Int32) : inB (Int32.toInt64 x) (lN 1) 8 = n18 x := by
  have e0 : (lN 1).toInt = 1 := by decide
  have e2 : (8 : Int64).toInt = 8 := by decide
  have e3 : (1 : Int32).toInt = 1 := by decide
  have e4 : (8 : Int32).toInt = 8 := by decide
  unfold inB n18
  simp only [Int64.le_iff_toInt_le, Int32.le_iff_toInt_le, Int32.toInt_toInt64, e0, e2, e3, e4]
