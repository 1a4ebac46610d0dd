/-! THE LOG: by bits and by trying all, the same -/
theorem nI_testBit_open (w : LV) {n i : Nat} : (openTo w n).testBit i = (decide (i < n) && (ti w i).isNone) := by
  by_cases h : i < n
  · rw [Nat.testBit_eq_decide_div_mod_eq, openTo_bit w h]
    cases hh : ti w i <;> simp [h]
  · rw [Nat.testBit_lt_two_pow (Nat.lt_of_lt_of_le (openTo_lt w n) (Nat.pow_le_pow_right (by decide) (by omega)))]
    simp [h]
theorem step_ti {h : HV} {u : LV} {m : Nat} (i : Nat) : ti (stepV h u m) i = if i = m % 10 then some (m / 10) else if wh u (m / 10) < 10 ∧ i = wh u (m / 10) then none else ti u i := by
  show (if m % 10 < 10 then va_up (bringT u (m / 10)) (m % 10) (some (m / 10)) else bringT u (m / 10)) i = _
  rw [if_pos (Nat.mod_lt _ (by decide))]
  by_cases e : i = m % 10
  · rw [if_pos e, e, va_up_self]
  · rw [if_neg e, va_up_ne _ _ e]
    unfold bringT
    by_cases e2 : wh u (m / 10) < 10
    · rw [if_pos e2]
      by_cases e3 : i = wh u (m / 10)
      · rw [if_pos ⟨e2, e3⟩, e3, va_up_self]
      · rw [if_neg (fun z => e3 z.2), va_up_ne _ _ e3]
    · rw [if_neg e2, if_neg (fun z => e2 z.1)]
theorem step_bit {h : HV} {u : LV} {m n i : Nat} : (openTo (stepV h u m) n).testBit i = (decide (i < n) && (!decide (i = m % 10) && ((decide (wh u (m / 10) < 10) && decide (i = wh u (m / 10))) || (ti u i).isNone))) := by
  rw [nI_testBit_open, step_ti]
  by_cases e : i = m % 10
  · simp [e]
  · by_cases e2 : wh u (m / 10) < 10 ∧ i = wh u (m / 10)
    · rw [if_neg e, if_pos e2, decide_eq_false e, decide_eq_true e2.1, decide_eq_true e2.2]; simp
    · rw [if_neg e, if_neg e2, decide_eq_false e]
      have : (decide (wh u (m / 10) < 10) && decide (i = wh u (m / 10))) = false := by rw [Bool.and_eq_false_iff, decide_eq_false_iff_not, decide_eq_false_iff_not]; omega
      rw [this]; simp
theorem close_bit {h : HV} {u : LV} {q i : Nat} (ok : HOK h) : (closeN h u q).testBit i = (decide (i < hn h) && ((ti u i).isNone && !q.testBit i)) := by
  have okn := ok.1
  unfold closeN
  rw [Nat.testBit_and, Nat.testBit_xor, nI_testBit_open, show (1023 : Nat) = 2 ^ 10 - 1 from rfl, Nat.testBit_two_pow_sub_one]
  by_cases e : i < hn h
  · simp [e, show i < 10 by omega]
  · simp [e]
theorem may_p {h : HV} {u : LV} {m : Nat} (q : mayM h u m = true) : m % 10 < hn h ∧ ti u (m % 10) = none := by
  have := fitsV_p (mayV_f q).1
  exact ⟨this.1, this.2.1⟩
theorem log_close {h : HV} {u : LV} {q m : Nat} (ok : HOK h) (hm : mayM h u m = true) (e : openTo (stepV h u m) (hn h) = q) : closeN h u q = 2 ^ (m % 10) := by
  obtain ⟨h1, h2⟩ := may_p hm
  apply Nat.eq_of_testBit_eq
  intro i
  rw [close_bit ok, ← e, step_bit, Nat.testBit_two_pow]
  by_cases e1 : i = m % 10
  · subst e1; simp [h1, h2]
  · have e2 : ¬ m % 10 = i := fun z => e1 z.symm
    rw [decide_eq_false e1, decide_eq_false e2]
    cases decide (i < hn h) <;> cases (ti u i).isNone <;> simp
theorem log_hit {h : HV} {u : LV} {q m : Nat} (ok : HOK h) (k : LOK h u) (hm10 : m < 100) (hm : mayM h u m = true) (e : closeN h u q = 2 ^ (m % 10)) : (openTo u (hn h) ^^^ closeN h u q) ||| bitN (wh u (m / 10)) = openTo (stepV h u m) (hn h) := by
  obtain ⟨h1, h2⟩ := may_p hm
  have okn := ok.1
  have hwt := (mayV_f hm).2
  apply Nat.eq_of_testBit_eq
  intro i
  rw [Nat.testBit_or, Nat.testBit_xor, e, step_bit, nI_testBit_open, Nat.testBit_two_pow]
  have hb : (bitN (wh u (m / 10))).testBit i = (decide (wh u (m / 10) < 10) && decide (i = wh u (m / 10))) := by
    unfold bitN
    by_cases e1 : wh u (m / 10) < 10
    · rw [if_pos e1, Nat.testBit_two_pow, decide_eq_true e1, Bool.true_and]
      exact decide_eq_decide.mpr ⟨fun z => z.symm, fun z => z.symm⟩
    · rw [if_neg e1, decide_eq_false e1]; simp
  rw [hb]
  by_cases e1 : i = m % 10
  · have e3 : decide (wh u (m / 10) < 10 ∧ i = wh u (m / 10)) = false := by
      rw [decide_eq_false_iff_not]
      intro z
      have := in_t ok k (show m / 10 < 10 by omega) z.1 rfl
      rw [← z.2, e1, h2] at this
      cases this
    rw [Bool.decide_and] at e3
    rw [e3, e1]; simp [h1, h2]
  · have e2 : ¬ m % 10 = i := fun z => e1 z.symm
    rw [decide_eq_false e1, decide_eq_false e2]
    by_cases e4 : i < hn h
    · rw [decide_eq_true e4]
      cases (ti u i).isNone <;> simp
    · rw [decide_eq_false e4]
      have e5 : (decide (wh u (m / 10) < 10) && decide (i = wh u (m / 10))) = false := by rw [Bool.and_eq_false_iff, decide_eq_false_iff_not, decide_eq_false_iff_not]; omega
      rw [e5]; simp
/-- of these MOVES, those behind which just the places q are OPEN -/
def cntL (h : HV) (u : LV) (q : Nat) : List Nat → Nat
  | [] => 0
  | x :: l => (if openTo (stepV h u x) (hn h) = q then 1 else 0) + cntL h u q l
def goodB (h : HV) (u : LV) (q m : Nat) : Bool := mayM h u m && decide (openTo (stepV h u m) (hn h) = q)
theorem cntL_to {h : HV} {u : LV} {q : Nat} : ∀ (d m : Nat), d + m = 100 → cntL h u q (L1 h u m) + cntTo (goodB h u q) m = cntTo (goodB h u q) 100
  | 0, m, e => by
    rw [L1_end (by omega), show m = 100 by omega]
    show 0 + _ = _
    omega
  | d + 1, m, e => by
    have ih := cntL_to (h := h) (u := u) (q := q) d (m + 1) (by omega)
    rw [cntTo] at ih
    by_cases hm : mayM h u m = true
    · rw [L1_yes (by omega) hm]
      show (if openTo (stepV h u m) (hn h) = q then 1 else 0) + cntL h u q (L1 h u (m + 1)) + _ = _
      have eg : goodB h u q m = decide (openTo (stepV h u m) (hn h) = q) := by rw [goodB, hm, Bool.true_and]
      rw [eg] at ih
      by_cases e1 : openTo (stepV h u m) (hn h) = q
      · rw [if_pos e1]; rw [if_pos (decide_eq_true e1)] at ih; omega
      · rw [if_neg e1]; rw [if_neg (by rw [decide_eq_false e1]; decide)] at ih; omega
    · have hm2 : mayM h u m = false := by simpa using hm
      rw [L1_no (by omega) hm2]
      rw [show goodB h u q m = false by rw [goodB, hm2]; rfl] at ih
      simpa using ih
theorem cntTo_cong {f g : Nat → Bool} : ∀ {n : Nat}, (∀ i, i < n → f i = g i) → cntTo f n = cntTo g n
  | 0, _ => rfl
  | n + 1, e => by rw [cntTo, cntTo, cntTo_cong (fun i hi => e i (by omega)), e n (by omega)]
theorem cntTo_stop {f : Nat → Bool} {n : Nat} : ∀ d, (∀ i, n ≤ i → i < n + d → f i = false) → cntTo f (n + d) = cntTo f n
  | 0, _ => rfl
  | d + 1, e => by
    show cntTo f (n + d) + (if f (n + d) = true then 1 else 0) = _
    rw [cntTo_stop d (fun i h1 h2 => e i h1 (by omega)), e (n + d) (by omega) (by omega)]; rfl
theorem cntTo_zero {f : Nat → Bool} : ∀ {n : Nat}, (∀ i, i < n → f i = false) → cntTo f n = 0
  | 0, _ => rfl
  | n + 1, e => by rw [cntTo, cntTo_zero (fun i hi => e i (by omega)), e n (by omega)]; rfl
theorem cnt_ten {g : Bool} : ∀ p, p < 10 → ∀ (a : Nat) (f : Nat → Bool), (∀ j, j < 10 → f (a + j) = (decide (j = p) && g)) → cntTo f (a + 10) = cntTo f a + (if g = true then 1 else 0) := by
  intro p hp a f hf
  show cntTo f a + (if f (a + 0) = true then 1 else 0) + (if f (a + 1) = true then 1 else 0) + (if f (a + 2) = true then 1 else 0) + (if f (a + 3) = true then 1 else 0) + (if f (a + 4) = true then 1 else 0) + (if f (a + 5) = true then 1 else 0) + (if f (a + 6) = true then 1 else 0) + (if f (a + 7) = true then 1 else 0) + (if f (a + 8) = true then 1 else 0) + (if f (a + 9) = true then 1 else 0) = _
  rw [hf 0 (by decide), hf 1 (by decide), hf 2 (by decide), hf 3 (by decide), hf 4 (by decide), hf 5 (by decide), hf 6 (by decide), hf 7 (by decide), hf 8 (by decide), hf 9 (by decide)]
  rcases (show p = 0 ∨ p = 1 ∨ p = 2 ∨ p = 3 ∨ p = 4 ∨ p = 5 ∨ p = 6 ∨ p = 7 ∨ p = 8 ∨ p = 9 by omega) with rfl | rfl | rfl | rfl | rfl | rfl | rfl | rfl | rfl | rfl <;> cases g <;> rfl
theorem cnt_col {f g : Nat → Bool} {p : Nat} (hp : p < 10) : ∀ T : Nat, (∀ m, m < 10 * T → f m = (decide (m % 10 = p) && g (m / 10))) → cntTo f (10 * T) = cntTo g T
  | 0, _ => rfl
  | T + 1, e => by
    rw [show 10 * (T + 1) = 10 * T + 10 by omega, cnt_ten (g := g T) p hp (10 * T) f (fun j hj => by
      rw [e (10 * T + j) (by omega), show (10 * T + j) % 10 = j by omega, show (10 * T + j) / 10 = T by omega]), cnt_col hp T (fun m hm => e m (by omega))]
    rfl
theorem pop_2 : ∀ p, p < 10 → popTo (2 ^ p) 10 = 1 := by decide
theorem close_lt {h : HV} {u : LV} {q : Nat} (ok : HOK h) : closeN h u q < 1024 := Nat.lt_of_le_of_lt Nat.and_le_left (open_1024 ok u)
theorem last_cnt {h : HV} {u : LV} {q : Nat} (ok : HOK h) (k : LOK h u) : lastN h u q = cntL h u q (L1 h u 0) := by
  have okn := ok.1
  have e0 := cntL_to (h := h) (u := u) (q := q) 100 0 rfl
  rw [show cntTo (goodB h u q) 0 = 0 from rfl, Nat.add_zero] at e0
  rw [e0]
  unfold lastN
  by_cases hp : popTo (closeN h u q) 10 = 1
  · rw [if_pos hp]
    obtain ⟨p, hp10, ep⟩ := one_bit _ (close_lt ok) hp
    rw [ep, low_ok p hp10]
    have e1 : ∀ m, m < 10 * 10 → goodB h u q m = (decide (m % 10 = p) && hitB h u q p (m / 10)) := by
      intro m hm
      unfold goodB hitB
      by_cases h1 : m % 10 = p
      · rw [decide_eq_true h1, Bool.true_and, ← h1]
        show (mayM h u m && _) = (mayM h u m && _)
        by_cases h2 : mayM h u m = true
        · rw [log_hit ok k hm h2 (by rw [ep, h1])]
        · rw [show mayM h u m = false by simpa using h2]; rfl
      · rw [decide_eq_false h1, Bool.false_and]
        by_cases h2 : mayM h u m = true
        · rw [h2, Bool.true_and, decide_eq_false_iff_not]
          intro h3
          have h4 := log_close ok h2 h3
          rw [ep] at h4
          have z : (2 ^ p).testBit p = (2 ^ (m % 10)).testBit p := by rw [h4]
          rw [Nat.testBit_two_pow, Nat.testBit_two_pow, decide_eq_true rfl] at z
          exact h1 (of_decide_eq_true z.symm)
        · rw [show mayM h u m = false by simpa using h2]; rfl
    rw [show (100 : Nat) = 10 * 10 from rfl, cnt_col hp10 10 e1]
    have e3 := cntTo_stop (f := hitB h u q p) (n := hn h) (10 - hn h) (fun i hi z => by
      unfold hitB
      rw [goes_f1 ok (k.2.2.2.2.2.1 i hi (by omega))]; rfl)
    rw [show hn h + (10 - hn h) = 10 by omega] at e3
    exact e3.symm
  · rw [if_neg hp]
    exact (cntTo_zero (fun m hm => by
      unfold goodB
      by_cases h2 : mayM h u m = true
      · rw [h2, Bool.true_and, decide_eq_false_iff_not]
        intro h3
        have h4 := log_close ok h2 h3
        rw [h4] at hp
        exact absurd (pop_2 (m % 10) (Nat.mod_lt _ (by decide))) hp
      · rw [show mayM h u m = false by simpa using h2]; rfl)).symm
def cnt2 (h : HV) (u : LV) (q : Nat) : List Nat → Nat
  | [] => 0
  | x :: l => cntL h (stepV h u x) q (L1 h (stepV h u x) 0) + cnt2 h u q l
def cnt3 (h : HV) (u : LV) (q : Nat) : List Nat → Nat
  | [] => 0
  | x :: l => cnt2 h (stepV h u x) q (L1 h (stepV h u x) 0) + cnt3 h u q l
theorem L1_may {h : HV} {w : LV} {n x : Nat} (hx : x ∈ L1 h w n) : mayM h w x = true := by
  unfold L1 at hx
  generalize hk : 100 - n = k at hx
  induction k generalizing n with
  | zero => cases hx
  | succ k ih =>
    unfold movesK at hx
    split at hx
    · next hm =>
      rcases List.mem_cons.mp hx with rfl | hx
      · exact hm
      · exact ih (n := n + 1) (by omega) hx
    · exact ih (n := n + 1) (by omega) hx
theorem sumL_app (f : List Nat → Nat) : ∀ a b : List (List Nat), sumL f (a ++ b) = sumL f a + sumL f b
  | [], b => by show sumL f b = 0 + sumL f b; omega
  | e :: a, b => by
    show f e + sumL f (a ++ b) = f e + sumL f a + sumL f b
    rw [sumL_app f a b]; omega
theorem sum_2 {h : HV} {u : LV} {q : Nat} (ok : HOK h) (k : LOK h u) : ∀ l : List Nat, (∀ x ∈ l, x < 100 ∧ mayM h u x = true) → ∀ g : LV → List Nat → LV, (∀ x, g u [x] = stepV h u x) → sumL (fun e => lastN h (g u e) q) (l.map (fun x => [x])) = cnt2 h u q l
  | [], _, _, _ => rfl
  | x :: l, hx, g, hg => by
    have h1 := hx x List.mem_cons_self
    show lastN h (g u [x]) q + sumL _ (l.map _) = _
    rw [hg, last_cnt ok (LOK_step ok k h1.1 h1.2), sum_2 ok k l (fun y hy => hx y (List.mem_cons_of_mem _ hy)) g hg]
    rfl
theorem sum_y {h : HV} {u : LV} {q x : Nat} (ok : HOK h) (k : LOK h (stepV h u x)) : ∀ l : List Nat, (∀ y ∈ l, y < 100 ∧ mayM h (stepV h u x) y = true) → sumL (fun e => lastN h (endV h u e) q) (l.map (fun y => [x, y])) = cnt2 h (stepV h u x) q l
  | [], _ => rfl
  | y :: l, hy => by
    have h1 := hy y List.mem_cons_self
    show lastN h (stepV h (stepV h u x) y) q + sumL _ (l.map _) = _
    rw [last_cnt ok (LOK_step ok k h1.1 h1.2), sum_y ok k l (fun z hz => hy z (List.mem_cons_of_mem _ hz))]
    rfl
theorem sum_3 {h : HV} {u : LV} {q : Nat} (ok : HOK h) (k : LOK h u) : ∀ l : List Nat, (∀ x ∈ l, x < 100 ∧ mayM h u x = true) → sumL (fun e => lastN h (endV h u e) q) (l.flatMap (fun x => (L1 h (stepV h u x) 0).map (fun y => [x, y]))) = cnt3 h u q l
  | [], _ => rfl
  | x :: l, hx => by
    have h1 := hx x List.mem_cons_self
    rw [List.flatMap_cons, sumL_app, sum_y ok (LOK_step ok k h1.1 h1.2) _ (fun y hy => ⟨L1_lt hy, L1_may hy⟩), sum_3 ok k l (fun y hy => hx y (List.mem_cons_of_mem _ hy))]
    rfl
def logF (h : HV) (u : LV) (q j o : Nat) : Nat := if j = 1 then cntL h u q (L1 h u o) else cnt2 h u q (L1 h u o)
/-- what is still to come from the MOVE m on -/
def logR (h : HV) (w : LV) (q : Nat) : Nat → Nat → Nat
  | 0, m => if m = 0 then (if openTo w (hn h) = q then 1 else 0) else 0
  | 1, m => cntL h w q (L1 h w m)
  | 2, m => cnt2 h w q (L1 h w m)
  | _, m => cnt3 h w q (L1 h w m)
theorem log_eq {h : HV} {w : LV} {q : Nat} (ok : HOK h) (k : LOK h w) : ∀ j, j ≤ 3 → logV h w j q = logR h w q j 0
  | 0, _ => rfl
  | 1, _ => by
    show lastN h w q + 0 = cntL h w q (L1 h w 0)
    rw [last_cnt ok k]; rfl
  | 2, _ => by
    show sumL (fun e => lastN h (endV h w e) q) ((L1 h w 0).map (fun x => [x])) = _
    exact sum_2 ok k _ (fun x hx => ⟨L1_lt hx, L1_may hx⟩) (endV h) (fun _ => rfl)
  | 3, _ => sum_3 ok k _ (fun x hx => ⟨L1_lt hx, L1_may hx⟩)
theorem lr_no {h : HV} {w : LV} {q m : Nat} (hm : m < 100) (z : mayM h w m = false) : ∀ j, 0 < j → logR h w q j m = logR h w q j (m + 1)
  | 1, _ => by show cntL h w q (L1 h w m) = _; rw [L1_no hm z]; rfl
  | 2, _ => by show cnt2 h w q (L1 h w m) = _; rw [L1_no hm z]; rfl
  | j + 3, _ => by show cnt3 h w q (L1 h w m) = _; rw [L1_no hm z]; rfl
theorem lr_1 {h : HV} {w : LV} {q m : Nat} (hm : m < 100) (z : mayM h w m = true) {j : Nat} (hj : j = 1) : logR h w q j m = (if openTo (stepV h w m) (hn h) = q then 1 else 0) + logR h w q j (m + 1) := by
  subst hj
  show cntL h w q (L1 h w m) = _
  rw [L1_yes hm z]; rfl
theorem lr_2 {h : HV} {w : LV} {q m : Nat} (hm : m < 100) (z : mayM h w m = true) : ∀ j, 2 ≤ j → j ≤ 3 → logR h w q j m = logF h (stepV h w m) q (j - 1) 0 + logR h w q j (m + 1)
  | 2, _, _ => by show cnt2 h w q (L1 h w m) = _; rw [L1_yes hm z]; rfl
  | 3, _, _ => by show cnt3 h w q (L1 h w m) = _; rw [L1_yes hm z]; rfl
theorem lr_stop {h : HV} {w : LV} {q m : Nat} (ok : HOK h) (k : LOK h w) (hm : 10 * hn h ≤ m) : ∀ j, 0 < j → logR h w q j m = 0
  | 1, _ => by show cntL h w q (L1 h w m) = _; rw [L1_stop ok k hm]; rfl
  | 2, _ => by show cnt2 h w q (L1 h w m) = _; rw [L1_stop ok k hm]; rfl
  | j + 3, _ => by show cnt3 h w q (L1 h w m) = _; rw [L1_stop ok k hm]; rfl
theorem lr_0 {h : HV} {w : LV} {q a v m j : Nat} (hj : j = 0) (hm : m = 0) (e : (if openTo w (hn h) = q then 1 else 0) = v) (hres : a + logR h w q j m = logR h w q j 0) : a + v + logR h w q j (m + 1) = logR h w q j 0 := by
  subst hj
  subst hm
  have e1 : logR h w q 0 (0 + 1) = 0 := rfl
  have e2 : logR h w q 0 0 = v := by
    show (if (0 : Nat) = 0 then (if openTo w (hn h) = q then 1 else 0) else 0) = v
    rw [if_pos rfl]; exact e
  omega
theorem lf_no {h : HV} {w : LV} {q m j : Nat} (hm : m < 100) (z : mayM h w m = false) : logF h w q j m = logF h w q j (m + 1) := by unfold logF; rw [L1_no hm z]
theorem lf_1 {h : HV} {w : LV} {q m j : Nat} (hm : m < 100) (z : mayM h w m = true) (hj : j = 1) : logF h w q j m = (if openTo (stepV h w m) (hn h) = q then 1 else 0) + logF h w q j (m + 1) := by
  unfold logF; rw [if_pos hj, if_pos hj, L1_yes hm z]; rfl
theorem lf_2 {h : HV} {w : LV} {q m j : Nat} (hm : m < 100) (z : mayM h w m = true) (hj : ¬ j = 1) : logF h w q j m = cntL h (stepV h w m) q (L1 h (stepV h w m) 0) + logF h w q j (m + 1) := by
  unfold logF; rw [if_neg hj, if_neg hj, L1_yes hm z]; rfl
theorem lf_stop {h : HV} {w : LV} {q m j : Nat} (ok : HOK h) (k : LOK h w) (hm : 10 * hn h ≤ m) : logF h w q j m = 0 := by
  unfold logF; rw [L1_stop ok k hm]; split <;> rfl
