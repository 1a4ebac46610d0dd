/-! what bringTo, the worms, the coming down and a WATCH keep -/
theorem bring_ti {h : HV} {w : LV} (ok : HOK h) (k : LOK h w) {t x : Nat} (ht : t < hn h) (hx : x < 10 → x < hn h ∧ ti w x = none) (p s : Nat) (hp : p < 10) : (ti (bringV w t x) p = some s ↔ s < 10 ∧ wh (bringV w t x) s = p) := by
  have hn10 := ok.1
  have kk := k.2.2.2.1
  show ((if x < 10 then va_up (bringT w t) x (some t) else bringT w t) p = some s ↔ s < 10 ∧ va_up (wh w) t x s = p)
  have hB : x ≠ p → (bringT w t p = some s ↔ s ≠ t ∧ s < 10 ∧ wh w s = p) := by
    intro hxp
    unfold bringT
    by_cases hw10 : wh w t < 10
    · rw [if_pos hw10]
      by_cases hpw : p = wh w t
      · rw [hpw, va_up_self]
        constructor
        · intro z; cases z
        · intro ⟨z1, z2, z3⟩
          have a1 := (kk (wh w t) t hw10).mpr ⟨by omega, rfl⟩
          have a2 := (kk (wh w t) s hw10).mpr ⟨z2, z3⟩
          rw [a1] at a2
          cases a2
          exact absurd rfl z1
      · rw [va_up_ne _ _ hpw, kk p s hp]
        constructor
        · intro ⟨z1, z2⟩
          exact ⟨fun e => hpw (by rw [← z2, e]), z1, z2⟩
        · intro ⟨_, z1, z2⟩; exact ⟨z1, z2⟩
    · rw [if_neg hw10, kk p s hp]
      constructor
      · intro ⟨z1, z2⟩
        exact ⟨fun e => hw10 (by rw [← e, z2]; exact hp), z1, z2⟩
      · intro ⟨_, z1, z2⟩; exact ⟨z1, z2⟩
  by_cases hst : s = t
  · subst hst
    rw [va_up_self]
    by_cases hx10 : x < 10
    · rw [if_pos hx10]
      by_cases hpx : p = x
      · subst hpx; rw [va_up_self]; exact ⟨fun _ => ⟨by omega, rfl⟩, fun _ => rfl⟩
      · rw [va_up_ne _ _ hpx, hB (fun e => hpx e.symm)]
        exact ⟨fun z => absurd rfl z.1, fun z => absurd z.2.symm hpx⟩
    · rw [if_neg hx10, hB (by omega)]
      exact ⟨fun z => absurd rfl z.1, fun z => absurd z.2 (by omega)⟩
  · rw [va_up_ne _ _ hst]
    by_cases hx10 : x < 10
    · rw [if_pos hx10]
      by_cases hpx : p = x
      · subst hpx
        rw [va_up_self]
        constructor
        · intro z; cases z; exact absurd rfl hst
        · intro z
          have := (kk p s hp).mpr z
          rw [(hx hx10).2] at this
          cases this
      · rw [va_up_ne _ _ hpx, hB (fun e => hpx e.symm)]
        exact ⟨fun z => z.2, fun z => ⟨hst, z⟩⟩
    · rw [if_neg hx10, hB (by omega)]
      exact ⟨fun z => z.2, fun z => ⟨hst, z⟩⟩
theorem bring_can {w : LV} (k : CAN w) {t x : Nat} (ht : t < 10) : CAN (bringV w t x) := by
  intro j hj
  obtain ⟨k1, k2, k3, k4⟩ := k j hj
  have hB : bringT w t j = some 0 := by
    unfold bringT
    split
    · rw [va_up_ne _ _ (by omega)]; exact k4
    · exact k4
  refine ⟨?_, k2, k3, ?_⟩
  · show va_up (wh w) t x j = 0
    rw [va_up_ne _ _ (by omega)]; exact k1
  · show (if x < 10 then va_up (bringT w t) x (some t) else bringT w t) j = some 0
    split
    · rw [va_up_ne _ _ (by omega)]; exact hB
    · exact hB
theorem LOK_bring {h : HV} {w : LV} (ok : HOK h) (k : LOK h w) {t x : Nat} (ht : t < hn h) (hx : x = 200 ∨ (wo w t ≤ 9 ∧ (x = 100 ∨ (x < hn h ∧ ti w x = none)))) : LOK h (bringV w t x) := by
  have hn10 := ok.1
  obtain ⟨k1, k2, k3, k4, k5, k6, k7, k8⟩ := id k
  refine ⟨fun s => ?_, k2, k3, bring_ti ok k ht (fun z => ?_), fun s hs => ?_, fun s h1 h2 => ?_, fun s h1 h2 => ?_, bring_can k8 (by omega)⟩
  · refine ⟨?_, (k1 s).2⟩
    show va_up (wh w) t x s ≤ 200
    by_cases e : s = t
    · rw [e, va_up_self]; omega
    · rw [va_up_ne _ _ e]; exact (k1 s).1
  · rcases hx with e | ⟨_, e | e⟩
    · omega
    · omega
    · exact e
  · show va_up (wh w) t x s < hn h ∨ va_up (wh w) t x s = 100 ∨ va_up (wh w) t x s = 200
    by_cases e : s = t
    · rw [e, va_up_self]; omega
    · rw [va_up_ne _ _ e]; exact k5 s hs
  · show va_up (wh w) t x s = 200
    rw [va_up_ne _ _ (by omega)]; exact k6 s h1 h2
  · show wo w s ≤ 9
    have h3 : va_up (wh w) t x s ≠ 200 := h2
    by_cases e : s = t
    · rw [e, va_up_self] at h3
      rcases hx with e2 | e2
      · exact absurd e2 h3
      · rw [e]; exact e2.1
    · rw [va_up_ne _ _ e] at h3; exact k7 s h1 h3
/-- a timber in a place is one of the hull's -/
theorem LOK.in_ {h : HV} {w : LV} (ok : HOK h) (k : LOK h w) {p t : Nat} (hp : p < 10) (q : ti w p = some t) : t < hn h := by
  obtain ⟨h1, h2, h3⟩ := k.tn ok hp q
  rcases Nat.lt_or_ge t (hn h) with z | z
  · exact z
  · have := k.2.2.2.2.2.1 t z h1
    have := ok.1
    omega
theorem LOK_water {h : HV} {w : LV} (k : LOK h w) {x : Nat} (h1 : x ≤ 300) (h2 : su w = false → x ≤ hho h) : LOK h (waterV w x) := ⟨k.1, h1, h2, k.2.2.2⟩
theorem LOK_sink {h : HV} {w : LV} (k : LOK h w) {x : Nat} (h1 : x ≤ 300) : LOK h (sinkV (waterV w x)) := ⟨k.1, h1, fun z => (by cases (show true = false from z)), k.2.2.2⟩
theorem LOK_down1 {h : HV} {w : LV} (ok : HOK h) (k : LOK h w) {p : Nat} (hp : p < 10) : LOK h (down1 h w p) := by
  unfold down1
  cases hh : ti w p with
  | none => exact k
  | some t =>
    show LOK h (if hangV h w p = true then bringV w t 100 else w)
    split
    · have q := k.tn ok hp hh
      exact LOK_bring ok k (k.in_ ok hp hh) (Or.inr ⟨k.2.2.2.2.2.2.1 t q.1 (by omega), Or.inl rfl⟩)
    · exact k
theorem LOK_downTo {h : HV} {w : LV} (ok : HOK h) (k : LOK h w) : ∀ {p : Nat}, p ≤ 10 → LOK h (downTo h w p)
  | 0, _ => k
  | p + 1, hp => LOK_down1 ok (LOK_downTo ok k (by omega)) (by omega)
theorem worm_wo (w : LV) (t : Nat) : wo (wormV w t) t = wo w t + 1 := va_up_self _ _ _
theorem LOK_worm {h : HV} {w : LV} (k : LOK h w) {t : Nat} (ht : t < 10) (h9 : wo w t < 9) : LOK h (wormV w t) := by
  obtain ⟨k1, k2, k3, k4, k5, k6, k7, k8⟩ := k
  refine ⟨fun s => ⟨(k1 s).1, (k1 s).2.1, ?_⟩, k2, k3, k4, k5, k6, fun s h1 h2 => ?_, fun j hj => ⟨(k8 j hj).1, (k8 j hj).2.1, ?_, (k8 j hj).2.2.2⟩⟩
  · show va_up (wo w) t (wo w t + 1) s ≤ 10
    by_cases e : s = t
    · rw [e, va_up_self]; omega
    · rw [va_up_ne _ _ e]; exact (k1 s).2.2
  · show va_up (wo w) t (wo w t + 1) s ≤ 9
    by_cases e : s = t
    · rw [e, va_up_self]; omega
    · rw [va_up_ne _ _ e]; exact k7 s h1 h2
  · show va_up (wo w) t (wo w t + 1) j = 0
    rw [va_up_ne _ _ (by omega)]; exact (k8 j hj).2.2.1
theorem LOK_worm10 {h : HV} {w : LV} (ok : HOK h) (k : LOK h w) {t : Nat} (ht : t < hn h) (h9 : wo w t ≤ 9) : LOK h (bringV (wormV w t) t 200) := by
  have hn10 := ok.1
  have kb := LOK_bring ok k ht (x := 200) (Or.inl rfl)
  obtain ⟨k1, k2, k3, k4, k5, k6, k7, k8⟩ := kb
  obtain ⟨j1, j2, j3, j4, j5, j6, j7, j8⟩ := k
  refine ⟨fun s => ⟨(k1 s).1, (k1 s).2.1, ?_⟩, k2, k3, k4, k5, k6, fun s h1 h2 => ?_, fun j hj => ⟨(k8 j hj).1, (k8 j hj).2.1, ?_, (k8 j hj).2.2.2⟩⟩
  · show va_up (wo w) t (wo w t + 1) s ≤ 10
    by_cases e : s = t
    · rw [e, va_up_self]; omega
    · rw [va_up_ne _ _ e]; exact (j1 s).2.2
  · show va_up (wo w) t (wo w t + 1) s ≤ 9
    have h3 : va_up (wh w) t 200 s ≠ 200 := h2
    by_cases e : s = t
    · rw [e, va_up_self] at h3; exact absurd rfl h3
    · rw [va_up_ne _ _ e] at h3 ⊢; exact j7 s h1 h3
  · show va_up (wo w) t (wo w t + 1) j = 0
    rw [va_up_ne _ _ (by omega)]; exact (j8 j hj).2.2.1
theorem LOK_worm1 {h : HV} {w : LV} (ok : HOK h) (k : LOK h w) {p : Nat} (hp : p < 10) : LOK h (worm1 w p) := by
  unfold worm1
  cases hh : ti w p with
  | none => exact k
  | some t =>
    have ht := k.in_ ok hp hh
    have q := k.tn ok hp hh
    have h9 := k.2.2.2.2.2.2.1 t q.1 (by omega)
    show LOK h (if 0 < wo w t then (if 10 ≤ wo (wormV w t) t then bringV (wormV w t) t 200 else wormV w t) else w)
    split
    · split
      · exact LOK_worm10 ok k ht h9
      · next z => rw [worm_wo] at z; exact LOK_worm k q.1 (by omega)
    · exact k
theorem LOK_wormTo {h : HV} {w : LV} (ok : HOK h) (k : LOK h w) : ∀ {p : Nat}, p ≤ 10 → LOK h (wormTo w p)
  | 0, _ => k
  | p + 1, hp => LOK_worm1 ok (LOK_wormTo ok k (by omega)) (by omega)
theorem waterN_le {h : HV} {w : LV} (ok : HOK h) (k : LOK h w) (hs : su w = false) : waterN h w ≤ 300 := by
  have := leakV_le (w := w) ok
  have := k.2.2.1 hs
  have := ok.2.2.1
  unfold waterN
  omega
theorem LOK_watch {h : HV} {w : LV} (ok : HOK h) (k : LOK h w) (hs : su w = false) : LOK h (watchV h w) := by
  unfold watchV
  have hx := waterN_le ok k hs
  split
  · exact LOK_sink k hx
  · exact LOK_downTo ok (LOK_wormTo ok (LOK_water k hx (fun _ => by omega)) ok.1) ok.1
theorem max_sub {a b : Nat} (ha : a < 2 ^ 30) (hb : b < 2 ^ 30) : (if nI 0 < nI a - nI b then nI a - nI b else nI 0) = nI (a - b) := by
  have e := pk_sub_toInt ha hb
  by_cases h : b < a
  · rw [if_pos (by rw [Int32.lt_iff_toInt_lt, nI_toInt (by decide), e]; omega), pk_sub (by omega)]
  · rw [if_neg (by rw [Int32.lt_iff_toInt_lt, nI_toInt (by decide), e]; omega), show a - b = 0 by omega]
