/-! WHAT A STATE KEEPS: every call leaves a state that is well made -/
theorem rem_at {a : AV} {w : LV} (ok : AOK a) : ∀ k, k < asz (remV a w) → alo (remV a w) ((afi (remV a w) + k) % 24) = w ∨ ∃ j, j < asz a ∧ alo (remV a w) ((afi (remV a w) + k) % 24) = alo a ((afi a + j) % 24) := by
  obtain ⟨o1, o2, -⟩ := ok
  intro k
  unfold remV
  by_cases e : 24 ≤ asz a
  · rw [if_pos e]
    intro hk
    have es : asz a = 24 := by omega
    have hk2 : k < 24 := by have : k < asz a := hk; omega
    show va_up (alo a) (((afi a + 1) % 24 + (asz a - 1)) % 24) w (((afi a + 1) % 24 + k) % 24) = w ∨ ∃ j, j < asz a ∧ va_up (alo a) (((afi a + 1) % 24 + (asz a - 1)) % 24) w (((afi a + 1) % 24 + k) % 24) = alo a ((afi a + j) % 24)
    rw [es]
    by_cases e3 : k = 23
    · subst e3; exact Or.inl (va_up_self _ _ _)
    · refine Or.inr ⟨k + 1, by omega, ?_⟩
      rw [va_up_ne _ _ (by omega), show ((afi a + 1) % 24 + k) % 24 = (afi a + (k + 1)) % 24 by omega]
  · rw [if_neg e]
    intro hk
    have hk2 : k < asz a + 1 := hk
    show va_up (alo a) ((afi a + asz a) % 24) w ((afi a + k) % 24) = w ∨ ∃ j, j < asz a ∧ va_up (alo a) ((afi a + asz a) % 24) w ((afi a + k) % 24) = alo a ((afi a + j) % 24)
    by_cases e3 : k = asz a
    · subst e3; exact Or.inl (va_up_self _ _ _)
    · refine Or.inr ⟨k, by omega, ?_⟩
      rw [va_up_ne _ _ (by omega)]
theorem xok_act {x : XV} (ok : XOK x) {w : LV} (hw : LOK (xh x) w) : XOK (actX x w) := by
  obtain ⟨h1, h2, h3, h4, h5, h6, h7⟩ := ok
  refine ⟨h1, h2, hw, rem_sz h4 h3.can, h5, fun k hk => ?_, h7⟩
  rcases rem_at h4 k hk with e | ⟨j, hj, e⟩
  · show LOK (xh x) (alo (remV (xa x) (xw x)) ((afi (remV (xa x) (xw x)) + k) % 24))
    rw [e]; exact h3
  · show LOK (xh x) (alo (remV (xa x) (xw x)) ((afi (remV (xa x) (xw x)) + k) % 24))
    rw [e]; exact h6 j hj
theorem xok_wipe {x : XV} (ok : XOK x) : XOK (wipeX x) := ⟨⟨Nat.zero_le _, ok.1.2⟩, ok.2⟩
theorem xok_write {x : XV} (ok : XOK x) (n : Int32) (v : Int64) : XOK (writeN x n v) := by
  unfold writeN
  split
  · next h => exact ⟨(appTo_ok ok.1 h.2).1, ok.2⟩
  · exact ok
theorem xok_take {x : XV} (ok : XOK x) (p : Int32) : XOK (takeN x p) := by
  unfold takeN
  split
  · next h =>
    obtain ⟨j, hj, ej⟩ := isP_t ok.2.1 h.1
    have okn := ok.2.1.1
    have e : ix p = j := by rw [ej, ix_n (by omega)]
    have ht := h.2.2
    rw [e] at ht ⊢
    unfold takeV at ht
    cases hh : ti (xw x) j with
    | none => rw [hh] at ht; cases ht
    | some t =>
      have hw := ok.2.2.1
      have q := hw.tn ok.2.1 (by omega) hh
      exact xok_act ok (LOK_bring ok.2.1 hw (hw.in_ ok.2.1 (by omega) hh) (Or.inr ⟨hw.2.2.2.2.2.2.1 t q.1 (by have := q.2.1; show wh (xw x) t ≠ 200; omega), Or.inl rfl⟩))
  · exact ok
theorem xok_put {x : XV} (ok : XOK x) (t p : Int32) : XOK (intoN putB x t p) := by
  unfold intoN
  split
  · next h =>
    obtain ⟨j, hj, ej⟩ := isP_t ok.2.1 h.1.1
    have okn := ok.2.1.1
    have e : ix t = j := by rw [ej, ix_n (by omega)]
    have hb := h.2
    rw [e] at hb ⊢
    unfold putB at hb
    simp only [Bool.and_eq_true, decide_eq_true_eq] at hb
    exact xok_act ok (LOK_put ok.2.1 ok.2.2.1 (by omega) (by rw [hb.2.1]; decide) hb.2.2)
  · exact ok
theorem xok_move {x : XV} (ok : XOK x) (t p : Int32) : XOK (intoN moveB x t p) := by
  unfold intoN
  split
  · next h =>
    obtain ⟨j, hj, ej⟩ := isP_t ok.2.1 h.1.1
    have okn := ok.2.1.1
    have e : ix t = j := by rw [ej, ix_n (by omega)]
    have hb := h.2
    rw [e] at hb ⊢
    unfold moveB at hb
    rw [Bool.and_eq_true] at hb
    exact xok_act ok (LOK_move ok.2.1 ok.2.2.1 (by omega) hb.2)
  · exact ok
theorem xok_watch {x : XV} (ok : XOK x) : XOK (watchN x) := by
  unfold watchN
  split
  · exact ok
  · next h => exact xok_act ok (LOK_watch ok.2.1 ok.2.2.1 (by simpa using h))
theorem xok_back {x : XV} (ok : XOK x) : XOK (backN x) := by
  unfold backN
  split
  · exact ok
  · next h =>
    obtain ⟨h1, h2, h3, h4, h5, h6, h7⟩ := ok
    exact ⟨h1, h2, h6 (asz (xa x) - 1) (by omega), ⟨h4.1, by have := h4.2.1; show asz (xa x) - 1 ≤ 24; omega, h4.2.2⟩, h5, fun k hk => h6 k (by have : k < asz (xa x) - 1 := hk; omega), h7⟩
theorem xok_keep {x : XV} (ok : XOK x) (s : Int32) : XOK (keepN x s) := by
  unfold keepN
  split
  · obtain ⟨h1, h2, h3, h4, h5, h6, h7⟩ := ok
    refine ⟨h1, h2, h3, h4, fun k hk => ?_, h6, fun j hj => ?_⟩
    · show CAN (va_up (slo (xs x)) (ix s) (xw x) k)
      by_cases e : k = ix s
      · rw [e, va_up_self]; exact h3.can
      · rw [va_up_ne _ _ e]; exact h5 k hk
    · show va_up (sfl (xs x)) (ix s) true j = true → LOK (xh x) (va_up (slo (xs x)) (ix s) (xw x) j)
      by_cases e : j = ix s
      · rw [e, va_up_self, va_up_self]; exact fun _ => h3
      · rw [va_up_ne _ _ e, va_up_ne _ _ e]; exact h7 j hj
  · exact ok
theorem xok_again {x : XV} (ok : XOK x) (s : Int32) : XOK (againN x s) := by
  unfold againN
  split
  · next h =>
    obtain ⟨j, hj, ej⟩ := isS_t h.1
    have e : ix s = j := by rw [ej, ix_n (by omega)]
    have hb := h.2
    rw [e] at hb ⊢
    obtain ⟨h1, h2, h3, h4, h5, h6, h7⟩ := ok
    exact ⟨h1, h2, h7 j hj hb, ⟨h4.1, Nat.zero_le _, h4.2.2⟩, h5, fun k hk => absurd hk (Nat.not_lt_zero k), h7⟩
  · exact ok
theorem fig_9 {v : TV} {i a m : Nat} (h : isFig v i a m = true) : fig v i < m := (fig_ok h).2.2
theorem hullOf_ok {v : TV} {h : HV} (_ : TOK v) (ok : HOK h) (q : fAll v = none) : HOK (hullOf v h) := by
  obtain ⟨n, hn10, hwl, hend⟩ := all_well q
  obtain ⟨s1, s2, s3, s4⟩ := hull_spec (h := h) hn10 (fun p hp => (hwl p hp).1) hend
  obtain ⟨-, f1, f2, f3, -⟩ := fAll_none q
  have g1 := fig_9 f1
  have g2 := fig_9 f2
  have g3 := fig_9 f3
  refine ⟨by rw [s1]; exact hn10, by rw [s2]; omega, by rw [s3]; omega, fun j => ?_, fun j r hr => ?_, fun j r hr => ?_⟩
  · rw [(s4 j).1, (s4 j).2.1]
    by_cases e : j < n
    · rw [if_pos e, if_pos e]
      obtain ⟨p1, p2, -⟩ := fPlace_none (hwl j e).2
      have := fig_9 p1
      have := fig_9 p2
      omega
    · rw [if_neg e, if_neg e]; exact ok.2.2.2.1 j
  · rw [(s4 j).2.2.1] at hr
    rw [s1]
    by_cases e : j < n
    · rw [if_pos e] at hr
      obtain ⟨-, -, p3, -⟩ := fPlace_none (hwl j e).2
      unfold reT at hr
      split at hr
      · cases hr
      · next e45 =>
        cases hr
        rcases p3 with z | z
        · exact absurd z e45
        · have := fig_9 z; omega
    · rw [if_neg e] at hr
      exact ⟨(ok.2.2.2.2.1 j r hr).1, fun z => absurd z e⟩
  · rw [(s4 j).2.2.2] at hr
    by_cases e : j < n
    · rw [if_pos e] at hr
      obtain ⟨-, -, -, p4⟩ := fPlace_none (hwl j e).2
      unfold shT at hr
      split at hr
      · next e80 => cases hr; exact fig_9 (p4 e80).1
      · cases hr
    · rw [if_neg e] at hr
      exact ok.2.2.2.2.2 j r hr
theorem hullOf_fig {v : TV} {h : HV} (_ : TOK v) (q : fAll v = none) : ∀ p, p < hn (hullOf v h) → tat v (off v p) = some 80 → isFig v (off v p + 5) 0 10 = true := by
  obtain ⟨n, hn10, hwl, hend⟩ := all_well q
  obtain ⟨s1, -⟩ := hull_spec (h := h) hn10 (fun p hp => (hwl p hp).1) hend
  intro p hp e
  rw [s1] at hp
  exact ((fPlace_none (hwl p hp).2).2.2.2 e).2
theorem xok_ship {x : XV} (ok : XOK x) : XOK (shipN x) := by
  unfold shipN
  split
  · next q =>
    obtain ⟨h1, h2, h3, h4, h5, h6, h7⟩ := ok
    have hH := hullOf_ok h1 h2 q
    have hF := hullOf_fig (h := xh x) h1 q
    have hn10 := hH.1
    have fs := fillOf_spec (xt x) (hullOf (xt x) (xh x)) (xw x)
    have hin : ∀ j, inT (xt x) (hullOf (xt x) (xh x)) (off (xt x) j) j = true → j < hn (hullOf (xt x) (xh x)) ∧ fig (xt x) (off (xt x) j + 5) < 10 := by
      intro j hj
      unfold inT at hj
      rw [Bool.and_eq_true, decide_eq_true_eq, decide_eq_true_eq] at hj
      exact ⟨hj.1, fig_9 (hF j hj.1 hj.2)⟩
    have hL : LOK (hullOf (xt x) (xh x)) (fillOf (xt x) (hullOf (xt x) (xh x)) (xw x)) := by
      refine ⟨fun t => ?_, Nat.zero_le _, fun _ => Nat.zero_le _, fun p t hp => ?_, fun t ht => ?_, fun t h8 h9 => ?_, fun t ht hw => ?_, fun j hj => ?_⟩
      · obtain ⟨f1, f2, f3, -⟩ := fs t
        rw [f1, f2, f3]
        by_cases e : t < 10
        · rw [if_pos e, if_pos e, if_pos e]
          by_cases e2 : inT (xt x) (hullOf (xt x) (xh x)) (off (xt x) t) t = true
          · rw [if_pos e2, if_pos e2, if_pos e2]
            have := (hin t e2).2
            have := (hH.2.2.2.1 t).1
            omega
          · rw [if_neg e2, if_neg e2, if_neg e2]; omega
        · rw [if_neg e, if_neg e, if_neg e]; exact h3.1 t
      · rw [(fs p).2.2.2, (fs t).1, if_pos hp]
        by_cases e : t < 10
        · rw [if_pos e]
          by_cases e2 : inT (xt x) (hullOf (xt x) (xh x)) (off (xt x) p) p = true
          · rw [if_pos e2]
            by_cases e3 : inT (xt x) (hullOf (xt x) (xh x)) (off (xt x) t) t = true
            · rw [if_pos e3]
              constructor
              · intro z; cases z; exact ⟨e, rfl⟩
              · intro z; rw [z.2]
            · rw [if_neg e3]
              constructor
              · intro z; cases z; exact absurd e2 e3
              · intro z; omega
          · rw [if_neg e2]
            constructor
            · intro z; cases z
            · intro z
              by_cases e3 : inT (xt x) (hullOf (xt x) (xh x)) (off (xt x) t) t = true
              · rw [if_pos e3] at z; rw [z.2] at e3; exact absurd e3 e2
              · rw [if_neg e3] at z; omega
        · constructor
          · intro z
            by_cases e2 : inT (xt x) (hullOf (xt x) (xh x)) (off (xt x) p) p = true
            · rw [if_pos e2] at z; cases z; exact absurd hp e
            · rw [if_neg e2] at z; cases z
          · intro z; exact absurd z.1 e
      · rw [(fs t).1, if_pos ht]
        by_cases e : inT (xt x) (hullOf (xt x) (xh x)) (off (xt x) t) t = true
        · rw [if_pos e]; exact Or.inl (hin t e).1
        · rw [if_neg e]; exact Or.inr (Or.inr rfl)
      · rw [(fs t).1, if_pos h9]
        by_cases e : inT (xt x) (hullOf (xt x) (xh x)) (off (xt x) t) t = true
        · have := (hin t e).1; omega
        · rw [if_neg e]
      · rw [(fs t).1, if_pos ht] at hw
        rw [(fs t).2.2.1, if_pos ht]
        by_cases e : inT (xt x) (hullOf (xt x) (xh x)) (off (xt x) t) t = true
        · rw [if_pos e]; have := (hin t e).2; omega
        · rw [if_neg e] at hw; exact absurd rfl hw
      · obtain ⟨f1, f2, f3, f4⟩ := fs j
        rw [f1, f2, f3, f4, if_neg (by omega), if_neg (by omega), if_neg (by omega), if_neg (by omega)]
        exact h3.can j hj
    refine ⟨h1, hH, hL, ⟨h4.1, Nat.zero_le _, h4.2.2⟩, h5, fun k hk => absurd hk (Nat.not_lt_zero k), fun j hj => ?_⟩
    show va_up (va_up (sfl (xs x)) 0 false) 1 false j = true → _
    rcases (show j = 0 ∨ j = 1 by omega) with rfl | rfl
    · rw [va_up_ne _ _ (by decide), va_up_self]; exact fun z => by cases z
    · rw [va_up_self]; exact fun z => by cases z
  · exact ok
theorem ctX8_ship (l : Launch) (g : Gx) (lo : Nat) (ad : Nat → Nat) {F : Nat → va_E} {x : XV} (hX : XC g ad F x) (okx : XOK x) : MI l g lo 196 ad yX8_ship wsX8_ship 6 132 [.ref (ad (0))] F (fun r F' => r = shipA x ∧ XC g ad F' (shipN x) ∧ Same 0 175 F F') :=
  ctX8_ship_open l g lo ad hX okx (fun _ hk => fAll_le hk) hullOf_ok hullOf_fig
/-- a new object -/
def lv0 : LV := (fun j => if j < 10 then 200 else 0, fun _ => 0, fun _ => 0, fun j => if j < 10 then none else some 0, 0, false)
def hv0 : HV := (0, 0, 1, fun _ => 0, fun _ => 0, fun _ => some 0, fun _ => some 0)
def x0 : XV := ((fun _ => 0, 0), hv0, lv0, (0, 0, fun _ => lv0), (fun _ => lv0, fun _ => false))
theorem can0 : CAN lv0 := fun j hj => ⟨if_neg (by omega), rfl, rfl, if_neg (by omega)⟩
theorem lok0 : LOK hv0 lv0 := by
  refine ⟨fun t => ⟨?_, Nat.zero_le _, Nat.zero_le _⟩, Nat.zero_le _, fun _ => Nat.zero_le _, fun p t hp => ?_, fun t ht => Or.inr (Or.inr (if_pos ht)), fun t _ ht => if_pos ht, fun t _ _ => Nat.zero_le _, can0⟩
  · show (if t < 10 then 200 else 0) ≤ 200
    split <;> omega
  · show (if p < 10 then none else some 0) = some t ↔ t < 10 ∧ (if t < 10 then 200 else 0) = p
    rw [if_pos hp]
    constructor
    · intro z; cases z
    · intro z; rw [if_pos z.1] at z; omega
theorem xok0 : XOK x0 := ⟨⟨Nat.zero_le _, fun _ => (by decide : (0 : Nat) < 256)⟩, ⟨Nat.zero_le _, Nat.zero_le _, (by decide : 1 ≤ 99), fun _ => ⟨Nat.zero_le _, Nat.zero_le _⟩, fun _ r hr => (by cases hr; exact ⟨by decide, fun z => absurd z (Nat.not_lt_zero _)⟩), fun _ r hr => (by cases hr; decide)⟩, lok0, ⟨(by decide : 0 < 24), Nat.zero_le _, fun _ _ => can0⟩, fun _ _ => can0, fun k hk => absurd hk (Nat.not_lt_zero k), fun _ _ z => by cases z⟩
