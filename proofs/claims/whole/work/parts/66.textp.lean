/-! THE TEXT: as the reference reads it, figure by figure -/
abbrev RS : Type := Option Nat × Nat
def fgG (v : TV) (z : RS) (a m : Nat) : Bool := decide (z.1 = none) && isFig v z.2 a m
def fgF (z : RS) : Option Nat := match z.1 with
  | none => some z.2
  | some k => some k
def fgS (v : TV) (z : RS) (a m : Nat) : RS := if fgG v z a m = true then (none, z.2 + 1) else (fgF z, z.2)
def fgV (v : TV) (z : RS) (a m : Nat) : Nat := if fgG v z a m = true then fig v z.2 else 0
def SR (v : TV) (z : RS) (c : Nat → Int32) : Prop := c 18 = oI z.1 ∧ c 17 = nI z.2 ∧ z.2 ≤ tn v ∧ ∀ k, z.1 = some k → k ≤ tn v
theorem isFig_lt {v : TV} {i a m : Nat} (h : isFig v i a m = true) : i < tn v := by
  unfold isFig tat at h
  by_cases e : i < tn v
  · exact e
  · rw [if_neg e] at h; cases h
theorem sr_no {v : TV} {z : RS} {a m : Nat} {c c' : Nat → Int32} (g : fgG v z a m = false) (hs : SR v z c) (e18 : c' 18 = oI (fgF z)) (e17 : c' 17 = nI z.2) : SR v (fgS v z a m) c' := by
  obtain ⟨-, -, h3, h4⟩ := hs
  unfold fgS
  rw [if_neg (by rw [g]; decide)]
  refine ⟨e18, e17, h3, fun k hk => ?_⟩
  unfold fgF at hk
  split at hk
  · cases hk; exact h3
  · next e => cases hk; exact h4 k e
theorem sr_yes {v : TV} {z : RS} {a m : Nat} {c' : Nat → Int32} (g : fgG v z a m = true) (e18 : c' 18 = oI z.1) (e17 : c' 17 = nI (z.2 + 1)) : SR v (fgS v z a m) c' := by
  unfold fgS
  rw [if_pos g]
  unfold fgG at g
  rw [Bool.and_eq_true, decide_eq_true_eq] at g
  have := isFig_lt g.2
  exact ⟨by rw [e18, g.1], e17, by show z.2 + 1 ≤ tn v; omega, fun k hk => by cases hk⟩
theorem fg_in {v : TV} (ok : TOK v) {i a m : Nat} (hi : i < tn v) (ha : a ≤ 9) (hm : m ≤ 10) : inB (Int32.toInt64 (nI (tb v i) - nI 48)) (Int32.toInt64 (nI a)) (Int32.toInt64 (nI m - nI 1)) = isFig v i a m := by
  have h1 := ok.2 i
  have e1 : (nI (tb v i) - nI 48).toInt = (tb v i : Int) - 48 := by rw [pk_sub_toInt (by omega) (by decide)]; rfl
  have e2 : (nI m - nI 1).toInt = (m : Int) - 1 := by rw [pk_sub_toInt (by omega) (by decide)]; rfl
  unfold inB isFig tat
  rw [if_pos hi]
  simp only [Int64.le_iff_toInt_le, Int32.toInt_toInt64, e1, e2, nI_toInt (show a < 2 ^ 31 by omega)]
  have z1 : decide ((a : Int) ≤ (tb v i : Int) - 48) = decide (48 + a ≤ tb v i) := decide_eq_decide.mpr (by omega)
  have z2 : decide ((tb v i : Int) - 48 ≤ (m : Int) - 1) = decide (tb v i < 48 + m) := decide_eq_decide.mpr (by omega)
  rw [z1, z2]
theorem in_m1 {a : Nat} (ha : a ≤ 9) (b : Int64) : inB (Int32.toInt64 (-1)) (Int32.toInt64 (nI a)) b = false := by
  unfold inB
  have e1 : (Int32.toInt64 (-1)).toInt = -1 := by decide
  have : ¬ Int32.toInt64 (nI a) ≤ Int32.toInt64 (-1) := by
    rw [Int64.le_iff_toInt_le, e1, Int32.toInt_toInt64, nI_toInt (by omega)]; omega
  rw [decide_eq_false this]; rfl
theorem fig_tb {v : TV} {i a m : Nat} (h : isFig v i a m = true) : nI (tb v i) - nI 48 = nI (fig v i) := by
  have e := (fig_ok h).1
  have hi := isFig_lt h
  unfold tat at e
  rw [if_pos hi] at e
  exact e
theorem fgS_some (v : TV) (k j a m : Nat) : fgS v (some k, j) a m = (some k, j) := by
  unfold fgS fgG
  rw [decide_eq_false (by simp), Bool.false_and]; rfl
theorem fgS_t {v : TV} {j a m : Nat} (h : isFig v j a m = true) : fgS v (none, j) a m = (none, j + 1) := by
  unfold fgS fgG
  rw [h]; rfl
theorem fgS_f {v : TV} {j a m : Nat} (h : isFig v j a m = false) : fgS v (none, j) a m = (some j, j) := by
  unfold fgS fgG
  rw [h]; rfl
theorem fgV_t {v : TV} {j a m : Nat} (h : isFig v j a m = true) : fgV v (none, j) a m = fig v j := by
  unfold fgV fgG
  rw [h]; rfl
def rpl1 (v : TV) (i : Nat) : RS := fgS v (none, i + 1) 1 10
def rpl2 (v : TV) (i : Nat) : RS := fgS v (rpl1 v i) 0 10
def dash (v : TV) (i : Nat) : Bool := decide ((rpl2 v i).1 = none) && decide (tat v (rpl2 v i).2 = some 45)
def rpl3 (v : TV) (i p : Nat) : RS := if dash v i = true then (none, (rpl2 v i).2 + 1) else fgS v (rpl2 v i) 0 p
def rpl5 (v : TV) (b : Bool) (i p : Nat) : RS := if b = true then fgS v (fgS v (rpl3 v i p) 0 3) 0 10 else rpl3 v i p
def rvR (v : TV) (i p : Nat) : Option Nat := if dash v i = true then none else some (fgV v (rpl2 v i) 0 p)
def rvS (v : TV) (b : Bool) (i p : Nat) : Option Nat := if b = true then some (fgV v (rpl3 v i p) 0 3) else none
def rvW (v : TV) (b : Bool) (i p : Nat) : Nat := if b = true then fgV v (fgS v (rpl3 v i p) 0 3) 0 10 else 0
theorem rp_bad1 {v : TV} {b : Bool} {i p : Nat} (h : isFig v (i + 1) 1 10 = false) : rpl5 v b i p = (some (i + 1), i + 1) := by
  have e1 : rpl1 v i = (some (i + 1), i + 1) := fgS_f h
  have e2 : rpl2 v i = (some (i + 1), i + 1) := by unfold rpl2; rw [e1, fgS_some]
  have ed : dash v i = false := by unfold dash; rw [e2]; rfl
  have e3 : rpl3 v i p = (some (i + 1), i + 1) := by unfold rpl3; rw [ed, if_neg (by decide), e2, fgS_some]
  unfold rpl5
  rw [e3, fgS_some, fgS_some]; split <;> rfl
theorem rp_bad2 {v : TV} {b : Bool} {i p : Nat} (h1 : isFig v (i + 1) 1 10 = true) (h : isFig v (i + 2) 0 10 = false) : rpl5 v b i p = (some (i + 2), i + 2) := by
  have e1 : rpl1 v i = (none, i + 2) := fgS_t h1
  have e2 : rpl2 v i = (some (i + 2), i + 2) := by unfold rpl2; rw [e1, fgS_f h]
  have ed : dash v i = false := by unfold dash; rw [e2]; rfl
  have e3 : rpl3 v i p = (some (i + 2), i + 2) := by unfold rpl3; rw [ed, if_neg (by decide), e2, fgS_some]
  unfold rpl5
  rw [e3, fgS_some, fgS_some]; split <;> rfl
theorem rp_2 {v : TV} {i : Nat} (h1 : isFig v (i + 1) 1 10 = true) (h2 : isFig v (i + 2) 0 10 = true) : rpl1 v i = (none, i + 2) ∧ rpl2 v i = (none, i + 3) ∧ dash v i = decide (tat v (i + 3) = some 45) := by
  have e1 : rpl1 v i = (none, i + 2) := fgS_t h1
  have e2 : rpl2 v i = (none, i + 3) := by unfold rpl2; rw [e1, fgS_t h2]
  exact ⟨e1, e2, by unfold dash; rw [e2]; rfl⟩
theorem rp_3 {v : TV} {i p : Nat} (h1 : isFig v (i + 1) 1 10 = true) (h2 : isFig v (i + 2) 0 10 = true) (h3 : tat v (i + 3) = some 45 ∨ isFig v (i + 3) 0 p = true) : rpl3 v i p = (none, i + 4) ∧ rvR v i p = reT v i := by
  obtain ⟨-, e2, ed⟩ := rp_2 h1 h2
  unfold rpl3 rvR reT
  rw [ed, e2]
  by_cases d : tat v (i + 3) = some 45
  · rw [decide_eq_true d, if_pos rfl, if_pos rfl, if_pos d]; exact ⟨rfl, rfl⟩
  · have h4 : isFig v (i + 3) 0 p = true := by rcases h3 with z | z; exact absurd z d; exact z
    rw [decide_eq_false d, if_neg (by decide), if_neg (by decide), if_neg d, fgS_t h4, fgV_t h4]; exact ⟨rfl, rfl⟩
theorem rp_bad3 {v : TV} {b : Bool} {i p : Nat} (h1 : isFig v (i + 1) 1 10 = true) (h2 : isFig v (i + 2) 0 10 = true) (h3 : ¬ (tat v (i + 3) = some 45 ∨ isFig v (i + 3) 0 p = true)) : rpl5 v b i p = (some (i + 3), i + 3) := by
  obtain ⟨-, e2, ed⟩ := rp_2 h1 h2
  have e3 : rpl3 v i p = (some (i + 3), i + 3) := by
    unfold rpl3
    rw [ed, decide_eq_false (fun z => h3 (Or.inl z)), if_neg (by decide), e2, fgS_f (by cases z : isFig v (i + 3) 0 p with | false => rfl | true => exact absurd (Or.inr z) h3)]
  unfold rpl5
  rw [e3, fgS_some, fgS_some]; split <;> rfl
/-- a place told well: what is read, and where the next one begins -/
theorem rp_ok {v : TV} {b : Bool} {i p : Nat} (hb : (tat v i = some 80 ∧ b = true) ∨ (tat v i = some 79 ∧ b = false)) : (rpl5 v b i p).1 = fPlace v i p ∧ (fPlace v i p = none → (rpl5 v b i p).2 = i + bop v i ∧ fgV v (none, i + 1) 1 10 = fig v (i + 1) ∧ fgV v (rpl1 v i) 0 10 = fig v (i + 2) ∧ rvR v i p = reT v i ∧ rvS v b i p = shT v i ∧ rvW v b i p = if tat v i = some 80 then fig v (i + 5) else 0) := by
  have hb2 : tat v i = some 80 ∨ tat v i = some 79 := by rcases hb with z | z; exact Or.inl z.1; exact Or.inr z.1
  unfold fPlace
  rw [if_pos hb2]
  by_cases h1 : isFig v (i + 1) 1 10 = true
  · rw [if_pos h1]
    by_cases h2 : isFig v (i + 2) 0 10 = true
    · rw [if_pos h2]
      by_cases h3 : tat v (i + 3) = some 45 ∨ isFig v (i + 3) 0 p = true
      · rw [if_pos h3]
        obtain ⟨e1, e2, -⟩ := rp_2 h1 h2
        obtain ⟨e3, eR⟩ := rp_3 h1 h2 h3
        rcases hb with ⟨hb, rfl⟩ | ⟨hb, rfl⟩
        · rw [if_pos hb]
          unfold fTimber
          have e4 : rpl5 v true i p = fgS v (fgS v (none, i + 4) 0 3) 0 10 := by unfold rpl5; rw [if_pos rfl, e3]
          by_cases h4 : isFig v (i + 4) 0 3 = true
          · rw [if_pos h4]
            rw [fgS_t h4] at e4
            by_cases h5 : isFig v (i + 5) 0 10 = true
            · rw [if_pos h5]
              rw [fgS_t h5] at e4
              rw [e4]
              refine ⟨rfl, fun _ => ⟨by unfold bop; rw [if_pos hb], fgV_t h1, by rw [e1]; exact fgV_t h2, eR, ?_, ?_⟩⟩
              · unfold rvS shT; rw [if_pos rfl, if_pos hb, e3, fgV_t h4]
              · unfold rvW; rw [if_pos rfl, if_pos hb, e3, fgS_t h4]; exact fgV_t h5
            · rw [if_neg h5]
              rw [fgS_f (by simpa using h5)] at e4
              rw [e4]
              exact ⟨rfl, fun z => by cases z⟩
          · rw [if_neg h4]
            rw [fgS_f (by simpa using h4), fgS_some] at e4
            rw [e4]
            exact ⟨rfl, fun z => by cases z⟩
        · have hn : ¬ tat v i = some 80 := by rw [hb]; decide
          rw [if_neg hn]
          have e4 : rpl5 v false i p = (none, i + 4) := by unfold rpl5; rw [if_neg (by decide), e3]
          rw [e4]
          refine ⟨rfl, fun _ => ⟨by unfold bop; rw [if_neg hn], fgV_t h1, by rw [e1]; exact fgV_t h2, eR, ?_, ?_⟩⟩
          · unfold rvS shT; rw [if_neg (by decide), if_neg hn]
          · unfold rvW; rw [if_neg (by decide), if_neg hn]
      · rw [if_neg h3, rp_bad3 h1 h2 h3]
        exact ⟨rfl, fun z => by cases z⟩
    · rw [if_neg h2, rp_bad2 h1 (by simpa using h2)]
      exact ⟨rfl, fun z => by cases z⟩
  · rw [if_neg h1, rp_bad1 (by simpa using h1)]
    exact ⟨rfl, fun z => by cases z⟩
/-- the head -/
def hd2 (v : TV) : RS := fgS v (fgS v (none, 1) 0 10) 0 10
def hdT (v : TV) : Nat := fgV v (fgS v (none, 1) 0 10) 0 10
def hd3 (v : TV) : RS := fgS v (hd2 v) (if hdT v = 0 then 1 else 0) 10
theorem hd_ok {v : TV} (h0 : tat v 0 = some 83) : (hd3 v).1 = fHead v ∧ (fHead v = none → (hd3 v).2 = 4 ∧ fgV v (none, 1) 0 10 = fig v 1 ∧ hdT v = fig v 2 ∧ fgV v (hd2 v) (if hdT v = 0 then 1 else 0) 10 = fig v 3) := by
  unfold fHead
  rw [if_pos h0]
  by_cases h1 : isFig v 1 0 10 = true
  · rw [if_pos h1]
    by_cases h2 : isFig v 2 0 10 = true
    · rw [if_pos h2]
      have eT : hdT v = fig v 2 := by unfold hdT; rw [fgS_t h1]; exact fgV_t h2
      have e2 : hd2 v = (none, 3) := by unfold hd2; rw [fgS_t h1, fgS_t h2]
      have el : (if hdT v = 0 then 1 else 0) = if tat v 2 = some 48 then 1 else 0 := by
        rw [eT]
        have z := fig_ok h2
        unfold isFig at h2
        unfold fig
        cases hh : tat v 2 with
        | none => rw [hh] at h2; cases h2
        | some c =>
          rw [hh] at h2
          simp only [Bool.and_eq_true, decide_eq_true_eq] at h2
          by_cases e : c = 48
          · rw [if_pos (by show c - 48 = 0; omega), if_pos (by rw [e])]
          · rw [if_neg (by show ¬ c - 48 = 0; omega), if_neg (fun y => e (by cases y; rfl))]
      unfold hd3
      rw [el, e2]
      by_cases h3 : isFig v 3 (if tat v 2 = some 48 then 1 else 0) 10 = true
      · rw [if_pos h3, fgS_t h3]
        exact ⟨rfl, fun _ => ⟨rfl, fgV_t h1, eT, fgV_t h3⟩⟩
      · rw [if_neg h3, fgS_f (by simpa using h3)]
        exact ⟨rfl, fun z => by cases z⟩
    · rw [if_neg h2]
      have e2 : hd2 v = (some 2, 2) := by unfold hd2; rw [fgS_t h1, fgS_f (by simpa using h2)]
      unfold hd3
      rw [e2, fgS_some]
      exact ⟨rfl, fun z => by cases z⟩
  · rw [if_neg h1]
    have e2 : hd2 v = (some 1, 1) := by unfold hd2; rw [fgS_f (by simpa using h1), fgS_some]
    unfold hd3
    rw [e2, fgS_some]
    exact ⟨rfl, fun z => by cases z⟩
/-- the places told well, from the first on -/
def WELL (v : TV) (n : Nat) : Prop := ∀ p, p < n → off v p < tn v ∧ fPlace v (off v p) p = none
theorem rest_well {v : TV} : ∀ (k p : Nat), fRest v k p (off v p) = none → WELL v p → ∃ n, n ≤ p + k ∧ WELL v n ∧ tn v ≤ off v n
  | 0, p, h, hw => by
    unfold fRest at h
    split at h
    · cases h
    · exact ⟨p, Nat.le_refl _, hw, by omega⟩
  | k + 1, p, h, hw => by
    by_cases e : off v p < tn v
    · obtain ⟨h1, h2⟩ := fRest_none h e
      obtain ⟨n, a, b, c⟩ := rest_well k (p + 1) h2 (fun q hq => by
        rcases Nat.lt_succ_iff_lt_or_eq.mp hq with z | z
        · exact hw q z
        · rw [z]; exact ⟨e, h1⟩)
      exact ⟨n, by omega, b, c⟩
    · exact ⟨p, by omega, hw, by omega⟩
theorem all_well {v : TV} (h : fAll v = none) : ∃ n, n ≤ 10 ∧ WELL v n ∧ tn v ≤ off v n := by
  obtain ⟨n, a, b, c⟩ := rest_well 10 0 (fAll_none h).1 (fun p hp => absurd hp (Nat.not_lt_zero p))
  exact ⟨n, by omega, b, c⟩
theorem well_uni {v : TV} {n m : Nat} (h1 : ∀ p, p < n → off v p < tn v) (h2 : tn v ≤ off v n) (h3 : ∀ p, p < m → off v p < tn v) (h4 : tn v ≤ off v m) : n = m := by
  rcases Nat.lt_trichotomy n m with z | z | z
  · have := h3 n z; omega
  · exact z
  · have := h1 m z; omega
theorem rest_le {v : TV} : ∀ (k p k2 : Nat), fRest v k p (off v p) = some k2 → k2 ≤ 9 + 6 * (p + k)
  | 0, p, k2, h => by
    unfold fRest at h
    split at h
    · cases h; have := off_le v p; omega
    · cases h
  | k + 1, p, k2, h => by
    unfold fRest at h
    split at h
    · split at h
      · have := rest_le k (p + 1) k2 h; omega
      · have := fPlace_le h; have := off_le v p; omega
    · cases h
theorem fAll_le {v : TV} {k : Nat} (h : fAll v = some k) : k ≤ 100 := by
  unfold fAll at h
  split at h
  · have := rest_le 10 0 k h; omega
  · have := fHead_le h; omega
/-- what the ship is then -/
theorem build_spec {v : TV} {n : Nat} (hn10 : n ≤ 10) (h2 : tn v ≤ off v n) : ∀ (d p : Nat) (u : HV), p + d = n → hn u = p → (∀ q, p ≤ q → q < n → off v q < tn v) → hn (buildF v (10 - p) p (off v p) u) = n ∧ hpu (buildF v (10 - p) p (off v p) u) = hpu u ∧ hho (buildF v (10 - p) p (off v p) u) = hho u ∧ ∀ j, hle (buildF v (10 - p) p (off v p) u) j = (if p ≤ j ∧ j < n then fig v (off v j + 1) else hle u j) ∧ hin_ (buildF v (10 - p) p (off v p) u) j = (if p ≤ j ∧ j < n then fig v (off v j + 2) else hin_ u j) ∧ hre (buildF v (10 - p) p (off v p) u) j = (if p ≤ j ∧ j < n then reT v (off v j) else hre u j) ∧ hsh (buildF v (10 - p) p (off v p) u) j = (if p ≤ j ∧ j < n then shT v (off v j) else hsh u j)
  | 0, p, u, e, hu, _ => by
    have ep : p = n := by omega
    have eb : buildF v (10 - p) p (off v p) u = u := by
      rcases Nat.lt_or_ge p 10 with z | z
      · rw [show 10 - p = (9 - p) + 1 by omega, buildF, if_neg (by rw [ep]; omega)]
      · rw [show 10 - p = 0 by omega]; rfl
    rw [eb]
    refine ⟨by rw [hu, ep], rfl, rfl, fun j => ?_⟩
    rw [if_neg (by omega), if_neg (by omega), if_neg (by omega), if_neg (by omega)]
    exact ⟨rfl, rfl, rfl, rfl⟩
  | d + 1, p, u, e, hu, hw => by
    have eb : buildF v (10 - p) p (off v p) u = buildF v (10 - (p + 1)) (p + 1) (off v (p + 1)) (bstep v u (off v p) p) := by
      rw [show 10 - p = (10 - (p + 1)) + 1 by omega, buildF, if_pos (hw p (Nat.le_refl _) (by omega))]; rfl
    rw [eb]
    obtain ⟨a, b, c, ih⟩ := build_spec hn10 h2 d (p + 1) (bstep v u (off v p) p) (by omega) rfl (fun q h3 h4 => hw q (by omega) h4)
    refine ⟨a, b, c, fun j => ?_⟩
    obtain ⟨i1, i2, i3, i4⟩ := ih j
    rw [i1, i2, i3, i4]
    show ((if p + 1 ≤ j ∧ j < n then fig v (off v j + 1) else va_up (hle u) p (fig v (off v p + 1)) j) = _) ∧ ((if p + 1 ≤ j ∧ j < n then fig v (off v j + 2) else va_up (hin_ u) p (fig v (off v p + 2)) j) = _) ∧ ((if p + 1 ≤ j ∧ j < n then reT v (off v j) else va_up (hre u) p (reT v (off v p)) j) = _) ∧ ((if p + 1 ≤ j ∧ j < n then shT v (off v j) else va_up (hsh u) p (shT v (off v p)) j) = _)
    by_cases ej : j = p
    · subst ej
      have c1 : ¬ (j + 1 ≤ j ∧ j < n) := by omega
      have c2 : j ≤ j ∧ j < n := ⟨Nat.le_refl _, by omega⟩
      refine ⟨?_, ?_, ?_, ?_⟩ <;> rw [if_neg c1, if_pos c2, va_up_self]
    · rw [va_up_ne _ _ ej, va_up_ne _ _ ej, va_up_ne _ _ ej, va_up_ne _ _ ej]
      have z : (p + 1 ≤ j ∧ j < n) ↔ (p ≤ j ∧ j < n) := by omega
      simp only [z]
      exact ⟨trivial, trivial, trivial, trivial⟩
theorem hull_spec {v : TV} {h : HV} {n : Nat} (hn10 : n ≤ 10) (h1 : ∀ p, p < n → off v p < tn v) (h2 : tn v ≤ off v n) : hn (hullOf v h) = n ∧ hpu (hullOf v h) = fig v 1 ∧ hho (hullOf v h) = 10 * fig v 2 + fig v 3 ∧ ∀ j, hle (hullOf v h) j = (if j < n then fig v (off v j + 1) else hle h j) ∧ hin_ (hullOf v h) j = (if j < n then fig v (off v j + 2) else hin_ h j) ∧ hre (hullOf v h) j = (if j < n then reT v (off v j) else hre h j) ∧ hsh (hullOf v h) j = (if j < n then shT v (off v j) else hsh h j) := by
  have z := build_spec hn10 h2 n 0 (0, fig v 1, 10 * fig v 2 + fig v 3, hle h, hin_ h, hre h, hsh h) (Nat.zero_add n) rfl (fun q _ h4 => h1 q h4)
  simp only [Nat.zero_le, true_and] at z
  exact z
theorem fill_spec {v : TV} {h : HV} : ∀ (d p : Nat) (u : LV), p + d = 10 → (∀ j, wh (fillF v h d p (off v p) u) j = (if p ≤ j ∧ j < 10 then (if inT v h (off v j) j = true then j else 200) else wh u j) ∧ ln (fillF v h d p (off v p) u) j = (if p ≤ j ∧ j < 10 then (if inT v h (off v j) j = true then hle h j else 0) else ln u j) ∧ wo (fillF v h d p (off v p) u) j = (if p ≤ j ∧ j < 10 then (if inT v h (off v j) j = true then fig v (off v j + 5) else 0) else wo u j) ∧ ti (fillF v h d p (off v p) u) j = (if p ≤ j ∧ j < 10 then (if inT v h (off v j) j = true then some j else none) else ti u j))
  | 0, p, u, e => fun j => by
    rw [if_neg (by omega), if_neg (by omega), if_neg (by omega), if_neg (by omega)]
    exact ⟨rfl, rfl, rfl, rfl⟩
  | d + 1, p, u, e => fun j => by
    have eb : fillF v h (d + 1) p (off v p) u = fillF v h d (p + 1) (off v (p + 1)) (fstep v h u (off v p) p) := rfl
    rw [eb]
    obtain ⟨i1, i2, i3, i4⟩ := fill_spec d (p + 1) (fstep v h u (off v p) p) (by omega) j
    rw [i1, i2, i3, i4]
    show ((if p + 1 ≤ j ∧ j < 10 then _ else va_up (wh u) p _ j) = _) ∧ ((if p + 1 ≤ j ∧ j < 10 then _ else va_up (ln u) p _ j) = _) ∧ ((if p + 1 ≤ j ∧ j < 10 then _ else va_up (wo u) p _ j) = _) ∧ ((if p + 1 ≤ j ∧ j < 10 then _ else va_up (ti u) p _ j) = _)
    by_cases ej : j = p
    · subst ej
      have c1 : ¬ (j + 1 ≤ j ∧ j < 10) := by omega
      have c2 : j ≤ j ∧ j < 10 := ⟨Nat.le_refl _, by omega⟩
      refine ⟨?_, ?_, ?_, ?_⟩ <;> rw [if_neg c1, if_pos c2, va_up_self]
    · rw [va_up_ne _ _ ej, va_up_ne _ _ ej, va_up_ne _ _ ej, va_up_ne _ _ ej]
      have z : (p + 1 ≤ j ∧ j < 10) ↔ (p ≤ j ∧ j < 10) := by omega
      simp only [z]
      exact ⟨trivial, trivial, trivial, trivial⟩
theorem fillOf_spec (v : TV) (h : HV) (w : LV) (j : Nat) : wh (fillOf v h w) j = (if j < 10 then (if inT v h (off v j) j = true then j else 200) else wh w j) ∧ ln (fillOf v h w) j = (if j < 10 then (if inT v h (off v j) j = true then hle h j else 0) else ln w j) ∧ wo (fillOf v h w) j = (if j < 10 then (if inT v h (off v j) j = true then fig v (off v j + 5) else 0) else wo w j) ∧ ti (fillOf v h w) j = (if j < 10 then (if inT v h (off v j) j = true then some j else none) else ti w j) := by
  have z := fill_spec (v := v) (h := h) 10 0 w rfl j
  simp only [Nat.zero_le, true_and] at z
  exact z
