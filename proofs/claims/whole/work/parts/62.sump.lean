/-! SHARE, STORM: by timbers and by places, the same; least terms -/
theorem sumTo_add (f g : Nat → Nat) : ∀ n, sumTo (fun i => f i + g i) n = sumTo f n + sumTo g n
  | 0 => rfl
  | n + 1 => by rw [sumTo, sumTo, sumTo, sumTo_add f g n]; omega
theorem sumTo_0 : ∀ n, sumTo (fun _ => 0) n = 0
  | 0 => rfl
  | n + 1 => by rw [sumTo, sumTo_0 n]
theorem sumTo_swap (g : Nat → Nat → Nat) (T : Nat) : ∀ P, sumTo (fun p => sumTo (fun t => g p t) T) P = sumTo (fun t => sumTo (fun p => g p t) P) T
  | 0 => (sumTo_0 T).symm
  | P + 1 => by
    rw [sumTo, sumTo_swap g T P, ← sumTo_add]
    exact sumTo_cong (fun i _ => rfl)
theorem sumTo_one {f : Nat → Nat} {a : Nat} : ∀ {n : Nat}, a < n → (∀ i, i ≠ a → f i = 0) → sumTo f n = f a
  | n + 1, ha, h => by
    rw [sumTo]
    by_cases e : a = n
    · subst e
      rw [sumTo_cong (g := fun _ => 0) (fun i hi => h i (by omega)), sumTo_0]; omega
    · rw [sumTo_one (show a < n by omega) h, h n (fun z => e z.symm)]; omega
def inF (w : LV) (f : Nat → Nat) (p : Nat) : Nat := match ti w p with
  | none => 0
  | some t => f t
theorem in_sum {h : HV} {w : LV} (ok : HOK h) (k : LOK h w) (f : Nat → Nat) : sumTo (inF w f) (hn h) = sumTo (fun t => if wh w t < 100 then f t else 0) (hn h) := by
  have okn := ok.1
  have e1 : ∀ p, p < hn h → inF w f p = sumTo (fun t => if wh w t = p then f t else 0) (hn h) := by
    intro p hp
    unfold inF
    cases hh : ti w p with
    | none =>
      rw [sumTo_cong (g := fun _ => 0) (fun t ht => if_neg (fun z => by rw [in_some ok k (by omega) ht z] at hh; cases hh)), sumTo_0]
    | some t0 =>
      have q := k.tn ok (by omega) hh
      have ht := k.in_ ok (by omega) hh
      show f t0 = _
      have e2 : sumTo (fun t => if wh w t = p then f t else 0) (hn h) = sumTo (fun t => if t = t0 then f t else 0) (hn h) := sumTo_cong (fun t htn => by
        by_cases e : t = t0
        · rw [if_pos e, if_pos (by rw [e]; exact q.2.1)]
        · rw [if_neg e, if_neg (fun z => by
            have z2 := in_some ok k (by omega) htn z
            rw [hh] at z2
            cases z2
            exact e rfl)])
      rw [e2, sumTo_one ht (fun i hi => if_neg hi), if_pos rfl]
  rw [sumTo_cong e1, sumTo_swap (fun p t => if wh w t = p then f t else 0) (hn h) (hn h)]
  refine sumTo_cong (fun t ht => ?_)
  have q := k.2.2.2.2.1 t (by omega)
  by_cases e : wh w t < 100
  · rw [if_pos e]
    have e3 : wh w t < hn h := by omega
    show sumTo (fun p => if wh w t = p then f t else 0) (hn h) = f t
    rw [sumTo_one (a := wh w t) e3 (fun i hi => if_neg (fun z => hi z.symm)), if_pos rfl]
  · rw [if_neg e]
    show sumTo (fun p => if wh w t = p then f t else 0) (hn h) = 0
    rw [sumTo_cong (g := fun _ => 0) (fun p hp => if_neg (by omega)), sumTo_0]
theorem al_in (w : LV) : ∀ n, alTo w n = sumTo (inF w (ln w)) n
  | 0 => rfl
  | n + 1 => by rw [alTo, sumTo, al_in w n]; rfl
theorem sh_in (h : HV) (w : LV) (s : Nat) : ∀ n, shTo h w s n = sumTo (inF w (fun t => if hsh h t = some s then ln w t else 0)) n
  | 0 => rfl
  | n + 1 => by rw [shTo, sumTo, sh_in h w s n]; rfl
def alT (w : LV) : Nat → Nat := sumTo (fun t => if wh w t < 100 then ln w t else 0)
def shTT (h : HV) (w : LV) (s : Nat) : Nat → Nat := sumTo (fun t => if wh w t < 100 then (if hsh h t = some s then ln w t else 0) else 0)
theorem al_eq {h : HV} {w : LV} (ok : HOK h) (k : LOK h w) : alT w (hn h) = alTo w (hn h) := by rw [al_in]; exact (in_sum ok k _).symm
theorem sh_eq {h : HV} {w : LV} (ok : HOK h) (k : LOK h w) (s : Nat) : shTT h w s (hn h) = shTo h w s (hn h) := by rw [sh_in]; exact (in_sum ok k _).symm
/-- Euclid's steps -/
theorem euc_gcd : ∀ (j k a b : Nat), b < 2 ^ j → 2 * j + 1 ≤ k → euc k a b = Nat.gcd a b
  | 0, k + 1, a, b, hb, _ => by
    have : b = 0 := by omega
    subst this
    rw [euc, if_pos rfl, Nat.gcd_zero_right]
  | j + 1, k + 2, a, b, hb, hk => by
    unfold euc
    by_cases e : b = 0
    · rw [if_pos e, e, Nat.gcd_zero_right]
    · rw [if_neg e]
      unfold euc
      have hg : Nat.gcd a b = Nat.gcd b (a % b) := by rw [Nat.gcd_comm a b, Nat.gcd_rec b a, Nat.gcd_comm]
      by_cases e2 : a % b = 0
      · rw [if_pos e2, hg, e2, Nat.gcd_zero_right]
      · rw [if_neg e2]
        have h1 := Nat.mod_lt a (show 0 < b by omega)
        have h2 := Nat.mod_lt b (show 0 < a % b by omega)
        have h3 : b % (a % b) < 2 ^ j := by
          rw [Nat.pow_succ] at hb
          by_cases h4 : 2 * (a % b) ≤ b
          · omega
          · have h5 : b % (a % b) = b - a % b := by
              rw [Nat.mod_eq_sub_mod (by omega), Nat.mod_eq_of_lt (by omega)]
            omega
        rw [euc_gcd j k (a % b) (b % (a % b)) h3 (by omega), hg, Nat.gcd_comm b (a % b), Nat.gcd_rec (a % b) b, Nat.gcd_comm]
def partA (a b : Nat) (u : Bool) : Nat := (if u = true then a else b) / Nat.gcd a b
theorem part_eq {a b : Nat} {u : Bool} (h1 : 1 ≤ b) (h2 : b < 2 ^ 49) : partA a b u = leastA a b u := by
  have hg : 0 < Nat.gcd a b := Nat.gcd_pos_of_pos_right a (by omega)
  unfold partA leastA
  by_cases e : a < 1 ∨ b < 1
  · rw [if_pos e]
    have : a = 0 := by omega
    subst this
    rw [Nat.gcd_zero_left]
    cases u
    · show b / b = 1
      exact Nat.div_self (by omega)
    · show 0 / b = 0
      exact Nat.zero_div b
  · rw [if_neg e, euc_gcd 49 100 a b h2 (by omega), if_neg (show ¬ Nat.gcd a b < 1 by omega)]
theorem share_0 {a b : Nat} {u : Bool} (h : b = 0) : leastA a b u = if u = true then 0 else 1 := by
  unfold leastA; rw [if_pos (by omega)]
/-- the storm's ways end at 90 -/
def clTo (h : HV) (w : LV) : Nat → Nat
  | 0 => 0
  | p + 1 => clTo h w p + (if ti w p = none then 0 else hin_ h p)
theorem cl_leak {h : HV} {w : LV} (ok : HOK h) : ∀ n, leakTo h w n + clTo h w n ≤ 9 * n
  | 0 => Nat.le_refl _
  | n + 1 => by
    have q := cl_leak (w := w) ok n
    have r := (ok.2.2.2.1 n).2
    rw [leakTo, clTo]
    by_cases e : ti w n = none
    · rw [if_pos e, if_pos e]; omega
    · rw [if_neg e, if_neg e]; omega
theorem wTo_sup {h : HV} {w : LV} {x : Nat} : ∀ p z, leakV h w + clTo h w p < z → wTo h w x p z = 0
  | 0, z, hz => if_neg (by rw [clTo] at hz; omega)
  | p + 1, z, hz => by
    rw [clTo] at hz
    unfold wTo
    by_cases e : ti w p = none
    · rw [if_pos e] at hz ⊢; exact wTo_sup p z (by omega)
    · rw [if_neg e] at hz ⊢
      unfold tearV
      rw [wTo_sup p z (by omega), Nat.zero_mul, if_pos (by omega), wTo_sup p (z - hin_ h p) (by omega), Nat.zero_mul]
theorem sumTo_cut {f : Nat → Nat} {c : Nat} (h : ∀ i, c ≤ i → f i = 0) : ∀ n, sumTo f n = sumTo f (min n c)
  | 0 => by rw [Nat.zero_min]
  | n + 1 => by
    by_cases e : n < c
    · rw [Nat.min_eq_left (by omega)]
    · rw [sumTo, sumTo_cut h n, h n (by omega), Nat.min_eq_right (by omega), Nat.min_eq_right (by omega)]; rfl
theorem w_cut {h : HV} {w : LV} (ok : HOK h) (x n : Nat) : sumTo (wTo h w x (hn h)) n = sumTo (wTo h w x (hn h)) (min n 91) := by
  refine sumTo_cut (fun i hi => wTo_sup _ _ ?_) n
  have q := cl_leak (w := w) ok (hn h)
  have := ok.1
  show leakTo h w (hn h) + _ < i
  omega
theorem aTo_pos (w : LV) : ∀ k, 1 ≤ aTo w k
  | 0 => Nat.le_refl _
  | k + 1 => by
    have q := aTo_pos w k
    unfold aTo
    split <;> omega
/-- how many places are OPEN: by bits and one by one -/
theorem pop_open (w : LV) {n : Nat} (hn : n ≤ 10) : popTo (openTo w n) 10 = sumTo (fun p => if ti w p = none then 1 else 0) n := by
  have e : ∀ k, popTo (openTo w n) k = sumTo (fun p => if p < n then (if ti w p = none then 1 else 0) else 0) k := by
    intro k
    induction k with
    | zero => rfl
    | succ k ih =>
      rw [popTo, sumTo, ih, nI_testBit_open]
      by_cases e1 : k < n
      · rw [if_pos e1, decide_eq_true e1]
        cases ti w k <;> rfl
      · rw [if_neg e1, decide_eq_false e1]; rfl
  rw [e 10]
  have e2 : ∀ d, sumTo (fun p => if p < n then (if ti w p = none then 1 else 0) else 0) (n + d) = sumTo (fun p => if ti w p = none then 1 else 0) n := by
    intro d
    induction d with
    | zero => exact sumTo_cong (fun i hi => if_pos hi)
    | succ d ih =>
      rw [← Nat.add_assoc, sumTo, ih, if_neg (by omega)]; rfl
  have := e2 (10 - n)
  rwa [show n + (10 - n) = 10 by omega] at this
theorem at_sum (w : LV) (a : Nat) : ∀ n, atTo w a n = sumTo (fun t => if wh w t = a then 1 else 0) n
  | 0 => rfl
  | n + 1 => by rw [atTo, sumTo, at_sum w a n]
