/-! THE WHOLE OBJECT: least terms, share, storm -/
def euc : Nat → Nat → Nat → Nat
  | 0, a, _ => a
  | k + 1, a, b => if b = 0 then a else euc k b (a % b)
theorem euc_lt {c : Nat} : ∀ {k a b : Nat}, a < c → b < c → euc k a b < c
  | 0, _, _, h, _ => h
  | k + 1, a, b, h, h2 => by
    unfold euc
    split
    · exact h
    · exact euc_lt h2 (Nat.lt_trans (Nat.mod_lt _ (by omega)) h2)
theorem cmp_lt {a b : Nat} (ha : a < 2 ^ 62) (hb : b < 2 ^ 62) : lg_cmp (lN a) (lN b) < 0 ↔ a < b := by
  unfold lg_cmp
  by_cases h1 : lN b < lN a
  · have := (pk_lLT (show b < 2 ^ 63 by omega) (show a < 2 ^ 63 by omega)).mp h1
    rw [if_pos h1]
    exact ⟨fun z => absurd z (by decide), fun z => by omega⟩
  · have h3 : ¬ b < a := fun z => h1 ((pk_lLT (by omega) (by omega)).mpr z)
    rw [if_neg h1]
    by_cases h2 : lN a = lN b
    · have := (pk_lEQ (show a < 2 ^ 63 by omega) (show b < 2 ^ 63 by omega)).mp h2
      rw [if_pos h2]
      exact ⟨fun z => absurd z (by decide), fun z => by omega⟩
    · have h4 : ¬ a = b := fun z => h2 (by rw [z])
      rw [if_neg h2]
      exact ⟨fun _ => by omega, fun _ => by decide⟩
theorem cmp_ge {a b : Nat} (ha : a < 2 ^ 62) (hb : b < 2 ^ 62) : 0 ≤ lg_cmp (lN a) (lN b) ↔ b ≤ a := by
  have q := cmp_lt ha hb
  constructor
  · intro z
    rcases Nat.lt_or_ge a b with y | y
    · have := q.mpr y
      rw [Int32.lt_iff_toInt_lt] at this
      rw [Int32.le_iff_toInt_le] at z
      omega
    · exact y
  · intro z
    rw [Int32.le_iff_toInt_le]
    have : ¬ lg_cmp (lN a) (lN b) < 0 := fun y => by have := q.mp y; omega
    rw [Int32.lt_iff_toInt_lt] at this
    omega
theorem cmp_eq {a b : Nat} (ha : a < 2 ^ 62) (hb : b < 2 ^ 62) : lg_cmp (lN a) (lN b) = 0 ↔ a = b := by
  unfold lg_cmp
  by_cases h1 : lN b < lN a
  · have := (pk_lLT (show b < 2 ^ 63 by omega) (show a < 2 ^ 63 by omega)).mp h1
    rw [if_pos h1]
    exact ⟨fun z => absurd z (by decide), fun z => by omega⟩
  · rw [if_neg h1]
    by_cases h2 : lN a = lN b
    · have := (pk_lEQ (show a < 2 ^ 63 by omega) (show b < 2 ^ 63 by omega)).mp h2
      rw [if_pos h2]
      exact ⟨fun _ => this, fun _ => rfl⟩
    · rw [if_neg h2]
      exact ⟨fun z => absurd z (by decide), fun z => absurd (by rw [z]) h2⟩
def leastA (a b : Nat) (u : Bool) : Nat := if a < 1 ∨ b < 1 then (if u = true then 0 else 1) else if euc 100 a b < 1 then (if u = true then a else b) else (if u = true then a else b) / euc 100 a b
set_option maxHeartbeats 4000000 in
set_option maxRecDepth 100000 in
theorem ctX8_commonDivisor (l : Launch) (g : Gx) (lo : Nat) (ad : Nat → Nat) {F : Nat → va_E} {a0 b0 : Nat} (ha0 : a0 < 2 ^ 62) (hb0 : b0 < 2 ^ 62) : ML l g lo 196 ad yX8_commonDivisor wsX8_commonDivisor 0 0 [.long (lN a0), .long (lN b0)] F (fun r F' => r = lN (euc 100 a0 b0) ∧ F' = F) := by
  refine enter (cc := cX8_commonDivisor) (maxL := 11) (ret := some .long) (own := RX8) (by decide +kernel) rfl rfl (Nat.le_of_ble_eq_true rfl) ?_
  intro pp ee ss mm below meth cc B hini hC ls hl
  have hl : lv_has ls 11 [(0, .long (lN a0)), (2, .long (lN b0))] := hl
  refine lv_lload_n B.1 B.2.1 dX8_commonDivisor_0 rfl (lv_at hl 0 rfl) ?_
  refine lv_lstore (lv' := [(4, .long (lN a0)), (0, .long (lN a0)), (2, .long (lN b0))]) B.1 B.2.1 dX8_commonDivisor_1 hl (by decide) rfl (fun ls hl => ?_)
  refine lv_lload_n B.1 B.2.1 dX8_commonDivisor_3 rfl (lv_at hl 2 rfl) ?_
  refine lv_lstore (lv' := [(6, .long (lN b0)), (4, .long (lN a0)), (0, .long (lN a0)), (2, .long (lN b0))]) B.1 B.2.1 dX8_commonDivisor_4 hl (by decide) rfl (fun ls hl => ?_)
  refine lv_iconst (v := nI 0) B.1 B.2.1 dX8_commonDivisor_6 (by decide) ?_
  refine lv_istore (lv' := [(8, .int (nI 0)), (6, .long (lN b0)), (4, .long (lN a0)), (0, .long (lN a0)), (2, .long (lN b0))]) B.1 B.2.1 dX8_commonDivisor_7 hl (by decide) rfl (fun ls hl => ?_)
  have loop9 : ∀ (k : Nat) (t a b : Nat), (t + k = 100) → (a < 2 ^ 62) → (b < 2 ^ 62) → (euc 100 a0 b0 = euc k a b) → ∀ (H : Heap) (locs : List Loc) (ls : Array Slot), Cu g lo 196 ad F ss ss.heap H locs → lv_has ls 11 [(8, .int (nI t)), (6, .long (lN b)), (4, .long (lN a))] → W pp l ee { frames := 0, cells := 0, slots := 0, locals := 0 } ss mm ([.long (lN a0), .long (lN b0)] : List Value).toArray below meth cc H locs 0 0 (MQ below (va_Ql (fun r F' => r = lN (euc 100 a0 b0) ∧ F' = F) (fun F' t => Wd g lo 196 ad F' t) (fun q => lo ≤ q)) ([.long (lN a0), .long (lN b0)] : List Value).toArray ss 0 0 (fun q => lo ≤ q)) (F0 mm 9 ls []) := by
    intro k
    induction k with
    | zero =>
      intro t a b htk ha hb he H locs ls hC hl
      refine lv_iload B.1 B.2.1 dX8_commonDivisor_9 (lv_at hl 0 rfl) ?_
      refine lv_bipush (v := nI 100) B.1 B.2.1 dX8_commonDivisor_11 (by decide) ?_
      refine lv_icmp_ge (tgt := 44) B.1 B.2.1 dX8_commonDivisor_13 (by decide) (fun _ => ?_) (fun z => absurd (nI_le (by omega) (by omega)) z)
      refine lv_lload B.1 B.2.1 dX8_commonDivisor_44 (lv_at hl 2 rfl) ?_
      exact r_eL B hC (v := lN a) (⟨by rw [he]; rfl, rfl⟩) dX8_commonDivisor_46
    | succ k ih9 =>
      intro t a b htk ha hb he H locs ls hC hl
      refine lv_iload B.1 B.2.1 dX8_commonDivisor_9 (lv_at hl 0 rfl) ?_
      refine lv_bipush (v := nI 100) B.1 B.2.1 dX8_commonDivisor_11 (by decide) ?_
      refine lv_icmp_ge (tgt := 44) B.1 B.2.1 dX8_commonDivisor_13 (by decide) (fun z => absurd z (nI_ge (by omega) (by omega))) (fun _ => ?_)
      refine lv_lload B.1 B.2.1 dX8_commonDivisor_16 (lv_at hl 1 rfl) ?_
      refine lv_lconst (v := lN 0) B.1 B.2.1 dX8_commonDivisor_18 (by decide) ?_
      refine W.lcmp B.1 B.2.1 dX8_commonDivisor_19 ?_
      refine lv_if_eq (tgt := 44) B.1 B.2.1 dX8_commonDivisor_20 (by decide) (fun c_20 => ?_) (fun c_20 => ?_)
      · have q_20 := (cmp_eq (by omega) (by decide)).mp c_20
        refine lv_lload B.1 B.2.1 dX8_commonDivisor_44 (lv_at hl 2 rfl) ?_
        exact r_eL B hC (v := lN a) (⟨by rw [he, euc, if_pos q_20], rfl⟩) dX8_commonDivisor_46
      · have q_20 : ¬ b = 0 := fun z => c_20 ((cmp_eq (by omega) (by decide)).mpr z)
        refine lv_lload B.1 B.2.1 dX8_commonDivisor_23 (lv_at hl 2 rfl) ?_
        refine lv_lload B.1 B.2.1 dX8_commonDivisor_25 (lv_at hl 1 rfl) ?_
        refine lv_lrem B.1 B.2.1 dX8_commonDivisor_27 (fun z => q_20 ((pk_lEQ (b := 0) (by omega) (by decide)).mp z)) ?_
        refine r_tL (y := lN (a % b)) (pk_lRem (by omega) (by omega) (by omega)) ?_
        refine lv_lstore (lv' := [(9, .long (lN (a % b))), (8, .int (nI t)), (6, .long (lN b)), (4, .long (lN a))]) B.1 B.2.1 dX8_commonDivisor_28 hl (by decide) rfl (fun ls hl => ?_)
        refine lv_lload B.1 B.2.1 dX8_commonDivisor_30 (lv_at hl 2 rfl) ?_
        refine lv_lstore (lv' := [(4, .long (lN b)), (9, .long (lN (a % b))), (8, .int (nI t)), (6, .long (lN b))]) B.1 B.2.1 dX8_commonDivisor_32 hl (by decide) rfl (fun ls hl => ?_)
        refine lv_lload B.1 B.2.1 dX8_commonDivisor_34 (lv_at hl 1 rfl) ?_
        refine lv_lstore (lv' := [(6, .long (lN (a % b))), (4, .long (lN b)), (9, .long (lN (a % b))), (8, .int (nI t))]) B.1 B.2.1 dX8_commonDivisor_36 hl (by decide) rfl (fun ls hl => ?_)
        refine lv_iinc (v := nI (t + 1)) (lv' := [(8, .int (nI (t + 1))), (6, .long (lN (a % b))), (4, .long (lN b)), (9, .long (lN (a % b)))]) B.1 B.2.1 dX8_commonDivisor_38 hl (k := 3) rfl (nI_1 _) (by decide) rfl (fun ls hl => ?_)
        refine lv_goto (tgt := 9) B.1 B.2.1 dX8_commonDivisor_41 (by decide) ?_
        exact ih9 (t + 1) b (a % b) (by omega) hb (Nat.lt_trans (Nat.mod_lt _ (by omega)) hb) (by rw [he, euc, if_neg q_20]) _ _ ls hC (lv_sub hl [0, 1, 2] rfl)
  exact loop9 100 0 a0 b0 rfl ha0 hb0 rfl _ _ ls hC (lv_sub hl [0, 1, 2] rfl)
set_option maxHeartbeats 4000000 in
set_option maxRecDepth 100000 in
theorem ctX8_leastTerms (l : Launch) (g : Gx) (lo : Nat) (ad : Nat → Nat) {F : Nat → va_E} {a b : Nat} {u : Bool} (ha : a < 2 ^ 62) (hb : b < 2 ^ 62) : ML l g lo 196 ad yX8_leastTerms wsX8_leastTerms 1 30 [.long (lN a), .long (lN b), .int (bI u)] F (fun r F' => r = lN (leastA a b u) ∧ F' = F) := by
  have hec := euc_lt (k := 100) ha hb
  refine enter (cc := cX8_leastTerms) (maxL := 7) (ret := some .long) (own := RX8) (by decide +kernel) rfl rfl (Nat.le_of_ble_eq_true rfl) ?_
  intro pp ee ss mm below meth cc B hini hC ls hl
  have hl : lv_has ls 7 [(0, .long (lN a)), (2, .long (lN b)), (4, .int (bI u))] := hl
  refine lv_lload_n B.1 B.2.1 dX8_leastTerms_0 rfl (lv_at hl 0 rfl) ?_
  refine lv_lconst (v := lN 1) B.1 B.2.1 dX8_leastTerms_1 (by decide) ?_
  refine W.lcmp B.1 B.2.1 dX8_leastTerms_2 ?_
  refine lv_if_lt (tgt := 12) B.1 B.2.1 dX8_leastTerms_3 (by decide) (fun c_3 => ?_) (fun c_3 => ?_)
  · have q_3 := (cmp_lt (by omega) (by decide)).mp c_3
    refine lv_iload B.1 B.2.1 dX8_leastTerms_12 (lv_at hl 2 rfl) ?_
    refine lv_if_eq (tgt := 21) B.1 B.2.1 dX8_leastTerms_14 (by decide) (fun c_14 => ?_) (fun c_14 => ?_)
    · have q_14 : u = false := bI_f.mp c_14
      refine lv_lconst (v := lN 1) B.1 B.2.1 dX8_leastTerms_21 (by decide) ?_
      exact r_eL B hC (v := lN 1) (⟨by rw [leastA, if_pos (by omega), if_neg (by rw [q_14]; decide)], rfl⟩) dX8_leastTerms_22
    · have q_14 : u = true := bI_t.mp c_14
      refine lv_lconst (v := lN 0) B.1 B.2.1 dX8_leastTerms_17 (by decide) ?_
      refine lv_goto (tgt := 22) B.1 B.2.1 dX8_leastTerms_18 (by decide) ?_
      exact r_eL B hC (v := lN 0) (⟨by rw [leastA, if_pos (by omega), if_pos q_14], rfl⟩) dX8_leastTerms_22
  · have q_3 : ¬ a < 1 := fun z => c_3 ((cmp_lt (by omega) (by decide)).mpr z)
    refine lv_lload_n B.1 B.2.1 dX8_leastTerms_6 rfl (lv_at hl 1 rfl) ?_
    refine lv_lconst (v := lN 1) B.1 B.2.1 dX8_leastTerms_7 (by decide) ?_
    refine W.lcmp B.1 B.2.1 dX8_leastTerms_8 ?_
    refine lv_if_ge (tgt := 23) B.1 B.2.1 dX8_leastTerms_9 (by decide) (fun c_9 => ?_) (fun c_9 => ?_)
    · have q_9 := (cmp_ge (by omega) (by decide)).mp c_9
      refine lv_lload_n B.1 B.2.1 dX8_leastTerms_23 rfl (lv_at hl 0 rfl) ?_
      refine lv_lload_n B.1 B.2.1 dX8_leastTerms_24 rfl (lv_at hl 1 rfl) ?_
      refine r_scalll B hC hl.1 (As := [.long (lN a), .long (lN b)]) (ctX8_commonDivisor l g lo ad (a0 := a) (b0 := b) ha hb) gX8_leastTerms_X8_commonDivisor rfl (n := 2) rfl (by decide +kernel) ⟨Nat.le_of_ble_eq_true rfl, Nat.le_of_ble_eq_true rfl⟩ ⟨Nat.zero_le _, Nat.zero_le _⟩ rfl (Nat.le_of_ble_eq_true rfl) dX8_leastTerms_25 (fun r25 F1 H locs hp25 hC => ?_)
      obtain ⟨er, eF⟩ := hp25
      subst er
      rw [eF] at hC
      refine lv_lstore (lv' := [(5, .long (lN (euc 100 a b))), (0, .long (lN a)), (2, .long (lN b)), (4, .int (bI u))]) B.1 B.2.1 dX8_leastTerms_28 hl (by decide) rfl (fun ls hl => ?_)
      refine lv_lload B.1 B.2.1 dX8_leastTerms_30 (lv_at hl 0 rfl) ?_
      refine lv_lconst (v := lN 1) B.1 B.2.1 dX8_leastTerms_32 (by decide) ?_
      refine W.lcmp B.1 B.2.1 dX8_leastTerms_33 ?_
      refine lv_if_ge (tgt := 48) B.1 B.2.1 dX8_leastTerms_34 (by decide) (fun c_34 => ?_) (fun c_34 => ?_)
      · have q_34 := (cmp_ge (by omega) (by decide)).mp c_34
        refine lv_iload B.1 B.2.1 dX8_leastTerms_48 (lv_at hl 3 rfl) ?_
        refine lv_if_eq (tgt := 57) B.1 B.2.1 dX8_leastTerms_50 (by decide) (fun c_50 => ?_) (fun c_50 => ?_)
        · have q_50 : u = false := bI_f.mp c_50
          refine lv_lload_n B.1 B.2.1 dX8_leastTerms_57 rfl (lv_at hl 2 rfl) ?_
          refine lv_lload B.1 B.2.1 dX8_leastTerms_58 (lv_at hl 0 rfl) ?_
          refine lv_ldiv B.1 B.2.1 dX8_leastTerms_60 (fun z => absurd ((pk_lEQ (b := 0) (by omega) (by decide)).mp z) (by omega)) ?_
          refine r_tL (y := lN (b / euc 100 a b)) (pk_lDiv (by omega) (by omega) (by omega)) ?_
          exact r_eL B hC (v := lN (b / euc 100 a b)) (⟨by rw [leastA, if_neg (by omega), if_neg (by omega), if_neg (by rw [q_50]; decide)], rfl⟩) dX8_leastTerms_61
        · have q_50 : u = true := bI_t.mp c_50
          refine lv_lload_n B.1 B.2.1 dX8_leastTerms_53 rfl (lv_at hl 1 rfl) ?_
          refine lv_goto (tgt := 58) B.1 B.2.1 dX8_leastTerms_54 (by decide) ?_
          refine lv_lload B.1 B.2.1 dX8_leastTerms_58 (lv_at hl 0 rfl) ?_
          refine lv_ldiv B.1 B.2.1 dX8_leastTerms_60 (fun z => absurd ((pk_lEQ (b := 0) (by omega) (by decide)).mp z) (by omega)) ?_
          refine r_tL (y := lN (a / euc 100 a b)) (pk_lDiv (by omega) (by omega) (by omega)) ?_
          exact r_eL B hC (v := lN (a / euc 100 a b)) (⟨by rw [leastA, if_neg (by omega), if_neg (by omega), if_pos q_50], rfl⟩) dX8_leastTerms_61
      · have q_34 : ¬ 1 ≤ euc 100 a b := fun z => c_34 ((cmp_ge (by omega) (by decide)).mpr z)
        refine lv_iload B.1 B.2.1 dX8_leastTerms_37 (lv_at hl 3 rfl) ?_
        refine lv_if_eq (tgt := 46) B.1 B.2.1 dX8_leastTerms_39 (by decide) (fun c_39 => ?_) (fun c_39 => ?_)
        · have q_39 : u = false := bI_f.mp c_39
          refine lv_lload_n B.1 B.2.1 dX8_leastTerms_46 rfl (lv_at hl 2 rfl) ?_
          exact r_eL B hC (v := lN b) (⟨by rw [leastA, if_neg (by omega), if_pos (by omega), if_neg (by rw [q_39]; decide)], rfl⟩) dX8_leastTerms_47
        · have q_39 : u = true := bI_t.mp c_39
          refine lv_lload_n B.1 B.2.1 dX8_leastTerms_42 rfl (lv_at hl 1 rfl) ?_
          refine lv_goto (tgt := 47) B.1 B.2.1 dX8_leastTerms_43 (by decide) ?_
          exact r_eL B hC (v := lN a) (⟨by rw [leastA, if_neg (by omega), if_pos (by omega), if_pos q_39], rfl⟩) dX8_leastTerms_47
    · have q_9 : ¬ 1 ≤ b := fun z => c_9 ((cmp_ge (by omega) (by decide)).mpr z)
      refine lv_iload B.1 B.2.1 dX8_leastTerms_12 (lv_at hl 2 rfl) ?_
      refine lv_if_eq (tgt := 21) B.1 B.2.1 dX8_leastTerms_14 (by decide) (fun c_14 => ?_) (fun c_14 => ?_)
      · have q_14 : u = false := bI_f.mp c_14
        refine lv_lconst (v := lN 1) B.1 B.2.1 dX8_leastTerms_21 (by decide) ?_
        exact r_eL B hC (v := lN 1) (⟨by rw [leastA, if_pos (by omega), if_neg (by rw [q_14]; decide)], rfl⟩) dX8_leastTerms_22
      · have q_14 : u = true := bI_t.mp c_14
        refine lv_lconst (v := lN 0) B.1 B.2.1 dX8_leastTerms_17 (by decide) ?_
        refine lv_goto (tgt := 22) B.1 B.2.1 dX8_leastTerms_18 (by decide) ?_
        exact r_eL B hC (v := lN 0) (⟨by rw [leastA, if_pos (by omega), if_pos q_14], rfl⟩) dX8_leastTerms_22
