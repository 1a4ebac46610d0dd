/-! THE WHOLE OBJECT: log, count -/
def isQ (h : HV) (q : Int32) : Bool := decide (0 ≤ q) && decide (q < nI (2 ^ hn h))
def is03 (k : Int32) : Bool := decide (k = nI 0) || (decide (k = nI 1) || (decide (k = nI 2) || decide (k = nI 3)))
def logA (x : XV) (k q : Int32) : Int32 := if is03 k = true ∧ isQ (xh x) q = true then (if su (xw x) = true then -3 else nI (logV (xh x) (xw x) (ix k) (ix q))) else -2
theorem is03_i {k : Int32} (h0 : ¬ k < 0) (h2 : ¬ nI 3 < k) : ∃ j, j ≤ 3 ∧ k = nI j := by
  obtain ⟨j, hj, rfl⟩ := nI_of h0
  exact ⟨j, Nat.not_lt.mp (fun z => h2 (nI_lt z hj)), rfl⟩
theorem is03_k {k : Int32} (h0 : ¬ k < 0) (h2 : ¬ nI 3 < k) : k = nI 0 ∨ k = nI 1 ∨ k = nI 2 ∨ k = nI 3 := by
  obtain ⟨j, hj, rfl⟩ := is03_i h0 h2
  match j, hj with
  | 0, _ => exact Or.inl rfl
  | 1, _ => exact Or.inr (Or.inl rfl)
  | 2, _ => exact Or.inr (Or.inr (Or.inl rfl))
  | 3, _ => exact Or.inr (Or.inr (Or.inr rfl))
theorem is03_t {k : Int32} (h : k = nI 0 ∨ k = nI 1 ∨ k = nI 2 ∨ k = nI 3) : is03 k = true := by rcases h with rfl | rfl | rfl | rfl <;> decide
theorem is03_n {k : Int32} (h : k < 0 ∨ nI 3 < k) : ¬ is03 k = true := by
  intro q
  simp only [is03, Bool.or_eq_true, decide_eq_true_eq] at q
  rcases q with rfl | rfl | rfl | rfl <;> rcases h with h | h <;> exact absurd h (by decide)
theorem isQ_lt {h : HV} (ok : HOK h) : 2 ^ hn h ≤ 1024 := by rw [show (1024 : Nat) = 2 ^ 10 from rfl]; exact Nat.pow_le_pow_right (by decide) ok.1
theorem shl_11 : ∀ p, p < 11 → nI 1 <<< (nI p &&& 31) = nI (2 ^ p) := by decide
/-- how many timbers are at a -/
def atTo (w : LV) (a : Nat) : Nat → Nat
  | 0 => 0
  | t + 1 => atTo w a t + (if wh w t = a then 1 else 0)
theorem atTo_le (w : LV) (a : Nat) : ∀ k, atTo w a k ≤ k
  | 0 => Nat.le_refl _
  | k + 1 => by
    have q := atTo_le w a k
    show atTo w a k + (if wh w k = a then 1 else 0) ≤ k + 1
    split <;> omega
def countA (x : XV) (q : Int32) : Int32 := if q = nI 0 then nI (tn (xt x)) else if q = nI 1 then nI (hn (xh x)) else if q = nI 2 then nI (popTo (openTo (xw x) (hn (xh x))) 10) else if q = nI 3 then nI (atTo (xw x) 100 (hn (xh x))) else if q = nI 4 then nI (atTo (xw x) 200 (hn (xh x))) else if q = nI 5 then nI (wa (xw x)) else if q = nI 6 then bI (su (xw x)) else if q = nI 7 then nI (hpu (xh x)) else if q = nI 8 then nI (hho (xh x)) else if q = nI 9 then nI (asz (xa x)) else -2
theorem sw_out10 {x : Int32} (h : x.toInt < 0 ∨ 9 < x.toInt) : ∀ j : Nat, j < 10 → ¬ x = nI j := fun j hj q => by rw [q, nI_toInt (by omega)] at h; omega
theorem iwX8_log_X8 : ∀ w ∈ u_ws RX8 TX8 8, w ∈ wsX8_log := by decide +kernel
theorem flX8_log_19 : Cond.fieldLink RX8 19 RX8 (TX8 1).2.1 (TX8 1).2.2.1 ∈ wsX8_log := by decide +kernel
theorem flX8_log_26 : Cond.fieldLink RX8 26 RX8 (TX8 2).2.1 (TX8 2).2.2.1 ∈ wsX8_log := by decide +kernel
theorem flX8_log_59 : Cond.fieldLink RX8 59 RX8 (TX8 7).2.1 (TX8 7).2.2.1 ∈ wsX8_log := by decide +kernel
set_option maxHeartbeats 4000000 in
set_option maxRecDepth 100000 in
theorem ctX8_log (l : Launch) (g : Gx) (lo : Nat) (ad : Nat → Nat) {F : Nat → va_E} {x : XV} (hX : XC g ad F x) (okx : XOK x) {k q : Int32} : MI l g lo 196 ad yX8_log wsX8_log 6 141 [.ref (ad (0)), .int (k), .int (q)] F (fun r F' => r = logA x k q ∧ XC g ad F' x ∧ Same 0 175 F F') := by
  obtain ⟨hP, hT, hH, hL, hA, hS, ⟨wt, hW, hct⟩, ⟨c, hCh⟩, ⟨fm, fo, hQ⟩, rv0, hR, okR⟩ := id hX
  obtain ⟨okT, okH, okL, okA, okS, okAu, okSu⟩ := id okx
  have okn := okH.1
  have okt := okT.1
  refine enter (cc := cX8_log) (maxL := 3) (ret := some .int) (own := RX8) (by decide +kernel) rfl rfl (Nat.le_of_ble_eq_true rfl) ?_
  intro pp ee ss mm below meth cc B hini hC ls hl
  have hl : lv_has ls 3 [(0, .ref (ad (0))), (1, .int (k)), (2, .int (q))] := hl
  refine lv_iload_n B.1 B.2.1 dX8_log_0 rfl (lv_at hl 1 rfl) ?_
  refine lv_if_lt (tgt := 26) B.1 B.2.1 dX8_log_1 (by decide) (fun c_1 => ?_) (fun c_1 => ?_)
  · have q1 : ¬ (is03 k = true ∧ isQ (xh x) q = true) := fun z => is03_n (Or.inl c_1) z.1
    refine lv_bipush (v := (-2)) B.1 B.2.1 dX8_log_26 (by decide) ?_
    exact r_eI B hC (v := (-2)) (⟨by rw [logA, if_neg q1], hX, Same.rf⟩) dX8_log_28
  · refine lv_iload_n B.1 B.2.1 dX8_log_4 rfl (lv_at hl 1 rfl) ?_
    refine lv_iconst (v := nI 3) B.1 B.2.1 dX8_log_5 (by decide) ?_
    refine lv_icmp_gt (tgt := 26) B.1 B.2.1 dX8_log_6 (by decide) (fun c_6 => ?_) (fun c_6 => ?_)
    · have q1 : ¬ (is03 k = true ∧ isQ (xh x) q = true) := fun z => is03_n (Or.inr c_6) z.1
      refine lv_bipush (v := (-2)) B.1 B.2.1 dX8_log_26 (by decide) ?_
      exact r_eI B hC (v := (-2)) (⟨by rw [logA, if_neg q1], hX, Same.rf⟩) dX8_log_28
    · have hk3 := is03_k c_1 c_6
      refine lv_iload_n B.1 B.2.1 dX8_log_9 rfl (lv_at hl 2 rfl) ?_
      refine lv_if_lt (tgt := 26) B.1 B.2.1 dX8_log_10 (by decide) (fun c_10 => ?_) (fun c_10 => ?_)
      · have q1 : ¬ (is03 k = true ∧ isQ (xh x) q = true) := fun z => by have z2 := z.2; simp only [isQ, Bool.and_eq_true, decide_eq_true_eq] at z2; have z3 := Int32.le_iff_toInt_le.mp z2.1; rw [Int32.lt_iff_toInt_lt] at c_10; omega
        refine lv_bipush (v := (-2)) B.1 B.2.1 dX8_log_26 (by decide) ?_
        exact r_eI B hC (v := (-2)) (⟨by rw [logA, if_neg q1], hX, Same.rf⟩) dX8_log_28
      · have hq0 : 0 ≤ q := by rw [Int32.le_iff_toInt_le]; rw [Int32.lt_iff_toInt_lt] at c_10; omega
        refine lv_iload_n B.1 B.2.1 dX8_log_13 rfl (lv_at hl 2 rfl) ?_
        refine lv_iconst (v := nI 1) B.1 B.2.1 dX8_log_14 (by decide) ?_
        refine lv_aload_n B.1 B.2.1 dX8_log_15 rfl (lv_at hl 0 rfl) ?_
        refine r_cg B hC (i := 0) (by decide) hP (C := RX8) (T := TX8) (n := 8) rfl iwX8_log_X8 1 (by decide) (index := 19) flX8_log_19 rfl (v := .ref (ad (3))) rfl dX8_log_16 ?_
        refine r_calli B hC hl.1 (3) 2 rfl rfl (by decide) (hH.1) (As := []) (ctX2_places l g lo ad hH okH) gX8_log_X2_places rfl (n := 0) rfl (by decide +kernel) ⟨Nat.le_of_ble_eq_true rfl, Nat.le_of_ble_eq_true rfl⟩ ⟨Nat.zero_le _, Nat.zero_le _⟩ rfl (Nat.le_of_ble_eq_true rfl) dX8_log_19 (fun r19 F1 H locs hp19 hC => ?_)
        obtain ⟨er, eF⟩ := hp19
        subst er
        rw [eF] at hC
        refine lv_ishl B.1 B.2.1 dX8_log_22 ?_
        refine r_tI (y := nI (2 ^ hn (xh x))) (shl_11 _ (by omega)) ?_
        refine lv_icmp_lt (tgt := 29) B.1 B.2.1 dX8_log_23 (by decide) (fun c_23 => ?_) (fun c_23 => ?_)
        · have hqq : isQ (xh x) q = true := by simp only [isQ, Bool.and_eq_true, decide_eq_true_eq]; exact ⟨hq0, c_23⟩
          obtain ⟨j, hj31, ej⟩ := nI_of c_10
          have hj : j < 2 ^ hn (xh x) := (nI_ltI hj31 (Nat.lt_of_le_of_lt (isQ_lt okH) (by decide))).mp (ej ▸ c_23)
          have h1024 := isQ_lt okH
          refine lv_aload_n B.1 B.2.1 dX8_log_29 rfl (lv_at hl 0 rfl) ?_
          refine r_cg B hC (i := 0) (by decide) hP (C := RX8) (T := TX8) (n := 8) rfl iwX8_log_X8 2 (by decide) (index := 26) flX8_log_26 rfl (v := .ref (ad (8))) rfl dX8_log_30 ?_
          refine r_calli B hC hl.1 (8) 3 rfl rfl (by decide) (hL.1) (As := []) (ctX3_isSunk l g lo ad (b := 8) (by decide) hL) gX8_log_X3_isSunk rfl (n := 0) rfl (by decide +kernel) ⟨Nat.le_of_ble_eq_true rfl, Nat.le_of_ble_eq_true rfl⟩ ⟨Nat.zero_le _, Nat.zero_le _⟩ rfl (Nat.le_of_ble_eq_true rfl) dX8_log_33 (fun r33 F1 H locs hp33 hC => ?_)
          obtain ⟨er, eF⟩ := hp33
          subst er
          rw [eF] at hC
          refine lv_if_eq (tgt := 42) B.1 B.2.1 dX8_log_36 (by decide) (fun c_36 => ?_) (fun c_36 => ?_)
          · have q_36 : (su (xw x)) = false := bI_f.mp c_36
            rcases id hk3 with ek | ek | ek | ek
            · refine lv_aload_n B.1 B.2.1 dX8_log_42 rfl (lv_at hl 0 rfl) ?_
              refine r_cg B hC (i := 0) (by decide) hP (C := RX8) (T := TX8) (n := 8) rfl iwX8_log_X8 7 (by decide) (index := 59) flX8_log_59 rfl (v := .ref (ad (155))) rfl dX8_log_43 ?_
              refine lv_iload_n B.1 B.2.1 dX8_log_46 rfl (lv_at hl 2 rfl) ?_
              refine r_tI (y := nI j) (ej) ?_
              refine lv_aload_n B.1 B.2.1 dX8_log_47 rfl (lv_at hl 0 rfl) ?_
              refine r_cg B hC (i := 0) (by decide) hP (C := RX8) (T := TX8) (n := 8) rfl iwX8_log_X8 2 (by decide) (index := 26) flX8_log_26 rfl (v := .ref (ad (8))) rfl dX8_log_48 ?_
              refine lv_iload_n B.1 B.2.1 dX8_log_51 rfl (lv_at hl 1 rfl) ?_
              refine r_tI (y := nI 0) (ek) ?_
              refine r_calli B hC hl.1 (155) 5 rfl rfl (by decide) (hQ.1) (As := [.int (nI j), .ref (ad (8)), .int (nI 0)]) (ctX5_rowsTo0 l g lo ad hH okH hL okL hR okR hQ (q := j) (by omega)) gX8_log_X5_rowsTo rfl (n := 3) rfl (by decide +kernel) ⟨Nat.le_of_ble_eq_true rfl, Nat.le_of_ble_eq_true rfl⟩ ⟨Nat.zero_le _, Nat.zero_le _⟩ rfl (Nat.le_of_ble_eq_true rfl) dX8_log_52 (fun r52 F1 H locs hp52 hC => ?_)
              obtain ⟨v2, er, hR_F1, ok2, hs_F1⟩ := hp52
              subst er
              exact r_eI B hC (v := nI (logV (xh x) (xw x) 0 j)) (⟨by rw [logA, if_pos ⟨is03_t hk3, hqq⟩, if_neg (by rw [q_36]; decide), ek, ej, ix_n (by decide), ix_n hj31], ⟨(TopC.at hP (fun i h1 h2 => by rw [hs_F1 i (by omega)])), (TextC.at hT (fun i h1 h2 => by rw [hs_F1 i (by omega)])), (HullC.at hH (fun i h1 h2 => by rw [hs_F1 i (by omega)])), (LoadC.at hL (fun i h1 h2 => by rw [hs_F1 i (by omega)])), (ActC.keep hA (fun i h1 h2 => by rw [hs_F1 i (by omega)])), (SlotC.keep hS (fun i h1 h2 => by rw [hs_F1 i (by omega)])), ⟨_, (LoadC.at hW (fun i h1 h2 => by rw [hs_F1 i (by omega)])), hct⟩, ⟨_, (ChC.at hCh (fun i h1 h2 => by rw [hs_F1 i (by omega)]))⟩, ⟨_, _, (SeaC.at hQ (fun i h1 h2 => by rw [hs_F1 i (by omega)]))⟩, _, hR_F1, ok2⟩, (fun i hi => by rw [hs_F1 i (by omega)])⟩) dX8_log_55
            · refine lv_aload_n B.1 B.2.1 dX8_log_42 rfl (lv_at hl 0 rfl) ?_
              refine r_cg B hC (i := 0) (by decide) hP (C := RX8) (T := TX8) (n := 8) rfl iwX8_log_X8 7 (by decide) (index := 59) flX8_log_59 rfl (v := .ref (ad (155))) rfl dX8_log_43 ?_
              refine lv_iload_n B.1 B.2.1 dX8_log_46 rfl (lv_at hl 2 rfl) ?_
              refine r_tI (y := nI j) (ej) ?_
              refine lv_aload_n B.1 B.2.1 dX8_log_47 rfl (lv_at hl 0 rfl) ?_
              refine r_cg B hC (i := 0) (by decide) hP (C := RX8) (T := TX8) (n := 8) rfl iwX8_log_X8 2 (by decide) (index := 26) flX8_log_26 rfl (v := .ref (ad (8))) rfl dX8_log_48 ?_
              refine lv_iload_n B.1 B.2.1 dX8_log_51 rfl (lv_at hl 1 rfl) ?_
              refine r_tI (y := nI 1) (ek) ?_
              refine r_calli B hC hl.1 (155) 5 rfl rfl (by decide) (hQ.1) (As := [.int (nI j), .ref (ad (8)), .int (nI 1)]) (ctX5_rowsTo1 l g lo ad hH okH hL okL hR okR hQ (q := j) (by omega)) gX8_log_X5_rowsTo rfl (n := 3) rfl (by decide +kernel) ⟨Nat.le_of_ble_eq_true rfl, Nat.le_of_ble_eq_true rfl⟩ ⟨Nat.zero_le _, Nat.zero_le _⟩ rfl (Nat.le_of_ble_eq_true rfl) dX8_log_52 (fun r52 F1 H locs hp52 hC => ?_)
              obtain ⟨v2, er, hR_F1, ok2, hs_F1⟩ := hp52
              subst er
              exact r_eI B hC (v := nI (logV (xh x) (xw x) 1 j)) (⟨by rw [logA, if_pos ⟨is03_t hk3, hqq⟩, if_neg (by rw [q_36]; decide), ek, ej, ix_n (by decide), ix_n hj31], ⟨(TopC.at hP (fun i h1 h2 => by rw [hs_F1 i (by omega)])), (TextC.at hT (fun i h1 h2 => by rw [hs_F1 i (by omega)])), (HullC.at hH (fun i h1 h2 => by rw [hs_F1 i (by omega)])), (LoadC.at hL (fun i h1 h2 => by rw [hs_F1 i (by omega)])), (ActC.keep hA (fun i h1 h2 => by rw [hs_F1 i (by omega)])), (SlotC.keep hS (fun i h1 h2 => by rw [hs_F1 i (by omega)])), ⟨_, (LoadC.at hW (fun i h1 h2 => by rw [hs_F1 i (by omega)])), hct⟩, ⟨_, (ChC.at hCh (fun i h1 h2 => by rw [hs_F1 i (by omega)]))⟩, ⟨_, _, (SeaC.at hQ (fun i h1 h2 => by rw [hs_F1 i (by omega)]))⟩, _, hR_F1, ok2⟩, (fun i hi => by rw [hs_F1 i (by omega)])⟩) dX8_log_55
            · refine lv_aload_n B.1 B.2.1 dX8_log_42 rfl (lv_at hl 0 rfl) ?_
              refine r_cg B hC (i := 0) (by decide) hP (C := RX8) (T := TX8) (n := 8) rfl iwX8_log_X8 7 (by decide) (index := 59) flX8_log_59 rfl (v := .ref (ad (155))) rfl dX8_log_43 ?_
              refine lv_iload_n B.1 B.2.1 dX8_log_46 rfl (lv_at hl 2 rfl) ?_
              refine r_tI (y := nI j) (ej) ?_
              refine lv_aload_n B.1 B.2.1 dX8_log_47 rfl (lv_at hl 0 rfl) ?_
              refine r_cg B hC (i := 0) (by decide) hP (C := RX8) (T := TX8) (n := 8) rfl iwX8_log_X8 2 (by decide) (index := 26) flX8_log_26 rfl (v := .ref (ad (8))) rfl dX8_log_48 ?_
              refine lv_iload_n B.1 B.2.1 dX8_log_51 rfl (lv_at hl 1 rfl) ?_
              refine r_tI (y := nI 2) (ek) ?_
              refine r_calli B hC hl.1 (155) 5 rfl rfl (by decide) (hQ.1) (As := [.int (nI j), .ref (ad (8)), .int (nI 2)]) (ctX5_rowsTo2 l g lo ad hH okH hL okL hR okR hQ (q := j) (by omega)) gX8_log_X5_rowsTo rfl (n := 3) rfl (by decide +kernel) ⟨Nat.le_of_ble_eq_true rfl, Nat.le_of_ble_eq_true rfl⟩ ⟨Nat.zero_le _, Nat.zero_le _⟩ rfl (Nat.le_of_ble_eq_true rfl) dX8_log_52 (fun r52 F1 H locs hp52 hC => ?_)
              obtain ⟨v2, er, hR_F1, ok2, hs_F1⟩ := hp52
              subst er
              exact r_eI B hC (v := nI (logV (xh x) (xw x) 2 j)) (⟨by rw [logA, if_pos ⟨is03_t hk3, hqq⟩, if_neg (by rw [q_36]; decide), ek, ej, ix_n (by decide), ix_n hj31], ⟨(TopC.at hP (fun i h1 h2 => by rw [hs_F1 i (by omega)])), (TextC.at hT (fun i h1 h2 => by rw [hs_F1 i (by omega)])), (HullC.at hH (fun i h1 h2 => by rw [hs_F1 i (by omega)])), (LoadC.at hL (fun i h1 h2 => by rw [hs_F1 i (by omega)])), (ActC.keep hA (fun i h1 h2 => by rw [hs_F1 i (by omega)])), (SlotC.keep hS (fun i h1 h2 => by rw [hs_F1 i (by omega)])), ⟨_, (LoadC.at hW (fun i h1 h2 => by rw [hs_F1 i (by omega)])), hct⟩, ⟨_, (ChC.at hCh (fun i h1 h2 => by rw [hs_F1 i (by omega)]))⟩, ⟨_, _, (SeaC.at hQ (fun i h1 h2 => by rw [hs_F1 i (by omega)]))⟩, _, hR_F1, ok2⟩, (fun i hi => by rw [hs_F1 i (by omega)])⟩) dX8_log_55
            · refine lv_aload_n B.1 B.2.1 dX8_log_42 rfl (lv_at hl 0 rfl) ?_
              refine r_cg B hC (i := 0) (by decide) hP (C := RX8) (T := TX8) (n := 8) rfl iwX8_log_X8 7 (by decide) (index := 59) flX8_log_59 rfl (v := .ref (ad (155))) rfl dX8_log_43 ?_
              refine lv_iload_n B.1 B.2.1 dX8_log_46 rfl (lv_at hl 2 rfl) ?_
              refine r_tI (y := nI j) (ej) ?_
              refine lv_aload_n B.1 B.2.1 dX8_log_47 rfl (lv_at hl 0 rfl) ?_
              refine r_cg B hC (i := 0) (by decide) hP (C := RX8) (T := TX8) (n := 8) rfl iwX8_log_X8 2 (by decide) (index := 26) flX8_log_26 rfl (v := .ref (ad (8))) rfl dX8_log_48 ?_
              refine lv_iload_n B.1 B.2.1 dX8_log_51 rfl (lv_at hl 1 rfl) ?_
              refine r_tI (y := nI 3) (ek) ?_
              refine r_calli B hC hl.1 (155) 5 rfl rfl (by decide) (hQ.1) (As := [.int (nI j), .ref (ad (8)), .int (nI 3)]) (ctX5_rowsTo3 l g lo ad hH okH hL okL hR okR hQ (q := j) (by omega)) gX8_log_X5_rowsTo rfl (n := 3) rfl (by decide +kernel) ⟨Nat.le_of_ble_eq_true rfl, Nat.le_of_ble_eq_true rfl⟩ ⟨Nat.zero_le _, Nat.zero_le _⟩ rfl (Nat.le_of_ble_eq_true rfl) dX8_log_52 (fun r52 F1 H locs hp52 hC => ?_)
              obtain ⟨v2, er, hR_F1, ok2, hs_F1⟩ := hp52
              subst er
              exact r_eI B hC (v := nI (logV (xh x) (xw x) 3 j)) (⟨by rw [logA, if_pos ⟨is03_t hk3, hqq⟩, if_neg (by rw [q_36]; decide), ek, ej, ix_n (by decide), ix_n hj31], ⟨(TopC.at hP (fun i h1 h2 => by rw [hs_F1 i (by omega)])), (TextC.at hT (fun i h1 h2 => by rw [hs_F1 i (by omega)])), (HullC.at hH (fun i h1 h2 => by rw [hs_F1 i (by omega)])), (LoadC.at hL (fun i h1 h2 => by rw [hs_F1 i (by omega)])), (ActC.keep hA (fun i h1 h2 => by rw [hs_F1 i (by omega)])), (SlotC.keep hS (fun i h1 h2 => by rw [hs_F1 i (by omega)])), ⟨_, (LoadC.at hW (fun i h1 h2 => by rw [hs_F1 i (by omega)])), hct⟩, ⟨_, (ChC.at hCh (fun i h1 h2 => by rw [hs_F1 i (by omega)]))⟩, ⟨_, _, (SeaC.at hQ (fun i h1 h2 => by rw [hs_F1 i (by omega)]))⟩, _, hR_F1, ok2⟩, (fun i hi => by rw [hs_F1 i (by omega)])⟩) dX8_log_55
          · have q_36 : (su (xw x)) = true := bI_t.mp c_36
            refine lv_bipush (v := (-3)) B.1 B.2.1 dX8_log_39 (by decide) ?_
            exact r_eI B hC (v := (-3)) (⟨by rw [logA, if_pos ⟨is03_t hk3, hqq⟩, if_pos q_36], hX, Same.rf⟩) dX8_log_41
        · have q1 : ¬ (is03 k = true ∧ isQ (xh x) q = true) := fun z => by have z2 := z.2; simp only [isQ, Bool.and_eq_true, decide_eq_true_eq] at z2; exact c_23 z2.2
          refine lv_bipush (v := (-2)) B.1 B.2.1 dX8_log_26 (by decide) ?_
          exact r_eI B hC (v := (-2)) (⟨by rw [logA, if_neg q1], hX, Same.rf⟩) dX8_log_28
theorem iwX8_timbersThatAre_X8 : ∀ w ∈ u_ws RX8 TX8 8, w ∈ wsX8_timbersThatAre := by decide +kernel
theorem flX8_timbersThatAre_19 : Cond.fieldLink RX8 19 RX8 (TX8 1).2.1 (TX8 1).2.2.1 ∈ wsX8_timbersThatAre := by decide +kernel
theorem flX8_timbersThatAre_26 : Cond.fieldLink RX8 26 RX8 (TX8 2).2.1 (TX8 2).2.2.1 ∈ wsX8_timbersThatAre := by decide +kernel
set_option maxHeartbeats 4000000 in
set_option maxRecDepth 100000 in
theorem ctX8_timbersThatAre (l : Launch) (g : Gx) (lo : Nat) (ad : Nat → Nat) {F : Nat → va_E} {x : XV} (hX : XC g ad F x) (okx : XOK x) {a : Nat} (ha : a ≤ 200) : MI l g lo 196 ad yX8_timbersThatAre wsX8_timbersThatAre 1 21 [.ref (ad (0)), .int (nI a)] F (fun r F' => r = nI (atTo (xw x) a (hn (xh x))) ∧ F' = F) := by
  obtain ⟨hP, hT, hH, hL, hA, hS, ⟨wt, hW, hct⟩, ⟨c, hCh⟩, ⟨fm, fo, hQ⟩, rv0, hR, okR⟩ := id hX
  obtain ⟨okT, okH, okL, okA, okS, okAu, okSu⟩ := id okx
  have okn := okH.1
  have okt := okT.1
  refine enter (cc := cX8_timbersThatAre) (maxL := 4) (ret := some .int) (own := RX8) (by decide +kernel) rfl rfl (Nat.le_of_ble_eq_true rfl) ?_
  intro pp ee ss mm below meth cc B hini hC ls hl
  have hl : lv_has ls 4 [(0, .ref (ad (0))), (1, .int (nI a))] := hl
  refine lv_iconst (v := nI 0) B.1 B.2.1 dX8_timbersThatAre_0 (by decide) ?_
  refine lv_istore_n (lv' := [(2, .int (nI 0)), (0, .ref (ad (0))), (1, .int (nI a))]) B.1 B.2.1 dX8_timbersThatAre_1 rfl hl (by decide) rfl (fun ls hl => ?_)
  refine lv_iconst (v := nI 0) B.1 B.2.1 dX8_timbersThatAre_2 (by decide) ?_
  refine lv_istore_n (lv' := [(3, .int (nI 0)), (2, .int (nI 0)), (0, .ref (ad (0))), (1, .int (nI a))]) B.1 B.2.1 dX8_timbersThatAre_3 rfl hl (by decide) rfl (fun ls hl => ?_)
  have loop4 : ∀ (k : Nat) (t c0 : Nat), (t + k = hn (xh x)) → (c0 = atTo (xw x) a t) → ∀ (H : Heap) (locs : List Loc) (ls : Array Slot), Cu g lo 196 ad F ss ss.heap H locs → lv_has ls 4 [(3, .int (nI t)), (2, .int (nI c0)), (0, .ref (ad (0))), (1, .int (nI a))] → W pp l ee { frames := 1, cells := 0, slots := 0, locals := 21 } ss mm ([.ref (ad (0)), .int (nI a)] : List Value).toArray below meth cc H locs 0 0 (MQ below (va_Qi (fun r F' => r = nI (atTo (xw x) a (hn (xh x))) ∧ F' = F) (fun F' t => Wd g lo 196 ad F' t) (fun q => lo ≤ q)) ([.ref (ad (0)), .int (nI a)] : List Value).toArray ss 0 0 (fun q => lo ≤ q)) (F0 mm 4 ls []) := by
    intro k
    induction k with
    | zero =>
      intro t c0 htk hc0 H locs ls hC hl
      refine lv_iload_n B.1 B.2.1 dX8_timbersThatAre_4 rfl (lv_at hl 0 rfl) ?_
      refine lv_aload_n B.1 B.2.1 dX8_timbersThatAre_5 rfl (lv_at hl 2 rfl) ?_
      refine r_cg B hC (i := 0) (by decide) hP (C := RX8) (T := TX8) (n := 8) rfl iwX8_timbersThatAre_X8 1 (by decide) (index := 19) flX8_timbersThatAre_19 rfl (v := .ref (ad (3))) rfl dX8_timbersThatAre_6 ?_
      refine r_calli B hC hl.1 (3) 2 rfl rfl (by decide) (hH.1) (As := []) (ctX2_places l g lo ad hH okH) gX8_timbersThatAre_X2_places rfl (n := 0) rfl (by decide +kernel) ⟨Nat.le_of_ble_eq_true rfl, Nat.le_of_ble_eq_true rfl⟩ ⟨Nat.zero_le _, Nat.zero_le _⟩ rfl (Nat.le_of_ble_eq_true rfl) dX8_timbersThatAre_9 (fun r9 F1 H locs hp9 hC => ?_)
      obtain ⟨er, eF⟩ := hp9
      subst er
      rw [eF] at hC
      refine lv_icmp_ge (tgt := 36) B.1 B.2.1 dX8_timbersThatAre_12 (by decide) (fun _ => ?_) (fun z => absurd (nI_le (by omega) (by omega)) z)
      refine lv_iload_n B.1 B.2.1 dX8_timbersThatAre_36 rfl (lv_at hl 1 rfl) ?_
      exact r_eI B hC (v := nI c0) (⟨by rw [hc0, show t = hn (xh x) by omega], rfl⟩) dX8_timbersThatAre_37
    | succ k ih4 =>
      intro t c0 htk hc0 H locs ls hC hl
      refine lv_iload_n B.1 B.2.1 dX8_timbersThatAre_4 rfl (lv_at hl 0 rfl) ?_
      refine lv_aload_n B.1 B.2.1 dX8_timbersThatAre_5 rfl (lv_at hl 2 rfl) ?_
      refine r_cg B hC (i := 0) (by decide) hP (C := RX8) (T := TX8) (n := 8) rfl iwX8_timbersThatAre_X8 1 (by decide) (index := 19) flX8_timbersThatAre_19 rfl (v := .ref (ad (3))) rfl dX8_timbersThatAre_6 ?_
      refine r_calli B hC hl.1 (3) 2 rfl rfl (by decide) (hH.1) (As := []) (ctX2_places l g lo ad hH okH) gX8_timbersThatAre_X2_places rfl (n := 0) rfl (by decide +kernel) ⟨Nat.le_of_ble_eq_true rfl, Nat.le_of_ble_eq_true rfl⟩ ⟨Nat.zero_le _, Nat.zero_le _⟩ rfl (Nat.le_of_ble_eq_true rfl) dX8_timbersThatAre_9 (fun r9 F1 H locs hp9 hC => ?_)
      obtain ⟨er, eF⟩ := hp9
      subst er
      rw [eF] at hC
      refine lv_icmp_ge (tgt := 36) B.1 B.2.1 dX8_timbersThatAre_12 (by decide) (fun z => absurd z (nI_ge (by omega) (by omega))) (fun _ => ?_)
      refine lv_aload_n B.1 B.2.1 dX8_timbersThatAre_15 rfl (lv_at hl 2 rfl) ?_
      refine r_cg B hC (i := 0) (by decide) hP (C := RX8) (T := TX8) (n := 8) rfl iwX8_timbersThatAre_X8 2 (by decide) (index := 26) flX8_timbersThatAre_26 rfl (v := .ref (ad (8))) rfl dX8_timbersThatAre_16 ?_
      refine lv_iload_n B.1 B.2.1 dX8_timbersThatAre_19 rfl (lv_at hl 0 rfl) ?_
      refine r_calli B hC hl.1 (8) 3 rfl rfl (by decide) (hL.1) (As := [.int (nI t)]) (ctX3_whereIs l g lo ad (b := 8) (by decide) hL (t := t) (by omega)) gX8_timbersThatAre_X3_whereIs rfl (n := 1) rfl (by decide +kernel) ⟨Nat.le_of_ble_eq_true rfl, Nat.le_of_ble_eq_true rfl⟩ ⟨Nat.zero_le _, Nat.zero_le _⟩ rfl (Nat.le_of_ble_eq_true rfl) dX8_timbersThatAre_20 (fun r20 F1 H locs hp20 hC => ?_)
      obtain ⟨er, eF⟩ := hp20
      subst er
      rw [eF] at hC
      refine lv_iload_n B.1 B.2.1 dX8_timbersThatAre_23 rfl (lv_at hl 3 rfl) ?_
      refine lv_icmp_ne (tgt := 30) B.1 B.2.1 dX8_timbersThatAre_24 (by decide) (fun c_24 => ?_) (fun c_24 => ?_)
      · have q_24 : ¬ wh (xw x) t = a := fun z => c_24 (by rw [z])
        refine lv_iinc (v := nI (t + 1)) (lv' := [(3, .int (nI (t + 1))), (2, .int (nI c0)), (0, .ref (ad (0))), (1, .int (nI a))]) B.1 B.2.1 dX8_timbersThatAre_30 hl (k := 0) rfl (nI_1 _) (by decide) rfl (fun ls hl => ?_)
        refine lv_goto (tgt := 4) B.1 B.2.1 dX8_timbersThatAre_33 (by decide) ?_
        exact ih4 (t + 1) (c0) (by omega) (by rw [atTo, if_neg q_24, Nat.add_zero, hc0]) _ _ ls hC (lv_sub hl [0, 1, 2, 3] rfl)
      · have q_24 : wh (xw x) t = a := (nI_eq (by have := (okL.1 t).1; omega) (by omega)).mp c_24
        refine lv_iinc (v := nI (c0 + 1)) (lv' := [(2, .int (nI (c0 + 1))), (3, .int (nI t)), (0, .ref (ad (0))), (1, .int (nI a))]) B.1 B.2.1 dX8_timbersThatAre_27 hl (k := 1) rfl (nI_1 _) (by decide) rfl (fun ls hl => ?_)
        refine lv_iinc (v := nI (t + 1)) (lv' := [(3, .int (nI (t + 1))), (2, .int (nI (c0 + 1))), (0, .ref (ad (0))), (1, .int (nI a))]) B.1 B.2.1 dX8_timbersThatAre_30 hl (k := 1) rfl (nI_1 _) (by decide) rfl (fun ls hl => ?_)
        refine lv_goto (tgt := 4) B.1 B.2.1 dX8_timbersThatAre_33 (by decide) ?_
        exact ih4 (t + 1) ((c0 + 1)) (by omega) (by rw [atTo, if_pos q_24, hc0]) _ _ ls hC (lv_sub hl [0, 1, 2, 3] rfl)
  exact loop4 (hn (xh x)) 0 0 (by omega) rfl _ _ ls hC (lv_sub hl [0, 1, 2, 3] rfl)
theorem iwX8_count_X8 : ∀ w ∈ u_ws RX8 TX8 8, w ∈ wsX8_count := by decide +kernel
theorem flX8_count_10 : Cond.fieldLink RX8 10 RX8 (TX8 0).2.1 (TX8 0).2.2.1 ∈ wsX8_count := by decide +kernel
theorem flX8_count_19 : Cond.fieldLink RX8 19 RX8 (TX8 1).2.1 (TX8 1).2.2.1 ∈ wsX8_count := by decide +kernel
theorem flX8_count_26 : Cond.fieldLink RX8 26 RX8 (TX8 2).2.1 (TX8 2).2.2.1 ∈ wsX8_count := by decide +kernel
theorem flX8_count_36 : Cond.fieldLink RX8 36 RX8 (TX8 4).2.1 (TX8 4).2.2.1 ∈ wsX8_count := by decide +kernel
set_option maxHeartbeats 4000000 in
set_option maxRecDepth 100000 in
theorem ctX8_count (l : Launch) (g : Gx) (lo : Nat) (ad : Nat → Nat) {F : Nat → va_E} {x : XV} (hX : XC g ad F x) (okx : XOK x) {q : Int32} : MI l g lo 196 ad yX8_count wsX8_count 2 44 [.ref (ad (0)), .int (q)] F (fun r F' => r = countA x q ∧ F' = F) := by
  obtain ⟨hP, hT, hH, hL, hA, hS, ⟨wt, hW, hct⟩, ⟨c, hCh⟩, ⟨fm, fo, hQ⟩, rv0, hR, okR⟩ := id hX
  obtain ⟨okT, okH, okL, okA, okS, okAu, okSu⟩ := id okx
  have okn := okH.1
  have okt := okT.1
  refine enter (cc := cX8_count) (maxL := 2) (ret := some .int) (own := RX8) (by decide +kernel) rfl rfl (Nat.le_of_ble_eq_true rfl) ?_
  intro pp ee ss mm below meth cc B hini hC ls hl
  have hl : lv_has ls 2 [(0, .ref (ad (0))), (1, .int (q))] := hl
  refine lv_iload_n B.1 B.2.1 dX8_count_0 rfl (lv_at hl 1 rfl) ?_
  rcases sw10 (q) with e1_ | e1_ | e1_ | e1_ | e1_ | e1_ | e1_ | e1_ | e1_ | e1_ | e1_
  · refine r_tI (y := nI 0) e1_ ?_
    refine lv_tableIn (off := 55) (tgt := 56) B.1 B.2.1 dX8_count_1 (by decide) (by decide) (by decide) (by decide) ?_
    refine lv_aload_n B.1 B.2.1 dX8_count_56 rfl (lv_at hl 0 rfl) ?_
    refine r_cg B hC (i := 0) (by decide) hP (C := RX8) (T := TX8) (n := 8) rfl iwX8_count_X8 0 (by decide) (index := 10) flX8_count_10 rfl (v := .ref (ad (1))) rfl dX8_count_57 ?_
    refine r_calli B hC hl.1 (1) 7 rfl rfl (by decide) (hT.1) (As := []) (ctX7_size l g lo ad hT okT) gX8_count_X7_size rfl (n := 0) rfl (by decide +kernel) ⟨Nat.le_of_ble_eq_true rfl, Nat.le_of_ble_eq_true rfl⟩ ⟨Nat.zero_le _, Nat.zero_le _⟩ rfl (Nat.le_of_ble_eq_true rfl) dX8_count_60 (fun r60 F1 H locs hp60 hC => ?_)
    obtain ⟨er, eF⟩ := hp60
    subst er
    rw [eF] at hC
    exact r_eI B hC (v := nI (tn (xt x))) (⟨by rw [countA, e1_, if_pos rfl], rfl⟩) dX8_count_63
  · refine r_tI (y := nI 1) e1_ ?_
    refine lv_tableIn (off := 63) (tgt := 64) B.1 B.2.1 dX8_count_1 (by decide) (by decide) (by decide) (by decide) ?_
    refine lv_aload_n B.1 B.2.1 dX8_count_64 rfl (lv_at hl 0 rfl) ?_
    refine r_cg B hC (i := 0) (by decide) hP (C := RX8) (T := TX8) (n := 8) rfl iwX8_count_X8 1 (by decide) (index := 19) flX8_count_19 rfl (v := .ref (ad (3))) rfl dX8_count_65 ?_
    refine r_calli B hC hl.1 (3) 2 rfl rfl (by decide) (hH.1) (As := []) (ctX2_places l g lo ad hH okH) gX8_count_X2_places rfl (n := 0) rfl (by decide +kernel) ⟨Nat.le_of_ble_eq_true rfl, Nat.le_of_ble_eq_true rfl⟩ ⟨Nat.zero_le _, Nat.zero_le _⟩ rfl (Nat.le_of_ble_eq_true rfl) dX8_count_68 (fun r68 F1 H locs hp68 hC => ?_)
    obtain ⟨er, eF⟩ := hp68
    subst er
    rw [eF] at hC
    exact r_eI B hC (v := nI (hn (xh x))) (⟨by rw [countA, e1_, if_neg (by decide), if_pos rfl], rfl⟩) dX8_count_71
  · refine r_tI (y := nI 2) e1_ ?_
    refine lv_tableIn (off := 71) (tgt := 72) B.1 B.2.1 dX8_count_1 (by decide) (by decide) (by decide) (by decide) ?_
    refine lv_aload_n B.1 B.2.1 dX8_count_72 rfl (lv_at hl 0 rfl) ?_
    refine r_cg B hC (i := 0) (by decide) hP (C := RX8) (T := TX8) (n := 8) rfl iwX8_count_X8 1 (by decide) (index := 19) flX8_count_19 rfl (v := .ref (ad (3))) rfl dX8_count_73 ?_
    refine lv_aload_n B.1 B.2.1 dX8_count_76 rfl (lv_at hl 0 rfl) ?_
    refine r_cg B hC (i := 0) (by decide) hP (C := RX8) (T := TX8) (n := 8) rfl iwX8_count_X8 2 (by decide) (index := 26) flX8_count_26 rfl (v := .ref (ad (8))) rfl dX8_count_77 ?_
    refine r_calli B hC hl.1 (3) 2 rfl rfl (by decide) (hH.1) (As := [.ref (ad (8))]) (ctX2_openPlaces l g lo ad hH okH (b := 8) (by decide) hL okL) gX8_count_X2_openPlaces rfl (n := 1) rfl (by decide +kernel) ⟨Nat.le_of_ble_eq_true rfl, Nat.le_of_ble_eq_true rfl⟩ ⟨Nat.zero_le _, Nat.zero_le _⟩ rfl (Nat.le_of_ble_eq_true rfl) dX8_count_80 (fun r80 F1 H locs hp80 hC => ?_)
    obtain ⟨er, eF⟩ := hp80
    subst er
    rw [eF] at hC
    refine r_scalli B hC hl.1 (As := [.int (nI (openTo (xw x) (hn (xh x))))]) (ctJ6_bitCount l g lo ad (v := openTo (xw x) (hn (xh x))) (open_1024 okH _)) gX8_count_J6_bitCount_0f7a4 rfl (n := 1) rfl (by decide +kernel) ⟨Nat.le_of_ble_eq_true rfl, Nat.le_of_ble_eq_true rfl⟩ ⟨Nat.zero_le _, Nat.zero_le _⟩ rfl (Nat.le_of_ble_eq_true rfl) dX8_count_83 (fun r83 F1 H locs hp83 hC => ?_)
    obtain ⟨er, eF⟩ := hp83
    subst er
    rw [eF] at hC
    exact r_eI B hC (v := nI (popTo (openTo (xw x) (hn (xh x))) 10)) (⟨by rw [countA, e1_, if_neg (by decide), if_neg (by decide), if_pos rfl], rfl⟩) dX8_count_86
  · refine r_tI (y := nI 3) e1_ ?_
    refine lv_tableIn (off := 86) (tgt := 87) B.1 B.2.1 dX8_count_1 (by decide) (by decide) (by decide) (by decide) ?_
    refine lv_aload_n B.1 B.2.1 dX8_count_87 rfl (lv_at hl 0 rfl) ?_
    refine lv_bipush (v := nI 100) B.1 B.2.1 dX8_count_88 (by decide) ?_
    refine r_calli B hC hl.1 (0) 8 rfl rfl (by decide) hP (As := [.int (nI 100)]) (ctX8_timbersThatAre l g lo ad hX okx (a := 100) (by decide)) gX8_count_X8_timbersThatAre rfl (n := 1) rfl (by decide +kernel) ⟨Nat.le_of_ble_eq_true rfl, Nat.le_of_ble_eq_true rfl⟩ ⟨Nat.zero_le _, Nat.zero_le _⟩ rfl (Nat.le_of_ble_eq_true rfl) dX8_count_90 (fun r90 F1 H locs hp90 hC => ?_)
    obtain ⟨er, eF⟩ := hp90
    subst er
    rw [eF] at hC
    exact r_eI B hC (v := nI (atTo (xw x) 100 (hn (xh x)))) (⟨by rw [countA, e1_, if_neg (by decide), if_neg (by decide), if_neg (by decide), if_pos rfl], rfl⟩) dX8_count_93
  · refine r_tI (y := nI 4) e1_ ?_
    refine lv_tableIn (off := 93) (tgt := 94) B.1 B.2.1 dX8_count_1 (by decide) (by decide) (by decide) (by decide) ?_
    refine lv_aload_n B.1 B.2.1 dX8_count_94 rfl (lv_at hl 0 rfl) ?_
    refine lv_sipush (v := nI 200) B.1 B.2.1 dX8_count_95 (by decide) ?_
    refine r_calli B hC hl.1 (0) 8 rfl rfl (by decide) hP (As := [.int (nI 200)]) (ctX8_timbersThatAre l g lo ad hX okx (a := 200) (by decide)) gX8_count_X8_timbersThatAre rfl (n := 1) rfl (by decide +kernel) ⟨Nat.le_of_ble_eq_true rfl, Nat.le_of_ble_eq_true rfl⟩ ⟨Nat.zero_le _, Nat.zero_le _⟩ rfl (Nat.le_of_ble_eq_true rfl) dX8_count_98 (fun r98 F1 H locs hp98 hC => ?_)
    obtain ⟨er, eF⟩ := hp98
    subst er
    rw [eF] at hC
    exact r_eI B hC (v := nI (atTo (xw x) 200 (hn (xh x)))) (⟨by rw [countA, e1_, if_neg (by decide), if_neg (by decide), if_neg (by decide), if_neg (by decide), if_pos rfl], rfl⟩) dX8_count_101
  · refine r_tI (y := nI 5) e1_ ?_
    refine lv_tableIn (off := 101) (tgt := 102) B.1 B.2.1 dX8_count_1 (by decide) (by decide) (by decide) (by decide) ?_
    refine lv_aload_n B.1 B.2.1 dX8_count_102 rfl (lv_at hl 0 rfl) ?_
    refine r_cg B hC (i := 0) (by decide) hP (C := RX8) (T := TX8) (n := 8) rfl iwX8_count_X8 2 (by decide) (index := 26) flX8_count_26 rfl (v := .ref (ad (8))) rfl dX8_count_103 ?_
    refine r_calli B hC hl.1 (8) 3 rfl rfl (by decide) (hL.1) (As := []) (ctX3_waterInside l g lo ad (b := 8) (by decide) hL) gX8_count_X3_waterInside rfl (n := 0) rfl (by decide +kernel) ⟨Nat.le_of_ble_eq_true rfl, Nat.le_of_ble_eq_true rfl⟩ ⟨Nat.zero_le _, Nat.zero_le _⟩ rfl (Nat.le_of_ble_eq_true rfl) dX8_count_106 (fun r106 F1 H locs hp106 hC => ?_)
    obtain ⟨er, eF⟩ := hp106
    subst er
    rw [eF] at hC
    exact r_eI B hC (v := nI (wa (xw x))) (⟨by rw [countA, e1_, if_neg (by decide), if_neg (by decide), if_neg (by decide), if_neg (by decide), if_neg (by decide), if_pos rfl], rfl⟩) dX8_count_109
  · refine r_tI (y := nI 6) e1_ ?_
    refine lv_tableIn (off := 109) (tgt := 110) B.1 B.2.1 dX8_count_1 (by decide) (by decide) (by decide) (by decide) ?_
    refine lv_aload_n B.1 B.2.1 dX8_count_110 rfl (lv_at hl 0 rfl) ?_
    refine r_cg B hC (i := 0) (by decide) hP (C := RX8) (T := TX8) (n := 8) rfl iwX8_count_X8 2 (by decide) (index := 26) flX8_count_26 rfl (v := .ref (ad (8))) rfl dX8_count_111 ?_
    refine r_calli B hC hl.1 (8) 3 rfl rfl (by decide) (hL.1) (As := []) (ctX3_isSunk l g lo ad (b := 8) (by decide) hL) gX8_count_X3_isSunk rfl (n := 0) rfl (by decide +kernel) ⟨Nat.le_of_ble_eq_true rfl, Nat.le_of_ble_eq_true rfl⟩ ⟨Nat.zero_le _, Nat.zero_le _⟩ rfl (Nat.le_of_ble_eq_true rfl) dX8_count_114 (fun r114 F1 H locs hp114 hC => ?_)
    obtain ⟨er, eF⟩ := hp114
    subst er
    rw [eF] at hC
    refine lv_if_eq (tgt := 124) B.1 B.2.1 dX8_count_117 (by decide) (fun c_117 => ?_) (fun c_117 => ?_)
    · have q_117 : (su (xw x)) = false := bI_f.mp c_117
      refine lv_iconst (v := nI 0) B.1 B.2.1 dX8_count_124 (by decide) ?_
      exact r_eI B hC (v := nI 0) (⟨by rw [countA, e1_, if_neg (by decide), if_neg (by decide), if_neg (by decide), if_neg (by decide), if_neg (by decide), if_neg (by decide), if_pos rfl]; rw [q_117]; rfl, rfl⟩) dX8_count_125
    · have q_117 : (su (xw x)) = true := bI_t.mp c_117
      refine lv_iconst (v := nI 1) B.1 B.2.1 dX8_count_120 (by decide) ?_
      refine lv_goto (tgt := 125) B.1 B.2.1 dX8_count_121 (by decide) ?_
      exact r_eI B hC (v := nI 1) (⟨by rw [countA, e1_, if_neg (by decide), if_neg (by decide), if_neg (by decide), if_neg (by decide), if_neg (by decide), if_neg (by decide), if_pos rfl]; rw [q_117]; rfl, rfl⟩) dX8_count_125
  · refine r_tI (y := nI 7) e1_ ?_
    refine lv_tableIn (off := 125) (tgt := 126) B.1 B.2.1 dX8_count_1 (by decide) (by decide) (by decide) (by decide) ?_
    refine lv_aload_n B.1 B.2.1 dX8_count_126 rfl (lv_at hl 0 rfl) ?_
    refine r_cg B hC (i := 0) (by decide) hP (C := RX8) (T := TX8) (n := 8) rfl iwX8_count_X8 1 (by decide) (index := 19) flX8_count_19 rfl (v := .ref (ad (3))) rfl dX8_count_127 ?_
    refine r_calli B hC hl.1 (3) 2 rfl rfl (by decide) (hH.1) (As := []) (ctX2_pumps l g lo ad hH okH) gX8_count_X2_pumps rfl (n := 0) rfl (by decide +kernel) ⟨Nat.le_of_ble_eq_true rfl, Nat.le_of_ble_eq_true rfl⟩ ⟨Nat.zero_le _, Nat.zero_le _⟩ rfl (Nat.le_of_ble_eq_true rfl) dX8_count_130 (fun r130 F1 H locs hp130 hC => ?_)
    obtain ⟨er, eF⟩ := hp130
    subst er
    rw [eF] at hC
    exact r_eI B hC (v := nI (hpu (xh x))) (⟨by rw [countA, e1_, if_neg (by decide), if_neg (by decide), if_neg (by decide), if_neg (by decide), if_neg (by decide), if_neg (by decide), if_neg (by decide), if_pos rfl], rfl⟩) dX8_count_133
  · refine r_tI (y := nI 8) e1_ ?_
    refine lv_tableIn (off := 133) (tgt := 134) B.1 B.2.1 dX8_count_1 (by decide) (by decide) (by decide) (by decide) ?_
    refine lv_aload_n B.1 B.2.1 dX8_count_134 rfl (lv_at hl 0 rfl) ?_
    refine r_cg B hC (i := 0) (by decide) hP (C := RX8) (T := TX8) (n := 8) rfl iwX8_count_X8 1 (by decide) (index := 19) flX8_count_19 rfl (v := .ref (ad (3))) rfl dX8_count_135 ?_
    refine r_calli B hC hl.1 (3) 2 rfl rfl (by decide) (hH.1) (As := []) (ctX2_hold l g lo ad hH okH) gX8_count_X2_hold rfl (n := 0) rfl (by decide +kernel) ⟨Nat.le_of_ble_eq_true rfl, Nat.le_of_ble_eq_true rfl⟩ ⟨Nat.zero_le _, Nat.zero_le _⟩ rfl (Nat.le_of_ble_eq_true rfl) dX8_count_138 (fun r138 F1 H locs hp138 hC => ?_)
    obtain ⟨er, eF⟩ := hp138
    subst er
    rw [eF] at hC
    exact r_eI B hC (v := nI (hho (xh x))) (⟨by rw [countA, e1_, if_neg (by decide), if_neg (by decide), if_neg (by decide), if_neg (by decide), if_neg (by decide), if_neg (by decide), if_neg (by decide), if_neg (by decide), if_pos rfl], rfl⟩) dX8_count_141
  · refine r_tI (y := nI 9) e1_ ?_
    refine lv_tableIn (off := 141) (tgt := 142) B.1 B.2.1 dX8_count_1 (by decide) (by decide) (by decide) (by decide) ?_
    refine lv_aload_n B.1 B.2.1 dX8_count_142 rfl (lv_at hl 0 rfl) ?_
    refine r_cg B hC (i := 0) (by decide) hP (C := RX8) (T := TX8) (n := 8) rfl iwX8_count_X8 4 (by decide) (index := 36) flX8_count_36 rfl (v := .ref (ad (18))) rfl dX8_count_143 ?_
    refine r_calli B hC hl.1 (18) 0 rfl rfl (by decide) (hA.1) (As := []) (ctX0_size l g lo ad (fi := afi (xa x)) (sz := asz (xa x)) hA.1 okA.1 okA.2.1) gX8_count_X0_size rfl (n := 0) rfl (by decide +kernel) ⟨Nat.le_of_ble_eq_true rfl, Nat.le_of_ble_eq_true rfl⟩ ⟨Nat.zero_le _, Nat.zero_le _⟩ rfl (Nat.le_of_ble_eq_true rfl) dX8_count_146 (fun r146 F1 H locs hp146 hC => ?_)
    obtain ⟨er, eF⟩ := hp146
    subst er
    rw [eF] at hC
    exact r_eI B hC (v := nI (asz (xa x))) (⟨by rw [countA, e1_, if_neg (by decide), if_neg (by decide), if_neg (by decide), if_neg (by decide), if_neg (by decide), if_neg (by decide), if_neg (by decide), if_neg (by decide), if_neg (by decide), if_pos rfl], rfl⟩) dX8_count_149
  · refine lv_tableOut (tgt := 150) B.1 B.2.1 dX8_count_1 e1_ (by decide) ?_
    refine lv_bipush (v := (-2)) B.1 B.2.1 dX8_count_150 (by decide) ?_
    exact r_eI B hC (v := (-2)) (⟨by have z := sw_out10 e1_; rw [countA, if_neg (z 0 (by decide)), if_neg (z 1 (by decide)), if_neg (z 2 (by decide)), if_neg (z 3 (by decide)), if_neg (z 4 (by decide)), if_neg (z 5 (by decide)), if_neg (z 6 (by decide)), if_neg (z 7 (by decide)), if_neg (z 8 (by decide)), if_neg (z 9 (by decide))], rfl⟩) dX8_count_152
