/-! THE WHOLE OBJECT: ship, floats, harm, best, port -/
def shipX (x : XV) : XV := (xt x, hullOf (xt x) (xh x), fillOf (xt x) (hullOf (xt x) (xh x)) (xw x), (afi (xa x), 0, alo (xa x)), (slo (xs x), va_up (va_up (sfl (xs x)) 0 false) 1 false))
def shipA (x : XV) : Int32 := if fAll (xt x) = none then nI (hn (hullOf (xt x) (xh x))) else -3
def shipN (x : XV) : XV := if fAll (xt x) = none then shipX x else x
def harmV (h : HV) (w : LV) (p : Nat) : Nat := match ti w p with
  | none => 0
  | some t => leakV h (downTo h (bringV w t 200) (hn h))
def harmA (x : XV) (p : Int32) : Int32 := if isP (xh x) p = true then (if ti (xw x) (ix p) = none then -3 else nI (harmV (xh x) (xw x) (ix p))) else -1
def is02 (k : Int32) : Bool := decide (k = nI 0) || (decide (k = nI 1) || decide (k = nI 2))
def bestA (x : XV) (k : Int32) : Int32 := if is02 k = true then (if su (xw x) = true then -3 else nI (bestV (xh x) (xw x) (ix k)).1) else -2
def bestAtA (x : XV) (k i : Int32) : Int32 := if is02 k = true then (if su (xw x) = true then -3 else oI (fndAt (bestV (xh x) (xw x) (ix k)).2 i)) else -2
def is99 (n : Int32) : Bool := decide (1 ≤ n) && decide (n ≤ 99)
def portA (x : XV) (n : Int32) : Int32 := if is99 n = true then (if su (xw x) = true then -3 else oI ((portV (xh x) (xw x) (ix n)).map List.length)) else -2
def portAtA (x : XV) (n i : Int32) : Int32 := if is99 n = true then (if su (xw x) = true then -3 else oI (fndAt ((portV (xh x) (xw x) (ix n)).getD []) i)) else -2
theorem is99_t {n : Int32} (q : is99 n = true) : ∃ j, 1 ≤ j ∧ j ≤ 99 ∧ n = nI j := by
  simp only [is99, Bool.and_eq_true, decide_eq_true_eq] at q
  have q1 := Int32.le_iff_toInt_le.mp q.1
  have q2 := Int32.le_iff_toInt_le.mp q.2
  have e1 : (1 : Int32).toInt = 1 := by decide
  have e8 : (99 : Int32).toInt = 99 := by decide
  refine ⟨n.toInt.toNat, by omega, by omega, Int32.toInt_inj.mp ?_⟩
  rw [nI_toInt (by omega)]
  omega
theorem is02_i {k : Int32} (h0 : ¬ k < 0) (h2 : k ≤ nI 2) : is02 k = true ∧ ∃ j, j ≤ 2 ∧ k = nI j := by
  obtain ⟨j, hj, rfl⟩ := nI_of h0
  have hj2 := (nI_leI hj (by decide)).mp h2
  refine ⟨?_, j, hj2, rfl⟩
  match j, hj2 with
  | 0, _ => decide
  | 1, _ => decide
  | 2, _ => decide
theorem is02_n {k : Int32} (h : k < 0 ∨ ¬ k ≤ nI 2) : is02 k = false := by
  cases q : is02 k with
  | false => rfl
  | true =>
    simp only [is02, Bool.or_eq_true, decide_eq_true_eq] at q
    rcases q with rfl | rfl | rfl <;> rcases h with h | h <;> first | exact absurd h (by decide) | exact absurd (by decide) h
theorem iwX8_refusalOfBest_X8 : ∀ w ∈ u_ws RX8 TX8 8, w ∈ wsX8_refusalOfBest := by decide +kernel
theorem flX8_refusalOfBest_26 : Cond.fieldLink RX8 26 RX8 (TX8 2).2.1 (TX8 2).2.2.1 ∈ wsX8_refusalOfBest := by decide +kernel
set_option maxHeartbeats 4000000 in
set_option maxRecDepth 100000 in
theorem ctX8_refusalOfBest (l : Launch) (g : Gx) (lo : Nat) (ad : Nat → Nat) {F : Nat → va_E} {x : XV} (hX : XC g ad F x) (okx : XOK x) {k : Int32} : MI l g lo 196 ad yX8_refusalOfBest wsX8_refusalOfBest 1 20 [.ref (ad (0)), .int (k)] F (fun r F' => r = (if is02 k = true then (if su (xw x) = true then -3 else nI 0) else -2) ∧ F' = F) := by
  obtain ⟨hP, hT, hH, hL, hA, hS, ⟨wt, hW, hct⟩, ⟨c, hCh⟩, ⟨fm, fo, hQ⟩, rv0, hR, okR⟩ := id hX
  obtain ⟨okT, okH, okL, okA, okS, okAu, okSu⟩ := id okx
  have okn := okH.1
  have okt := okT.1
  refine enter (cc := cX8_refusalOfBest) (maxL := 2) (ret := some .int) (own := RX8) (by decide +kernel) rfl rfl (Nat.le_of_ble_eq_true rfl) ?_
  intro pp ee ss mm below meth cc B hini hC ls hl
  have hl : lv_has ls 2 [(0, .ref (ad (0))), (1, .int (k))] := hl
  refine lv_iload_n B.1 B.2.1 dX8_refusalOfBest_0 rfl (lv_at hl 1 rfl) ?_
  refine lv_if_lt (tgt := 9) B.1 B.2.1 dX8_refusalOfBest_1 (by decide) (fun c_1 => ?_) (fun c_1 => ?_)
  · have q : is02 k = false := is02_n (Or.inl c_1)
    refine lv_bipush (v := (-2)) B.1 B.2.1 dX8_refusalOfBest_9 (by decide) ?_
    exact r_eI B hC (v := (-2)) (⟨by rw [q]; rfl, rfl⟩) dX8_refusalOfBest_11
  · refine lv_iload_n B.1 B.2.1 dX8_refusalOfBest_4 rfl (lv_at hl 1 rfl) ?_
    refine lv_iconst (v := nI 2) B.1 B.2.1 dX8_refusalOfBest_5 (by decide) ?_
    refine lv_icmp_le (tgt := 12) B.1 B.2.1 dX8_refusalOfBest_6 (by decide) (fun c_6 => ?_) (fun c_6 => ?_)
    · have q : is02 k = true := (is02_i c_1 c_6).1
      refine lv_aload_n B.1 B.2.1 dX8_refusalOfBest_12 rfl (lv_at hl 0 rfl) ?_
      refine r_cg B hC (i := 0) (by decide) hP (C := RX8) (T := TX8) (n := 8) rfl iwX8_refusalOfBest_X8 2 (by decide) (index := 26) flX8_refusalOfBest_26 rfl (v := .ref (ad (8))) rfl dX8_refusalOfBest_13 ?_
      refine r_calli B hC hl.1 (8) 3 rfl rfl (by decide) (hL.1) (As := []) (ctX3_isSunk l g lo ad (b := 8) (by decide) hL) gX8_refusalOfBest_X3_isSunk rfl (n := 0) rfl (by decide +kernel) ⟨Nat.le_of_ble_eq_true rfl, Nat.le_of_ble_eq_true rfl⟩ ⟨Nat.zero_le _, Nat.zero_le _⟩ rfl (Nat.le_of_ble_eq_true rfl) dX8_refusalOfBest_16 (fun r16 F1 H locs hp16 hC => ?_)
      obtain ⟨er, eF⟩ := hp16
      subst er
      rw [eF] at hC
      refine lv_if_eq (tgt := 27) B.1 B.2.1 dX8_refusalOfBest_19 (by decide) (fun c_19 => ?_) (fun c_19 => ?_)
      · have q_19 : (su (xw x)) = false := bI_f.mp c_19
        refine lv_iconst (v := nI 0) B.1 B.2.1 dX8_refusalOfBest_27 (by decide) ?_
        exact r_eI B hC (v := nI 0) (⟨by rw [q, q_19]; rfl, rfl⟩) dX8_refusalOfBest_28
      · have q_19 : (su (xw x)) = true := bI_t.mp c_19
        refine lv_bipush (v := (-3)) B.1 B.2.1 dX8_refusalOfBest_22 (by decide) ?_
        refine lv_goto (tgt := 28) B.1 B.2.1 dX8_refusalOfBest_24 (by decide) ?_
        exact r_eI B hC (v := (-3)) (⟨by rw [q, q_19]; rfl, rfl⟩) dX8_refusalOfBest_28
    · have q : is02 k = false := is02_n (Or.inr c_6)
      refine lv_bipush (v := (-2)) B.1 B.2.1 dX8_refusalOfBest_9 (by decide) ?_
      exact r_eI B hC (v := (-2)) (⟨by rw [q]; rfl, rfl⟩) dX8_refusalOfBest_11
theorem iwX8_refusalOfPort_X8 : ∀ w ∈ u_ws RX8 TX8 8, w ∈ wsX8_refusalOfPort := by decide +kernel
theorem flX8_refusalOfPort_26 : Cond.fieldLink RX8 26 RX8 (TX8 2).2.1 (TX8 2).2.2.1 ∈ wsX8_refusalOfPort := by decide +kernel
set_option maxHeartbeats 4000000 in
set_option maxRecDepth 100000 in
theorem ctX8_refusalOfPort (l : Launch) (g : Gx) (lo : Nat) (ad : Nat → Nat) {F : Nat → va_E} {x : XV} (hX : XC g ad F x) (okx : XOK x) {n : Int32} : MI l g lo 196 ad yX8_refusalOfPort wsX8_refusalOfPort 1 20 [.ref (ad (0)), .int (n)] F (fun r F' => r = (if is99 n = true then (if su (xw x) = true then -3 else nI 0) else -2) ∧ F' = F) := by
  obtain ⟨hP, hT, hH, hL, hA, hS, ⟨wt, hW, hct⟩, ⟨c, hCh⟩, ⟨fm, fo, hQ⟩, rv0, hR, okR⟩ := id hX
  obtain ⟨okT, okH, okL, okA, okS, okAu, okSu⟩ := id okx
  have okn := okH.1
  have okt := okT.1
  refine enter (cc := cX8_refusalOfPort) (maxL := 2) (ret := some .int) (own := RX8) (by decide +kernel) rfl rfl (Nat.le_of_ble_eq_true rfl) ?_
  intro pp ee ss mm below meth cc B hini hC ls hl
  have hl : lv_has ls 2 [(0, .ref (ad (0))), (1, .int (n))] := hl
  refine lv_iload_n B.1 B.2.1 dX8_refusalOfPort_0 rfl (lv_at hl 1 rfl) ?_
  refine lv_iconst (v := nI 1) B.1 B.2.1 dX8_refusalOfPort_1 (by decide) ?_
  refine lv_icmp_lt (tgt := 11) B.1 B.2.1 dX8_refusalOfPort_2 (by decide) (fun c_2 => ?_) (fun c_2 => ?_)
  · have q : is99 n = false := by simp only [is99, Bool.and_eq_false_iff, decide_eq_false_iff_not]; exact Or.inl (n_nge c_2)
    refine lv_bipush (v := (-2)) B.1 B.2.1 dX8_refusalOfPort_11 (by decide) ?_
    exact r_eI B hC (v := (-2)) (⟨by rw [q]; rfl, rfl⟩) dX8_refusalOfPort_13
  · refine lv_iload_n B.1 B.2.1 dX8_refusalOfPort_5 rfl (lv_at hl 1 rfl) ?_
    refine lv_bipush (v := nI 99) B.1 B.2.1 dX8_refusalOfPort_6 (by decide) ?_
    refine lv_icmp_le (tgt := 14) B.1 B.2.1 dX8_refusalOfPort_8 (by decide) (fun c_8 => ?_) (fun c_8 => ?_)
    · have q : is99 n = true := by simp only [is99, Bool.and_eq_true, decide_eq_true_eq]; exact ⟨n_ge c_2, c_8⟩
      refine lv_aload_n B.1 B.2.1 dX8_refusalOfPort_14 rfl (lv_at hl 0 rfl) ?_
      refine r_cg B hC (i := 0) (by decide) hP (C := RX8) (T := TX8) (n := 8) rfl iwX8_refusalOfPort_X8 2 (by decide) (index := 26) flX8_refusalOfPort_26 rfl (v := .ref (ad (8))) rfl dX8_refusalOfPort_15 ?_
      refine r_calli B hC hl.1 (8) 3 rfl rfl (by decide) (hL.1) (As := []) (ctX3_isSunk l g lo ad (b := 8) (by decide) hL) gX8_refusalOfPort_X3_isSunk rfl (n := 0) rfl (by decide +kernel) ⟨Nat.le_of_ble_eq_true rfl, Nat.le_of_ble_eq_true rfl⟩ ⟨Nat.zero_le _, Nat.zero_le _⟩ rfl (Nat.le_of_ble_eq_true rfl) dX8_refusalOfPort_18 (fun r18 F1 H locs hp18 hC => ?_)
      obtain ⟨er, eF⟩ := hp18
      subst er
      rw [eF] at hC
      refine lv_if_eq (tgt := 29) B.1 B.2.1 dX8_refusalOfPort_21 (by decide) (fun c_21 => ?_) (fun c_21 => ?_)
      · have q_21 : (su (xw x)) = false := bI_f.mp c_21
        refine lv_iconst (v := nI 0) B.1 B.2.1 dX8_refusalOfPort_29 (by decide) ?_
        exact r_eI B hC (v := nI 0) (⟨by rw [q, q_21]; rfl, rfl⟩) dX8_refusalOfPort_30
      · have q_21 : (su (xw x)) = true := bI_t.mp c_21
        refine lv_bipush (v := (-3)) B.1 B.2.1 dX8_refusalOfPort_24 (by decide) ?_
        refine lv_goto (tgt := 30) B.1 B.2.1 dX8_refusalOfPort_26 (by decide) ?_
        exact r_eI B hC (v := (-3)) (⟨by rw [q, q_21]; rfl, rfl⟩) dX8_refusalOfPort_30
    · have q : is99 n = false := by simp only [is99, Bool.and_eq_false_iff, decide_eq_false_iff_not]; exact Or.inr c_8
      refine lv_bipush (v := (-2)) B.1 B.2.1 dX8_refusalOfPort_11 (by decide) ?_
      exact r_eI B hC (v := (-2)) (⟨by rw [q]; rfl, rfl⟩) dX8_refusalOfPort_13
theorem iwX8_ship_X8 : ∀ w ∈ u_ws RX8 TX8 8, w ∈ wsX8_ship := by decide +kernel
theorem flX8_ship_10 : Cond.fieldLink RX8 10 RX8 (TX8 0).2.1 (TX8 0).2.2.1 ∈ wsX8_ship := by decide +kernel
theorem flX8_ship_19 : Cond.fieldLink RX8 19 RX8 (TX8 1).2.1 (TX8 1).2.2.1 ∈ wsX8_ship := by decide +kernel
theorem flX8_ship_26 : Cond.fieldLink RX8 26 RX8 (TX8 2).2.1 (TX8 2).2.2.1 ∈ wsX8_ship := by decide +kernel
theorem flX8_ship_36 : Cond.fieldLink RX8 36 RX8 (TX8 4).2.1 (TX8 4).2.2.1 ∈ wsX8_ship := by decide +kernel
theorem flX8_ship_43 : Cond.fieldLink RX8 43 RX8 (TX8 5).2.1 (TX8 5).2.2.1 ∈ wsX8_ship := by decide +kernel
set_option maxHeartbeats 4000000 in
set_option maxRecDepth 100000 in
theorem ctX8_ship_open (l : Launch) (g : Gx) (lo : Nat) (ad : Nat → Nat) {F : Nat → va_E} {x : XV} (hX : XC g ad F x) (okx : XOK x) (hfl : ∀ k, fAll (xt x) = some k → k ≤ 100) (hullOf_ok : ∀ {v : TV} {h : HV}, TOK v → HOK h → fAll v = none → HOK (hullOf v h)) (hullOf_fig : ∀ {v : TV} {h : HV}, TOK v → fAll v = none → ∀ p, p < hn (hullOf v h) → tat v (off v p) = some 80 → isFig v (off v p + 5) 0 10 = true) : MI l g lo 196 ad yX8_ship wsX8_ship 6 132 [.ref (ad (0))] F (fun r F' => r = shipA x ∧ XC g ad F' (shipN x) ∧ Same 0 175 F F') := by
  obtain ⟨hP, hT, hH, hL, hA, hS, ⟨wt, hW, hct⟩, ⟨c, hCh⟩, ⟨fm, fo, hQ⟩, rv0, hR, okR⟩ := id hX
  obtain ⟨okT, okH, okL, okA, okS, okAu, okSu⟩ := id okx
  have okn := okH.1
  have okt := okT.1
  refine enter (cc := cX8_ship) (maxL := 1) (ret := some .int) (own := RX8) (by decide +kernel) rfl rfl (Nat.le_of_ble_eq_true rfl) ?_
  intro pp ee ss mm below meth cc B hini hC ls hl
  have hl : lv_has ls 1 [(0, .ref (ad (0)))] := hl
  refine lv_aload_n B.1 B.2.1 dX8_ship_0 rfl (lv_at hl 0 rfl) ?_
  refine r_cg B hC (i := 0) (by decide) hP (C := RX8) (T := TX8) (n := 8) rfl iwX8_ship_X8 0 (by decide) (index := 10) flX8_ship_10 rfl (v := .ref (ad (1))) rfl dX8_ship_1 ?_
  refine r_calli B hC hl.1 (1) 7 rfl rfl (by decide) (hT.1) (As := []) (ctX7_firstFault l g lo ad hT okT) gX8_ship_X7_firstFault rfl (n := 0) rfl (by decide +kernel) ⟨Nat.le_of_ble_eq_true rfl, Nat.le_of_ble_eq_true rfl⟩ ⟨Nat.zero_le _, Nat.zero_le _⟩ rfl (Nat.le_of_ble_eq_true rfl) dX8_ship_4 (fun r4 F1 H locs hp4 hC => ?_)
  obtain ⟨er, eF⟩ := hp4
  subst er
  rw [eF] at hC
  refine lv_bipush (v := (-9)) B.1 B.2.1 dX8_ship_7 (by decide) ?_
  refine lv_icmp_eq (tgt := 15) B.1 B.2.1 dX8_ship_9 (by decide) (fun c_9 => ?_) (fun c_9 => ?_)
  · have hfa := (oI_9 (fun k hk => Nat.lt_of_le_of_lt (hfl k hk) (by decide))).mp c_9
    have okH2 := hullOf_ok okT okH hfa
    have hvT := hullOf_fig okT (h := xh x) hfa
    refine lv_aload_n B.1 B.2.1 dX8_ship_15 rfl (lv_at hl 0 rfl) ?_
    refine r_cg B hC (i := 0) (by decide) hP (C := RX8) (T := TX8) (n := 8) rfl iwX8_ship_X8 1 (by decide) (index := 19) flX8_ship_19 rfl (v := .ref (ad (3))) rfl dX8_ship_16 ?_
    refine lv_aload_n B.1 B.2.1 dX8_ship_19 rfl (lv_at hl 0 rfl) ?_
    refine r_cg B hC (i := 0) (by decide) hP (C := RX8) (T := TX8) (n := 8) rfl iwX8_ship_X8 0 (by decide) (index := 10) flX8_ship_10 rfl (v := .ref (ad (1))) rfl dX8_ship_20 ?_
    refine r_callv B hC hl.1 (3) 2 rfl rfl (by decide) (hH.1) (As := [.ref (ad (1))]) (ctX2_build l g lo ad hH hT okT hfa) gX8_ship_X2_build rfl (n := 1) rfl (by decide +kernel) ⟨Nat.le_of_ble_eq_true rfl, Nat.le_of_ble_eq_true rfl⟩ ⟨Nat.zero_le _, Nat.zero_le _⟩ rfl (Nat.le_of_ble_eq_true rfl) dX8_ship_23 (fun F1 H locs hp23 hC => ?_)
    obtain ⟨hH_F1, hs_F1⟩ := hp23
    refine lv_aload_n B.1 B.2.1 dX8_ship_26 rfl (lv_at hl 0 rfl) ?_
    refine r_cg B hC (i := 0) (by decide) (TopC.at hP (fun i h1 h2 => by rw [hs_F1 i (by omega)])) (C := RX8) (T := TX8) (n := 8) rfl iwX8_ship_X8 2 (by decide) (index := 26) flX8_ship_26 rfl (v := .ref (ad (8))) rfl dX8_ship_27 ?_
    refine lv_aload_n B.1 B.2.1 dX8_ship_30 rfl (lv_at hl 0 rfl) ?_
    refine r_cg B hC (i := 0) (by decide) (TopC.at hP (fun i h1 h2 => by rw [hs_F1 i (by omega)])) (C := RX8) (T := TX8) (n := 8) rfl iwX8_ship_X8 1 (by decide) (index := 19) flX8_ship_19 rfl (v := .ref (ad (3))) rfl dX8_ship_31 ?_
    refine lv_aload_n B.1 B.2.1 dX8_ship_34 rfl (lv_at hl 0 rfl) ?_
    refine r_cg B hC (i := 0) (by decide) (TopC.at hP (fun i h1 h2 => by rw [hs_F1 i (by omega)])) (C := RX8) (T := TX8) (n := 8) rfl iwX8_ship_X8 0 (by decide) (index := 10) flX8_ship_10 rfl (v := .ref (ad (1))) rfl dX8_ship_35 ?_
    refine r_callv B hC hl.1 (8) 3 rfl rfl (by decide) ((LoadC.at hL (fun i h1 h2 => by rw [hs_F1 i (by omega)])).1) (As := [.ref (ad (3)), .ref (ad (1))]) (ctX3_fill l g lo ad hH_F1 okH2 (LoadC.at hL (fun i h1 h2 => by rw [hs_F1 i (by omega)])) (TextC.at hT (fun i h1 h2 => by rw [hs_F1 i (by omega)])) okT hvT) gX8_ship_X3_fill rfl (n := 2) rfl (by decide +kernel) ⟨Nat.le_of_ble_eq_true rfl, Nat.le_of_ble_eq_true rfl⟩ ⟨Nat.zero_le _, Nat.zero_le _⟩ rfl (Nat.le_of_ble_eq_true rfl) dX8_ship_38 (fun F2 H locs hp38 hC => ?_)
    obtain ⟨hL_F2, hs_F2⟩ := hp38
    refine lv_aload_n B.1 B.2.1 dX8_ship_41 rfl (lv_at hl 0 rfl) ?_
    refine r_cg B hC (i := 0) (by decide) (TopC.at hP (fun i h1 h2 => by rw [hs_F2 i (by omega)]; rw [hs_F1 i (by omega)])) (C := RX8) (T := TX8) (n := 8) rfl iwX8_ship_X8 4 (by decide) (index := 36) flX8_ship_36 rfl (v := .ref (ad (18))) rfl dX8_ship_42 ?_
    refine r_callv B hC hl.1 (18) 0 rfl rfl (by decide) ((ActC.keep hA (fun i h1 h2 => by rw [hs_F2 i (by omega)]; rw [hs_F1 i (by omega)])).1) (As := []) (ctX0_forgetAll l g lo ad (fi := afi (xa x)) (sz := asz (xa x)) (ActC.keep hA (fun i h1 h2 => by rw [hs_F2 i (by omega)]; rw [hs_F1 i (by omega)])).1 okA.1 okA.2.1) gX8_ship_X0_forgetAll rfl (n := 0) rfl (by decide +kernel) ⟨Nat.le_of_ble_eq_true rfl, Nat.le_of_ble_eq_true rfl⟩ ⟨Nat.zero_le _, Nat.zero_le _⟩ rfl (Nat.le_of_ble_eq_true rfl) dX8_ship_45 (fun F3 H locs hp45 hC => ?_)
    obtain ⟨hAh, hs_F3⟩ := hp45
    have hA_F3 : ActC g ad F3 (afi (xa x), 0, alo (xa x)) := ⟨hAh, (hs_F3 19 (by omega)).trans (ActC.keep hA (fun i h1 h2 => by rw [hs_F2 i (by omega)]; rw [hs_F1 i (by omega)])).2.1, fun k hk => ((ActC.keep hA (fun i h1 h2 => by rw [hs_F2 i (by omega)]; rw [hs_F1 i (by omega)])).2.2 k hk).at (fun i h1 h2 => hs_F3 i (by omega))⟩
    refine lv_aload_n B.1 B.2.1 dX8_ship_48 rfl (lv_at hl 0 rfl) ?_
    refine r_cg B hC (i := 0) (by decide) (TopC.at hP (fun i h1 h2 => by rw [hs_F3 i (by omega)]; rw [hs_F2 i (by omega)]; rw [hs_F1 i (by omega)])) (C := RX8) (T := TX8) (n := 8) rfl iwX8_ship_X8 5 (by decide) (index := 43) flX8_ship_43 rfl (v := .ref (ad (140))) rfl dX8_ship_49 ?_
    refine r_callv B hC hl.1 (140) 6 rfl rfl (by decide) ((SlotC.keep hS (fun i h1 h2 => by rw [hs_F3 i (by omega)]; rw [hs_F2 i (by omega)]; rw [hs_F1 i (by omega)])).1) (As := []) (ctX6_forgetAll l g lo ad (SlotC.keep hS (fun i h1 h2 => by rw [hs_F3 i (by omega)]; rw [hs_F2 i (by omega)]; rw [hs_F1 i (by omega)])) okS) gX8_ship_X6_forgetAll rfl (n := 0) rfl (by decide +kernel) ⟨Nat.le_of_ble_eq_true rfl, Nat.le_of_ble_eq_true rfl⟩ ⟨Nat.zero_le _, Nat.zero_le _⟩ rfl (Nat.le_of_ble_eq_true rfl) dX8_ship_52 (fun F4 H locs hp52 hC => ?_)
    obtain ⟨hS_F4, hs_F4⟩ := hp52
    refine lv_aload_n B.1 B.2.1 dX8_ship_55 rfl (lv_at hl 0 rfl) ?_
    refine r_cg B hC (i := 0) (by decide) (TopC.at hP (fun i h1 h2 => by rw [hs_F4 i (by omega)]; rw [hs_F3 i (by omega)]; rw [hs_F2 i (by omega)]; rw [hs_F1 i (by omega)])) (C := RX8) (T := TX8) (n := 8) rfl iwX8_ship_X8 1 (by decide) (index := 19) flX8_ship_19 rfl (v := .ref (ad (3))) rfl dX8_ship_56 ?_
    refine r_calli B hC hl.1 (3) 2 rfl rfl (by decide) ((HullC.at hH_F1 (fun i h1 h2 => by rw [hs_F4 i (by omega)]; rw [hs_F3 i (by omega)]; rw [hs_F2 i (by omega)])).1) (As := []) (ctX2_places l g lo ad (HullC.at hH_F1 (fun i h1 h2 => by rw [hs_F4 i (by omega)]; rw [hs_F3 i (by omega)]; rw [hs_F2 i (by omega)])) okH2) gX8_ship_X2_places rfl (n := 0) rfl (by decide +kernel) ⟨Nat.le_of_ble_eq_true rfl, Nat.le_of_ble_eq_true rfl⟩ ⟨Nat.zero_le _, Nat.zero_le _⟩ rfl (Nat.le_of_ble_eq_true rfl) dX8_ship_59 (fun r59 F5 H locs hp59 hC => ?_)
    obtain ⟨er, eF⟩ := hp59
    subst er
    rw [eF] at hC
    exact r_eI B hC (v := nI (hn (hullOf (xt x) (xh x)))) (⟨by rw [shipA, if_pos hfa], by rw [shipN, if_pos hfa]; exact ⟨(TopC.at hP (fun i h1 h2 => by rw [hs_F4 i (by omega)]; rw [hs_F3 i (by omega)]; rw [hs_F2 i (by omega)]; rw [hs_F1 i (by omega)])), (TextC.at hT (fun i h1 h2 => by rw [hs_F4 i (by omega)]; rw [hs_F3 i (by omega)]; rw [hs_F2 i (by omega)]; rw [hs_F1 i (by omega)])), (HullC.at hH_F1 (fun i h1 h2 => by rw [hs_F4 i (by omega)]; rw [hs_F3 i (by omega)]; rw [hs_F2 i (by omega)])), (LoadC.at hL_F2 (fun i h1 h2 => by rw [hs_F4 i (by omega)]; rw [hs_F3 i (by omega)])), (ActC.keep hA_F3 (fun i h1 h2 => by rw [hs_F4 i (by omega)])), hS_F4, ⟨_, (LoadC.at hW (fun i h1 h2 => by rw [hs_F4 i (by omega)]; rw [hs_F3 i (by omega)]; rw [hs_F2 i (by omega)]; rw [hs_F1 i (by omega)])), hct⟩, ⟨_, (ChC.at hCh (fun i h1 h2 => by rw [hs_F4 i (by omega)]; rw [hs_F3 i (by omega)]; rw [hs_F2 i (by omega)]; rw [hs_F1 i (by omega)]))⟩, ⟨_, _, (SeaC.at hQ (fun i h1 h2 => by rw [hs_F4 i (by omega)]; rw [hs_F3 i (by omega)]; rw [hs_F2 i (by omega)]; rw [hs_F1 i (by omega)]))⟩, _, (RowsC.keep hR (fun i h1 h2 => by rw [hs_F4 i (by omega)]; rw [hs_F3 i (by omega)]; rw [hs_F2 i (by omega)]; rw [hs_F1 i (by omega)])), okR⟩, (fun i hi => by rw [hs_F4 i (by omega)]; rw [hs_F3 i (by omega)]; rw [hs_F2 i (by omega)]; rw [hs_F1 i (by omega)])⟩) dX8_ship_62
  · have hfa : ¬ fAll (xt x) = none := fun z => c_9 ((oI_9 (fun k hk => Nat.lt_of_le_of_lt (hfl k hk) (by decide))).mpr z)
    refine lv_bipush (v := (-3)) B.1 B.2.1 dX8_ship_12 (by decide) ?_
    exact r_eI B hC (v := (-3)) (⟨by rw [shipA, if_neg hfa], by rw [shipN, if_neg hfa]; exact hX, Same.rf⟩) dX8_ship_14
theorem iwX8_floats_X8 : ∀ w ∈ u_ws RX8 TX8 8, w ∈ wsX8_floats := by decide +kernel
theorem flX8_floats_19 : Cond.fieldLink RX8 19 RX8 (TX8 1).2.1 (TX8 1).2.2.1 ∈ wsX8_floats := by decide +kernel
theorem flX8_floats_26 : Cond.fieldLink RX8 26 RX8 (TX8 2).2.1 (TX8 2).2.2.1 ∈ wsX8_floats := by decide +kernel
theorem flX8_floats_30 : Cond.fieldLink RX8 30 RX8 (TX8 3).2.1 (TX8 3).2.2.1 ∈ wsX8_floats := by decide +kernel
set_option maxHeartbeats 4000000 in
set_option maxRecDepth 100000 in
theorem ctX8_floats (l : Launch) (g : Gx) (lo : Nat) (ad : Nat → Nat) {F : Nat → va_E} {x : XV} (hX : XC g ad F x) (okx : XOK x) : MI l g lo 196 ad yX8_floats wsX8_floats 5 108 [.ref (ad (0))] F (fun r F' => r = nI (floatsV (xh x) (xw x)) ∧ XC g ad F' x ∧ Same 0 175 F F') := by
  obtain ⟨hP, hT, hH, hL, hA, hS, ⟨wt, hW, hct⟩, ⟨c, hCh⟩, ⟨fm, fo, hQ⟩, rv0, hR, okR⟩ := id hX
  obtain ⟨okT, okH, okL, okA, okS, okAu, okSu⟩ := id okx
  have okn := okH.1
  have okt := okT.1
  refine enter (cc := cX8_floats) (maxL := 1) (ret := some .int) (own := RX8) (by decide +kernel) rfl rfl (Nat.le_of_ble_eq_true rfl) ?_
  intro pp ee ss mm below meth cc B hini hC ls hl
  have hl : lv_has ls 1 [(0, .ref (ad (0)))] := hl
  refine lv_aload_n B.1 B.2.1 dX8_floats_0 rfl (lv_at hl 0 rfl) ?_
  refine r_cg B hC (i := 0) (by decide) hP (C := RX8) (T := TX8) (n := 8) rfl iwX8_floats_X8 3 (by decide) (index := 30) flX8_floats_30 rfl (v := .ref (ad (13))) rfl dX8_floats_1 ?_
  refine lv_aload_n B.1 B.2.1 dX8_floats_4 rfl (lv_at hl 0 rfl) ?_
  refine r_cg B hC (i := 0) (by decide) hP (C := RX8) (T := TX8) (n := 8) rfl iwX8_floats_X8 2 (by decide) (index := 26) flX8_floats_26 rfl (v := .ref (ad (8))) rfl dX8_floats_5 ?_
  refine r_callv B hC hl.1 (13) 3 rfl rfl (by decide) (hW.1) (As := [.ref (ad (8))]) (ctX3_copyFrom l g lo ad (b := 13) (by decide) hW (b2 := 8) (by decide) (by decide) hL hct okL.can) gX8_floats_X3_copyFrom rfl (n := 1) rfl (by decide +kernel) ⟨Nat.le_of_ble_eq_true rfl, Nat.le_of_ble_eq_true rfl⟩ ⟨Nat.zero_le _, Nat.zero_le _⟩ rfl (Nat.le_of_ble_eq_true rfl) dX8_floats_8 (fun F1 H locs hp8 hC => ?_)
  obtain ⟨hW_F1, hs_F1⟩ := hp8
  refine lv_aload_n B.1 B.2.1 dX8_floats_11 rfl (lv_at hl 0 rfl) ?_
  refine r_cg B hC (i := 0) (by decide) (TopC.at hP (fun i h1 h2 => by rw [hs_F1 i (by omega)])) (C := RX8) (T := TX8) (n := 8) rfl iwX8_floats_X8 1 (by decide) (index := 19) flX8_floats_19 rfl (v := .ref (ad (3))) rfl dX8_floats_12 ?_
  refine lv_aload_n B.1 B.2.1 dX8_floats_15 rfl (lv_at hl 0 rfl) ?_
  refine r_cg B hC (i := 0) (by decide) (TopC.at hP (fun i h1 h2 => by rw [hs_F1 i (by omega)])) (C := RX8) (T := TX8) (n := 8) rfl iwX8_floats_X8 3 (by decide) (index := 30) flX8_floats_30 rfl (v := .ref (ad (13))) rfl dX8_floats_16 ?_
  refine r_calli B hC hl.1 (3) 2 rfl rfl (by decide) ((HullC.at hH (fun i h1 h2 => by rw [hs_F1 i (by omega)])).1) (As := [.ref (ad (13))]) (ctX2_watchesAfloat l g lo ad (HullC.at hH (fun i h1 h2 => by rw [hs_F1 i (by omega)])) okH (b := 13) (by decide) hW_F1 okL) gX8_floats_X2_watchesAfloat rfl (n := 1) rfl (by decide +kernel) ⟨Nat.le_of_ble_eq_true rfl, Nat.le_of_ble_eq_true rfl⟩ ⟨Nat.zero_le _, Nat.zero_le _⟩ rfl (Nat.le_of_ble_eq_true rfl) dX8_floats_19 (fun r19 F2 H locs hp19 hC => ?_)
  obtain ⟨er, w2, hW_F2, hc2, hs_F2⟩ := hp19
  subst er
  exact r_eI B hC (v := nI (floatsV (xh x) (xw x))) (⟨rfl, ⟨(TopC.at hP (fun i h1 h2 => by rw [hs_F2 i (by omega)]; rw [hs_F1 i (by omega)])), (TextC.at hT (fun i h1 h2 => by rw [hs_F2 i (by omega)]; rw [hs_F1 i (by omega)])), (HullC.at hH (fun i h1 h2 => by rw [hs_F2 i (by omega)]; rw [hs_F1 i (by omega)])), (LoadC.at hL (fun i h1 h2 => by rw [hs_F2 i (by omega)]; rw [hs_F1 i (by omega)])), (ActC.keep hA (fun i h1 h2 => by rw [hs_F2 i (by omega)]; rw [hs_F1 i (by omega)])), (SlotC.keep hS (fun i h1 h2 => by rw [hs_F2 i (by omega)]; rw [hs_F1 i (by omega)])), ⟨_, hW_F2, hc2⟩, ⟨_, (ChC.at hCh (fun i h1 h2 => by rw [hs_F2 i (by omega)]; rw [hs_F1 i (by omega)]))⟩, ⟨_, _, (SeaC.at hQ (fun i h1 h2 => by rw [hs_F2 i (by omega)]; rw [hs_F1 i (by omega)]))⟩, _, (RowsC.keep hR (fun i h1 h2 => by rw [hs_F2 i (by omega)]; rw [hs_F1 i (by omega)])), okR⟩, (fun i hi => by rw [hs_F2 i (by omega)]; rw [hs_F1 i (by omega)])⟩) dX8_floats_22
theorem iwX8_harm_X8 : ∀ w ∈ u_ws RX8 TX8 8, w ∈ wsX8_harm := by decide +kernel
theorem flX8_harm_19 : Cond.fieldLink RX8 19 RX8 (TX8 1).2.1 (TX8 1).2.2.1 ∈ wsX8_harm := by decide +kernel
theorem flX8_harm_26 : Cond.fieldLink RX8 26 RX8 (TX8 2).2.1 (TX8 2).2.2.1 ∈ wsX8_harm := by decide +kernel
theorem flX8_harm_30 : Cond.fieldLink RX8 30 RX8 (TX8 3).2.1 (TX8 3).2.2.1 ∈ wsX8_harm := by decide +kernel
set_option maxHeartbeats 4000000 in
set_option maxRecDepth 100000 in
theorem ctX8_harm (l : Launch) (g : Gx) (lo : Nat) (ad : Nat → Nat) {F : Nat → va_E} {x : XV} (hX : XC g ad F x) (okx : XOK x) {p : Int32} : MI l g lo 196 ad yX8_harm wsX8_harm 3 65 [.ref (ad (0)), .int (p)] F (fun r F' => r = harmA x p ∧ XC g ad F' x ∧ Same 0 175 F F') := by
  obtain ⟨hP, hT, hH, hL, hA, hS, ⟨wt, hW, hct⟩, ⟨c, hCh⟩, ⟨fm, fo, hQ⟩, rv0, hR, okR⟩ := id hX
  obtain ⟨okT, okH, okL, okA, okS, okAu, okSu⟩ := id okx
  have okn := okH.1
  have okt := okT.1
  refine enter (cc := cX8_harm) (maxL := 2) (ret := some .int) (own := RX8) (by decide +kernel) rfl rfl (Nat.le_of_ble_eq_true rfl) ?_
  intro pp ee ss mm below meth cc B hini hC ls hl
  have hl : lv_has ls 2 [(0, .ref (ad (0))), (1, .int (p))] := hl
  refine lv_aload_n B.1 B.2.1 dX8_harm_0 rfl (lv_at hl 0 rfl) ?_
  refine r_cg B hC (i := 0) (by decide) hP (C := RX8) (T := TX8) (n := 8) rfl iwX8_harm_X8 1 (by decide) (index := 19) flX8_harm_19 rfl (v := .ref (ad (3))) rfl dX8_harm_1 ?_
  refine lv_iload_n B.1 B.2.1 dX8_harm_4 rfl (lv_at hl 1 rfl) ?_
  refine r_calli B hC hl.1 (3) 2 rfl rfl (by decide) (hH.1) (As := [.int (p)]) (ctX2_isPlace_any l g lo ad hH okH (x := p)) gX8_harm_X2_isPlace rfl (n := 1) rfl (by decide +kernel) ⟨Nat.le_of_ble_eq_true rfl, Nat.le_of_ble_eq_true rfl⟩ ⟨Nat.zero_le _, Nat.zero_le _⟩ rfl (Nat.le_of_ble_eq_true rfl) dX8_harm_5 (fun r5 F1 H locs hp5 hC => ?_)
  obtain ⟨er, eF⟩ := hp5
  subst er
  rw [eF] at hC
  refine lv_if_ne (tgt := 13) B.1 B.2.1 dX8_harm_8 (by decide) (fun c_8 => ?_) (fun c_8 => ?_)
  · have q_8 : isP (xh x) p = true := bI_t.mp c_8
    obtain ⟨j, hj, ej⟩ := isP_t okH q_8
    have hj31 : j < 2 ^ 31 := by omega
    refine lv_aload_n B.1 B.2.1 dX8_harm_13 rfl (lv_at hl 0 rfl) ?_
    refine r_cg B hC (i := 0) (by decide) hP (C := RX8) (T := TX8) (n := 8) rfl iwX8_harm_X8 2 (by decide) (index := 26) flX8_harm_26 rfl (v := .ref (ad (8))) rfl dX8_harm_14 ?_
    refine lv_iload_n B.1 B.2.1 dX8_harm_17 rfl (lv_at hl 1 rfl) ?_
    refine r_tI (y := nI j) (ej) ?_
    refine r_calli B hC hl.1 (8) 3 rfl rfl (by decide) (hL.1) (As := [.int (nI j)]) (ctX3_isOpen l g lo ad (b := 8) (by decide) hL (t := j) (by omega) (okL.t10 (by omega))) gX8_harm_X3_isOpen rfl (n := 1) rfl (by decide +kernel) ⟨Nat.le_of_ble_eq_true rfl, Nat.le_of_ble_eq_true rfl⟩ ⟨Nat.zero_le _, Nat.zero_le _⟩ rfl (Nat.le_of_ble_eq_true rfl) dX8_harm_18 (fun r18 F1 H locs hp18 hC => ?_)
    obtain ⟨er, eF⟩ := hp18
    subst er
    rw [eF] at hC
    refine lv_if_eq (tgt := 27) B.1 B.2.1 dX8_harm_21 (by decide) (fun c_21 => ?_) (fun c_21 => ?_)
    · have q_21 : (ti (xw x) j).isNone = false := bI_f.mp c_21
      obtain ⟨t, ht0⟩ : ∃ t, ti (xw x) j = some t := by cases hh : ti (xw x) j <;> simp_all
      have ht10 := okL.t10 (by omega) t ht0
      have okB : LOK (xh x) (bringV (xw x) t 200) := LOK_bring okH okL (okL.in_ okH (by omega) ht0) (Or.inl rfl)
      have okD := LOK_downTo okH okB okH.1
      refine lv_aload_n B.1 B.2.1 dX8_harm_27 rfl (lv_at hl 0 rfl) ?_
      refine r_cg B hC (i := 0) (by decide) hP (C := RX8) (T := TX8) (n := 8) rfl iwX8_harm_X8 3 (by decide) (index := 30) flX8_harm_30 rfl (v := .ref (ad (13))) rfl dX8_harm_28 ?_
      refine lv_aload_n B.1 B.2.1 dX8_harm_31 rfl (lv_at hl 0 rfl) ?_
      refine r_cg B hC (i := 0) (by decide) hP (C := RX8) (T := TX8) (n := 8) rfl iwX8_harm_X8 2 (by decide) (index := 26) flX8_harm_26 rfl (v := .ref (ad (8))) rfl dX8_harm_32 ?_
      refine r_callv B hC hl.1 (13) 3 rfl rfl (by decide) (hW.1) (As := [.ref (ad (8))]) (ctX3_copyFrom l g lo ad (b := 13) (by decide) hW (b2 := 8) (by decide) (by decide) hL hct okL.can) gX8_harm_X3_copyFrom rfl (n := 1) rfl (by decide +kernel) ⟨Nat.le_of_ble_eq_true rfl, Nat.le_of_ble_eq_true rfl⟩ ⟨Nat.zero_le _, Nat.zero_le _⟩ rfl (Nat.le_of_ble_eq_true rfl) dX8_harm_35 (fun F1 H locs hp35 hC => ?_)
      obtain ⟨hW_F1, hs_F1⟩ := hp35
      refine lv_aload_n B.1 B.2.1 dX8_harm_38 rfl (lv_at hl 0 rfl) ?_
      refine r_cg B hC (i := 0) (by decide) (TopC.at hP (fun i h1 h2 => by rw [hs_F1 i (by omega)])) (C := RX8) (T := TX8) (n := 8) rfl iwX8_harm_X8 3 (by decide) (index := 30) flX8_harm_30 rfl (v := .ref (ad (13))) rfl dX8_harm_39 ?_
      refine lv_aload_n B.1 B.2.1 dX8_harm_42 rfl (lv_at hl 0 rfl) ?_
      refine r_cg B hC (i := 0) (by decide) (TopC.at hP (fun i h1 h2 => by rw [hs_F1 i (by omega)])) (C := RX8) (T := TX8) (n := 8) rfl iwX8_harm_X8 3 (by decide) (index := 30) flX8_harm_30 rfl (v := .ref (ad (13))) rfl dX8_harm_43 ?_
      refine lv_iload_n B.1 B.2.1 dX8_harm_46 rfl (lv_at hl 1 rfl) ?_
      refine r_tI (y := nI j) (ej) ?_
      refine r_calli B hC hl.1 (13) 3 rfl rfl (by decide) (hW_F1.1) (As := [.int (nI j)]) (ctX3_timberIn l g lo ad (b := 13) (by decide) hW_F1 (t := j) (by omega)) gX8_harm_X3_timberIn rfl (n := 1) rfl (by decide +kernel) ⟨Nat.le_of_ble_eq_true rfl, Nat.le_of_ble_eq_true rfl⟩ ⟨Nat.zero_le _, Nat.zero_le _⟩ rfl (Nat.le_of_ble_eq_true rfl) dX8_harm_47 (fun r47 F2 H locs hp47 hC => ?_)
      obtain ⟨er, eF⟩ := hp47
      subst er
      rw [eF] at hC
      refine r_tI (y := nI t) (by rw [ht0]; rfl) ?_
      refine lv_sipush (v := nI 200) B.1 B.2.1 dX8_harm_50 (by decide) ?_
      refine r_callv B hC hl.1 (13) 3 rfl rfl (by decide) (hW_F1.1) (As := [.int (nI t), .int (nI 200)]) (ctX3_bringTo l g lo ad (b := 13) (by decide) hW_F1 (t := t) (x := 200) ht10 (okL.1 t).1 (by decide)) gX8_harm_X3_bringTo rfl (n := 2) rfl (by decide +kernel) ⟨Nat.le_of_ble_eq_true rfl, Nat.le_of_ble_eq_true rfl⟩ ⟨Nat.zero_le _, Nat.zero_le _⟩ rfl (Nat.le_of_ble_eq_true rfl) dX8_harm_53 (fun F2 H locs hp53 hC => ?_)
      obtain ⟨hW_F2, hs_F2⟩ := hp53
      refine lv_aload_n B.1 B.2.1 dX8_harm_56 rfl (lv_at hl 0 rfl) ?_
      refine r_cg B hC (i := 0) (by decide) (TopC.at hP (fun i h1 h2 => by rw [hs_F2 i (by omega)]; rw [hs_F1 i (by omega)])) (C := RX8) (T := TX8) (n := 8) rfl iwX8_harm_X8 1 (by decide) (index := 19) flX8_harm_19 rfl (v := .ref (ad (3))) rfl dX8_harm_57 ?_
      refine lv_aload_n B.1 B.2.1 dX8_harm_60 rfl (lv_at hl 0 rfl) ?_
      refine r_cg B hC (i := 0) (by decide) (TopC.at hP (fun i h1 h2 => by rw [hs_F2 i (by omega)]; rw [hs_F1 i (by omega)])) (C := RX8) (T := TX8) (n := 8) rfl iwX8_harm_X8 3 (by decide) (index := 30) flX8_harm_30 rfl (v := .ref (ad (13))) rfl dX8_harm_61 ?_
      refine r_callv B hC hl.1 (3) 2 rfl rfl (by decide) ((HullC.at hH (fun i h1 h2 => by rw [hs_F2 i (by omega)]; rw [hs_F1 i (by omega)])).1) (As := [.ref (ad (13))]) (ctX2_letComeDown l g lo ad (HullC.at hH (fun i h1 h2 => by rw [hs_F2 i (by omega)]; rw [hs_F1 i (by omega)])) okH (b := 13) (by decide) hW_F2 okB) gX8_harm_X2_letComeDown rfl (n := 1) rfl (by decide +kernel) ⟨Nat.le_of_ble_eq_true rfl, Nat.le_of_ble_eq_true rfl⟩ ⟨Nat.zero_le _, Nat.zero_le _⟩ rfl (Nat.le_of_ble_eq_true rfl) dX8_harm_64 (fun F3 H locs hp64 hC => ?_)
      obtain ⟨hW_F3, hs_F3⟩ := hp64
      refine lv_aload_n B.1 B.2.1 dX8_harm_67 rfl (lv_at hl 0 rfl) ?_
      refine r_cg B hC (i := 0) (by decide) (TopC.at hP (fun i h1 h2 => by rw [hs_F3 i (by omega)]; rw [hs_F2 i (by omega)]; rw [hs_F1 i (by omega)])) (C := RX8) (T := TX8) (n := 8) rfl iwX8_harm_X8 1 (by decide) (index := 19) flX8_harm_19 rfl (v := .ref (ad (3))) rfl dX8_harm_68 ?_
      refine lv_aload_n B.1 B.2.1 dX8_harm_71 rfl (lv_at hl 0 rfl) ?_
      refine r_cg B hC (i := 0) (by decide) (TopC.at hP (fun i h1 h2 => by rw [hs_F3 i (by omega)]; rw [hs_F2 i (by omega)]; rw [hs_F1 i (by omega)])) (C := RX8) (T := TX8) (n := 8) rfl iwX8_harm_X8 3 (by decide) (index := 30) flX8_harm_30 rfl (v := .ref (ad (13))) rfl dX8_harm_72 ?_
      refine r_calli B hC hl.1 (3) 2 rfl rfl (by decide) ((HullC.at hH (fun i h1 h2 => by rw [hs_F3 i (by omega)]; rw [hs_F2 i (by omega)]; rw [hs_F1 i (by omega)])).1) (As := [.ref (ad (13))]) (ctX2_leakOf l g lo ad (HullC.at hH (fun i h1 h2 => by rw [hs_F3 i (by omega)]; rw [hs_F2 i (by omega)]; rw [hs_F1 i (by omega)])) okH (b := 13) (by decide) hW_F3 okD) gX8_harm_X2_leakOf rfl (n := 1) rfl (by decide +kernel) ⟨Nat.le_of_ble_eq_true rfl, Nat.le_of_ble_eq_true rfl⟩ ⟨Nat.zero_le _, Nat.zero_le _⟩ rfl (Nat.le_of_ble_eq_true rfl) dX8_harm_75 (fun r75 F4 H locs hp75 hC => ?_)
      obtain ⟨er, eF⟩ := hp75
      subst er
      rw [eF] at hC
      exact r_eI B hC (v := nI (leakV (xh x) (downTo (xh x) (bringV (xw x) t 200) (hn (xh x))))) (⟨by rw [harmA, if_pos q_8, ej, ix_n hj31, if_neg (by rw [ht0]; exact fun z => by cases z), harmV, ht0], ⟨(TopC.at hP (fun i h1 h2 => by rw [hs_F3 i (by omega)]; rw [hs_F2 i (by omega)]; rw [hs_F1 i (by omega)])), (TextC.at hT (fun i h1 h2 => by rw [hs_F3 i (by omega)]; rw [hs_F2 i (by omega)]; rw [hs_F1 i (by omega)])), (HullC.at hH (fun i h1 h2 => by rw [hs_F3 i (by omega)]; rw [hs_F2 i (by omega)]; rw [hs_F1 i (by omega)])), (LoadC.at hL (fun i h1 h2 => by rw [hs_F3 i (by omega)]; rw [hs_F2 i (by omega)]; rw [hs_F1 i (by omega)])), (ActC.keep hA (fun i h1 h2 => by rw [hs_F3 i (by omega)]; rw [hs_F2 i (by omega)]; rw [hs_F1 i (by omega)])), (SlotC.keep hS (fun i h1 h2 => by rw [hs_F3 i (by omega)]; rw [hs_F2 i (by omega)]; rw [hs_F1 i (by omega)])), ⟨_, hW_F3, okD.can⟩, ⟨_, (ChC.at hCh (fun i h1 h2 => by rw [hs_F3 i (by omega)]; rw [hs_F2 i (by omega)]; rw [hs_F1 i (by omega)]))⟩, ⟨_, _, (SeaC.at hQ (fun i h1 h2 => by rw [hs_F3 i (by omega)]; rw [hs_F2 i (by omega)]; rw [hs_F1 i (by omega)]))⟩, _, (RowsC.keep hR (fun i h1 h2 => by rw [hs_F3 i (by omega)]; rw [hs_F2 i (by omega)]; rw [hs_F1 i (by omega)])), okR⟩, (fun i hi => by rw [hs_F3 i (by omega)]; rw [hs_F2 i (by omega)]; rw [hs_F1 i (by omega)])⟩) dX8_harm_78
    · have q_21 : ti (xw x) j = none := Option.isNone_iff_eq_none.mp (bI_t.mp c_21)
      refine lv_bipush (v := (-3)) B.1 B.2.1 dX8_harm_24 (by decide) ?_
      exact r_eI B hC (v := (-3)) (⟨by rw [harmA, if_pos q_8, ej, ix_n hj31, if_pos q_21], hX, Same.rf⟩) dX8_harm_26
  · have q_8 : isP (xh x) p = false := bI_f.mp c_8
    refine lv_iconst (v := (-1)) B.1 B.2.1 dX8_harm_11 (by decide) ?_
    exact r_eI B hC (v := (-1)) (⟨by rw [harmA, if_neg (by rw [q_8]; decide)], hX, Same.rf⟩) dX8_harm_12
theorem iwX8_best_X8 : ∀ w ∈ u_ws RX8 TX8 8, w ∈ wsX8_best := by decide +kernel
theorem flX8_best_26 : Cond.fieldLink RX8 26 RX8 (TX8 2).2.1 (TX8 2).2.2.1 ∈ wsX8_best := by decide +kernel
theorem flX8_best_59 : Cond.fieldLink RX8 59 RX8 (TX8 7).2.1 (TX8 7).2.2.1 ∈ wsX8_best := by decide +kernel
set_option maxHeartbeats 4000000 in
set_option maxRecDepth 100000 in
theorem ctX8_best (l : Launch) (g : Gx) (lo : Nat) (ad : Nat → Nat) {F : Nat → va_E} {x : XV} (hX : XC g ad F x) (okx : XOK x) {k : Int32} : MI l g lo 196 ad yX8_best wsX8_best 6 142 [.ref (ad (0)), .int (k)] F (fun r F' => r = bestA x k ∧ XC g ad F' x ∧ Same 0 175 F F') := by
  obtain ⟨hP, hT, hH, hL, hA, hS, ⟨wt, hW, hct⟩, ⟨c, hCh⟩, ⟨fm, fo, hQ⟩, rv0, hR, okR⟩ := id hX
  obtain ⟨okT, okH, okL, okA, okS, okAu, okSu⟩ := id okx
  have okn := okH.1
  have okt := okT.1
  refine enter (cc := cX8_best) (maxL := 3) (ret := some .int) (own := RX8) (by decide +kernel) rfl rfl (Nat.le_of_ble_eq_true rfl) ?_
  intro pp ee ss mm below meth cc B hini hC ls hl
  have hl : lv_has ls 3 [(0, .ref (ad (0))), (1, .int (k))] := hl
  refine lv_aload_n B.1 B.2.1 dX8_best_0 rfl (lv_at hl 0 rfl) ?_
  refine lv_iload_n B.1 B.2.1 dX8_best_1 rfl (lv_at hl 1 rfl) ?_
  refine r_calli B hC hl.1 (0) 8 rfl rfl (by decide) hP (As := [.int (k)]) (ctX8_refusalOfBest l g lo ad hX okx (k := k)) gX8_best_X8_refusalOfBest rfl (n := 1) rfl (by decide +kernel) ⟨Nat.le_of_ble_eq_true rfl, Nat.le_of_ble_eq_true rfl⟩ ⟨Nat.zero_le _, Nat.zero_le _⟩ rfl (Nat.le_of_ble_eq_true rfl) dX8_best_2 (fun r2 F1 H locs hp2 hC => ?_)
  obtain ⟨er, eF⟩ := hp2
  subst er
  rw [eF] at hC
  by_cases q : is02 k = true
  · by_cases qs : su (xw x) = true
    · refine r_tI (y := (-3)) (by rw [if_pos q, if_pos qs]) ?_
      refine lv_istore_n (lv' := [(2, .int ((-3))), (0, .ref (ad (0))), (1, .int (k))]) B.1 B.2.1 dX8_best_5 rfl hl (by decide) rfl (fun ls hl => ?_)
      refine lv_iload_n B.1 B.2.1 dX8_best_6 rfl (lv_at hl 0 rfl) ?_
      refine lv_if_eq (tgt := 12) B.1 B.2.1 dX8_best_7 (by decide) (fun z => absurd z (by decide)) (fun _ => ?_)
      refine lv_iload_n B.1 B.2.1 dX8_best_10 rfl (lv_at hl 0 rfl) ?_
      exact r_eI B hC (v := (-3)) (⟨by rw [bestA, if_pos q, if_pos qs], hX, Same.rf⟩) dX8_best_11
    · refine r_tI (y := nI 0) (by rw [if_pos q, if_neg qs]) ?_
      have q2 := q
      simp only [is02, Bool.or_eq_true, decide_eq_true_eq] at q2
      rcases q2 with ek | ek | ek
      · refine lv_istore_n (lv' := [(2, .int (nI 0)), (0, .ref (ad (0))), (1, .int (k))]) B.1 B.2.1 dX8_best_5 rfl hl (by decide) rfl (fun ls hl => ?_)
        refine lv_iload_n B.1 B.2.1 dX8_best_6 rfl (lv_at hl 0 rfl) ?_
        refine lv_if_eq (tgt := 12) B.1 B.2.1 dX8_best_7 (by decide) (fun _ => ?_) (fun z => absurd (by decide) z)
        refine lv_aload_n B.1 B.2.1 dX8_best_12 rfl (lv_at hl 1 rfl) ?_
        refine r_cg B hC (i := 0) (by decide) hP (C := RX8) (T := TX8) (n := 8) rfl iwX8_best_X8 7 (by decide) (index := 59) flX8_best_59 rfl (v := .ref (ad (155))) rfl dX8_best_13 ?_
        refine lv_aload_n B.1 B.2.1 dX8_best_16 rfl (lv_at hl 1 rfl) ?_
        refine r_cg B hC (i := 0) (by decide) hP (C := RX8) (T := TX8) (n := 8) rfl iwX8_best_X8 2 (by decide) (index := 26) flX8_best_26 rfl (v := .ref (ad (8))) rfl dX8_best_17 ?_
        refine lv_iload_n B.1 B.2.1 dX8_best_20 rfl (lv_at hl 2 rfl) ?_
        refine r_tI (y := nI 0) (ek) ?_
        refine r_calli B hC hl.1 (155) 5 rfl rfl (by decide) (hQ.1) (As := [.ref (ad (8)), .int (nI 0)]) (ctX5_leastLeak0 l g lo ad hH okH hL okL hR okR hQ) gX8_best_X5_leastLeak rfl (n := 2) rfl (by decide +kernel) ⟨Nat.le_of_ble_eq_true rfl, Nat.le_of_ble_eq_true rfl⟩ ⟨Nat.zero_le _, Nat.zero_le _⟩ rfl (Nat.le_of_ble_eq_true rfl) dX8_best_21 (fun r21 F1 H locs hp21 hC => ?_)
        obtain ⟨fo2, v2, er, hQ_F1, hFn, hR_F1, ok2, hs_F1⟩ := hp21
        subst er
        exact r_eI B hC (v := nI (bestV (xh x) (xw x) 0).1) (⟨by rw [bestA, if_pos q, if_neg qs, ek, ix_n (by decide)], ⟨(TopC.at hP (fun i h1 h2 => by rw [hs_F1 i (by omega)])), (TextC.at hT (fun i h1 h2 => by rw [hs_F1 i (by omega)])), (HullC.at hH (fun i h1 h2 => by rw [hs_F1 i (by omega)])), (LoadC.at hL (fun i h1 h2 => by rw [hs_F1 i (by omega)])), (ActC.keep hA (fun i h1 h2 => by rw [hs_F1 i (by omega)])), (SlotC.keep hS (fun i h1 h2 => by rw [hs_F1 i (by omega)])), ⟨_, (LoadC.at hW (fun i h1 h2 => by rw [hs_F1 i (by omega)])), hct⟩, ⟨_, (ChC.at hCh (fun i h1 h2 => by rw [hs_F1 i (by omega)]))⟩, ⟨_, _, hQ_F1⟩, _, hR_F1, ok2⟩, (fun i hi => by rw [hs_F1 i (by omega)])⟩) dX8_best_24
      · refine lv_istore_n (lv' := [(2, .int (nI 0)), (0, .ref (ad (0))), (1, .int (k))]) B.1 B.2.1 dX8_best_5 rfl hl (by decide) rfl (fun ls hl => ?_)
        refine lv_iload_n B.1 B.2.1 dX8_best_6 rfl (lv_at hl 0 rfl) ?_
        refine lv_if_eq (tgt := 12) B.1 B.2.1 dX8_best_7 (by decide) (fun _ => ?_) (fun z => absurd (by decide) z)
        refine lv_aload_n B.1 B.2.1 dX8_best_12 rfl (lv_at hl 1 rfl) ?_
        refine r_cg B hC (i := 0) (by decide) hP (C := RX8) (T := TX8) (n := 8) rfl iwX8_best_X8 7 (by decide) (index := 59) flX8_best_59 rfl (v := .ref (ad (155))) rfl dX8_best_13 ?_
        refine lv_aload_n B.1 B.2.1 dX8_best_16 rfl (lv_at hl 1 rfl) ?_
        refine r_cg B hC (i := 0) (by decide) hP (C := RX8) (T := TX8) (n := 8) rfl iwX8_best_X8 2 (by decide) (index := 26) flX8_best_26 rfl (v := .ref (ad (8))) rfl dX8_best_17 ?_
        refine lv_iload_n B.1 B.2.1 dX8_best_20 rfl (lv_at hl 2 rfl) ?_
        refine r_tI (y := nI 1) (ek) ?_
        refine r_calli B hC hl.1 (155) 5 rfl rfl (by decide) (hQ.1) (As := [.ref (ad (8)), .int (nI 1)]) (ctX5_leastLeak1 l g lo ad hH okH hL okL hR okR hQ) gX8_best_X5_leastLeak rfl (n := 2) rfl (by decide +kernel) ⟨Nat.le_of_ble_eq_true rfl, Nat.le_of_ble_eq_true rfl⟩ ⟨Nat.zero_le _, Nat.zero_le _⟩ rfl (Nat.le_of_ble_eq_true rfl) dX8_best_21 (fun r21 F1 H locs hp21 hC => ?_)
        obtain ⟨fo2, v2, er, hQ_F1, hFn, hR_F1, ok2, hs_F1⟩ := hp21
        subst er
        exact r_eI B hC (v := nI (bestV (xh x) (xw x) 1).1) (⟨by rw [bestA, if_pos q, if_neg qs, ek, ix_n (by decide)], ⟨(TopC.at hP (fun i h1 h2 => by rw [hs_F1 i (by omega)])), (TextC.at hT (fun i h1 h2 => by rw [hs_F1 i (by omega)])), (HullC.at hH (fun i h1 h2 => by rw [hs_F1 i (by omega)])), (LoadC.at hL (fun i h1 h2 => by rw [hs_F1 i (by omega)])), (ActC.keep hA (fun i h1 h2 => by rw [hs_F1 i (by omega)])), (SlotC.keep hS (fun i h1 h2 => by rw [hs_F1 i (by omega)])), ⟨_, (LoadC.at hW (fun i h1 h2 => by rw [hs_F1 i (by omega)])), hct⟩, ⟨_, (ChC.at hCh (fun i h1 h2 => by rw [hs_F1 i (by omega)]))⟩, ⟨_, _, hQ_F1⟩, _, hR_F1, ok2⟩, (fun i hi => by rw [hs_F1 i (by omega)])⟩) dX8_best_24
      · refine lv_istore_n (lv' := [(2, .int (nI 0)), (0, .ref (ad (0))), (1, .int (k))]) B.1 B.2.1 dX8_best_5 rfl hl (by decide) rfl (fun ls hl => ?_)
        refine lv_iload_n B.1 B.2.1 dX8_best_6 rfl (lv_at hl 0 rfl) ?_
        refine lv_if_eq (tgt := 12) B.1 B.2.1 dX8_best_7 (by decide) (fun _ => ?_) (fun z => absurd (by decide) z)
        refine lv_aload_n B.1 B.2.1 dX8_best_12 rfl (lv_at hl 1 rfl) ?_
        refine r_cg B hC (i := 0) (by decide) hP (C := RX8) (T := TX8) (n := 8) rfl iwX8_best_X8 7 (by decide) (index := 59) flX8_best_59 rfl (v := .ref (ad (155))) rfl dX8_best_13 ?_
        refine lv_aload_n B.1 B.2.1 dX8_best_16 rfl (lv_at hl 1 rfl) ?_
        refine r_cg B hC (i := 0) (by decide) hP (C := RX8) (T := TX8) (n := 8) rfl iwX8_best_X8 2 (by decide) (index := 26) flX8_best_26 rfl (v := .ref (ad (8))) rfl dX8_best_17 ?_
        refine lv_iload_n B.1 B.2.1 dX8_best_20 rfl (lv_at hl 2 rfl) ?_
        refine r_tI (y := nI 2) (ek) ?_
        refine r_calli B hC hl.1 (155) 5 rfl rfl (by decide) (hQ.1) (As := [.ref (ad (8)), .int (nI 2)]) (ctX5_leastLeak2 l g lo ad hH okH hL okL hR okR hQ) gX8_best_X5_leastLeak rfl (n := 2) rfl (by decide +kernel) ⟨Nat.le_of_ble_eq_true rfl, Nat.le_of_ble_eq_true rfl⟩ ⟨Nat.zero_le _, Nat.zero_le _⟩ rfl (Nat.le_of_ble_eq_true rfl) dX8_best_21 (fun r21 F1 H locs hp21 hC => ?_)
        obtain ⟨fo2, v2, er, hQ_F1, hFn, hR_F1, ok2, hs_F1⟩ := hp21
        subst er
        exact r_eI B hC (v := nI (bestV (xh x) (xw x) 2).1) (⟨by rw [bestA, if_pos q, if_neg qs, ek, ix_n (by decide)], ⟨(TopC.at hP (fun i h1 h2 => by rw [hs_F1 i (by omega)])), (TextC.at hT (fun i h1 h2 => by rw [hs_F1 i (by omega)])), (HullC.at hH (fun i h1 h2 => by rw [hs_F1 i (by omega)])), (LoadC.at hL (fun i h1 h2 => by rw [hs_F1 i (by omega)])), (ActC.keep hA (fun i h1 h2 => by rw [hs_F1 i (by omega)])), (SlotC.keep hS (fun i h1 h2 => by rw [hs_F1 i (by omega)])), ⟨_, (LoadC.at hW (fun i h1 h2 => by rw [hs_F1 i (by omega)])), hct⟩, ⟨_, (ChC.at hCh (fun i h1 h2 => by rw [hs_F1 i (by omega)]))⟩, ⟨_, _, hQ_F1⟩, _, hR_F1, ok2⟩, (fun i hi => by rw [hs_F1 i (by omega)])⟩) dX8_best_24
  · refine r_tI (y := (-2)) (by rw [if_neg q]) ?_
    refine lv_istore_n (lv' := [(2, .int ((-2))), (0, .ref (ad (0))), (1, .int (k))]) B.1 B.2.1 dX8_best_5 rfl hl (by decide) rfl (fun ls hl => ?_)
    refine lv_iload_n B.1 B.2.1 dX8_best_6 rfl (lv_at hl 0 rfl) ?_
    refine lv_if_eq (tgt := 12) B.1 B.2.1 dX8_best_7 (by decide) (fun z => absurd z (by decide)) (fun _ => ?_)
    refine lv_iload_n B.1 B.2.1 dX8_best_10 rfl (lv_at hl 0 rfl) ?_
    exact r_eI B hC (v := (-2)) (⟨by rw [bestA, if_neg q], hX, Same.rf⟩) dX8_best_11
theorem iwX8_bestAt_X8 : ∀ w ∈ u_ws RX8 TX8 8, w ∈ wsX8_bestAt := by decide +kernel
theorem flX8_bestAt_26 : Cond.fieldLink RX8 26 RX8 (TX8 2).2.1 (TX8 2).2.2.1 ∈ wsX8_bestAt := by decide +kernel
theorem flX8_bestAt_59 : Cond.fieldLink RX8 59 RX8 (TX8 7).2.1 (TX8 7).2.2.1 ∈ wsX8_bestAt := by decide +kernel
set_option maxHeartbeats 4000000 in
set_option maxRecDepth 100000 in
theorem ctX8_bestAt (l : Launch) (g : Gx) (lo : Nat) (ad : Nat → Nat) {F : Nat → va_E} {x : XV} (hX : XC g ad F x) (okx : XOK x) {k i : Int32} : MI l g lo 196 ad yX8_bestAt wsX8_bestAt 6 142 [.ref (ad (0)), .int (k), .int (i)] F (fun r F' => r = bestAtA x k i ∧ XC g ad F' x ∧ Same 0 175 F F') := by
  obtain ⟨hP, hT, hH, hL, hA, hS, ⟨wt, hW, hct⟩, ⟨c, hCh⟩, ⟨fm, fo, hQ⟩, rv0, hR, okR⟩ := id hX
  obtain ⟨okT, okH, okL, okA, okS, okAu, okSu⟩ := id okx
  have okn := okH.1
  have okt := okT.1
  refine enter (cc := cX8_bestAt) (maxL := 4) (ret := some .int) (own := RX8) (by decide +kernel) rfl rfl (Nat.le_of_ble_eq_true rfl) ?_
  intro pp ee ss mm below meth cc B hini hC ls hl
  have hl : lv_has ls 4 [(0, .ref (ad (0))), (1, .int (k)), (2, .int (i))] := hl
  refine lv_aload_n B.1 B.2.1 dX8_bestAt_0 rfl (lv_at hl 0 rfl) ?_
  refine lv_iload_n B.1 B.2.1 dX8_bestAt_1 rfl (lv_at hl 1 rfl) ?_
  refine r_calli B hC hl.1 (0) 8 rfl rfl (by decide) hP (As := [.int (k)]) (ctX8_refusalOfBest l g lo ad hX okx (k := k)) gX8_bestAt_X8_refusalOfBest rfl (n := 1) rfl (by decide +kernel) ⟨Nat.le_of_ble_eq_true rfl, Nat.le_of_ble_eq_true rfl⟩ ⟨Nat.zero_le _, Nat.zero_le _⟩ rfl (Nat.le_of_ble_eq_true rfl) dX8_bestAt_2 (fun r2 F1 H locs hp2 hC => ?_)
  obtain ⟨er, eF⟩ := hp2
  subst er
  rw [eF] at hC
  by_cases q : is02 k = true
  · by_cases qs : su (xw x) = true
    · refine r_tI (y := (-3)) (by rw [if_pos q, if_pos qs]) ?_
      refine lv_istore_n (lv' := [(3, .int ((-3))), (0, .ref (ad (0))), (1, .int (k)), (2, .int (i))]) B.1 B.2.1 dX8_bestAt_5 rfl hl (by decide) rfl (fun ls hl => ?_)
      refine lv_iload_n B.1 B.2.1 dX8_bestAt_6 rfl (lv_at hl 0 rfl) ?_
      refine lv_if_eq (tgt := 12) B.1 B.2.1 dX8_bestAt_7 (by decide) (fun z => absurd z (by decide)) (fun _ => ?_)
      refine lv_iload_n B.1 B.2.1 dX8_bestAt_10 rfl (lv_at hl 0 rfl) ?_
      exact r_eI B hC (v := (-3)) (⟨by rw [bestAtA, if_pos q, if_pos qs], hX, Same.rf⟩) dX8_bestAt_11
    · refine r_tI (y := nI 0) (by rw [if_pos q, if_neg qs]) ?_
      have q2 := q
      simp only [is02, Bool.or_eq_true, decide_eq_true_eq] at q2
      rcases q2 with ek | ek | ek
      · refine lv_istore_n (lv' := [(3, .int (nI 0)), (0, .ref (ad (0))), (1, .int (k)), (2, .int (i))]) B.1 B.2.1 dX8_bestAt_5 rfl hl (by decide) rfl (fun ls hl => ?_)
        refine lv_iload_n B.1 B.2.1 dX8_bestAt_6 rfl (lv_at hl 0 rfl) ?_
        refine lv_if_eq (tgt := 12) B.1 B.2.1 dX8_bestAt_7 (by decide) (fun _ => ?_) (fun z => absurd (by decide) z)
        refine lv_aload_n B.1 B.2.1 dX8_bestAt_12 rfl (lv_at hl 1 rfl) ?_
        refine r_cg B hC (i := 0) (by decide) hP (C := RX8) (T := TX8) (n := 8) rfl iwX8_bestAt_X8 7 (by decide) (index := 59) flX8_bestAt_59 rfl (v := .ref (ad (155))) rfl dX8_bestAt_13 ?_
        refine lv_aload_n B.1 B.2.1 dX8_bestAt_16 rfl (lv_at hl 1 rfl) ?_
        refine r_cg B hC (i := 0) (by decide) hP (C := RX8) (T := TX8) (n := 8) rfl iwX8_bestAt_X8 2 (by decide) (index := 26) flX8_bestAt_26 rfl (v := .ref (ad (8))) rfl dX8_bestAt_17 ?_
        refine lv_iload_n B.1 B.2.1 dX8_bestAt_20 rfl (lv_at hl 2 rfl) ?_
        refine r_tI (y := nI 0) (ek) ?_
        refine r_calli B hC hl.1 (155) 5 rfl rfl (by decide) (hQ.1) (As := [.ref (ad (8)), .int (nI 0)]) (ctX5_leastLeak0 l g lo ad hH okH hL okL hR okR hQ) gX8_bestAt_X5_leastLeak rfl (n := 2) rfl (by decide +kernel) ⟨Nat.le_of_ble_eq_true rfl, Nat.le_of_ble_eq_true rfl⟩ ⟨Nat.zero_le _, Nat.zero_le _⟩ rfl (Nat.le_of_ble_eq_true rfl) dX8_bestAt_21 (fun r21 F1 H locs hp21 hC => ?_)
        obtain ⟨fo2, v2, er, hQ_F1, hFn, hR_F1, ok2, hs_F1⟩ := hp21
        subst er
        refine lv_pop B.1 B.2.1 dX8_bestAt_24 rfl ?_
        refine lv_aload_n B.1 B.2.1 dX8_bestAt_25 rfl (lv_at hl 1 rfl) ?_
        refine r_cg B hC (i := 0) (by decide) (TopC.at hP (fun i h1 h2 => by rw [hs_F1 i (by omega)])) (C := RX8) (T := TX8) (n := 8) rfl iwX8_bestAt_X8 7 (by decide) (index := 59) flX8_bestAt_59 rfl (v := .ref (ad (155))) rfl dX8_bestAt_26 ?_
        refine lv_iload_n B.1 B.2.1 dX8_bestAt_29 rfl (lv_at hl 3 rfl) ?_
        refine r_calli B hC hl.1 (155) 5 rfl rfl (by decide) (hQ_F1.1) (As := [.int (i)]) (ctX5_foundMove l g lo ad hQ_F1 hFn (x := i)) gX8_bestAt_X5_foundMove rfl (n := 1) rfl (by decide +kernel) ⟨Nat.le_of_ble_eq_true rfl, Nat.le_of_ble_eq_true rfl⟩ ⟨Nat.zero_le _, Nat.zero_le _⟩ rfl (Nat.le_of_ble_eq_true rfl) dX8_bestAt_30 (fun r30 F2 H locs hp30 hC => ?_)
        obtain ⟨er, eF⟩ := hp30
        subst er
        rw [eF] at hC
        exact r_eI B hC (v := oI (fndAt (bestV (xh x) (xw x) 0).2 i)) (⟨by rw [bestAtA, if_pos q, if_neg qs, ek, ix_n (by decide)], ⟨(TopC.at hP (fun i h1 h2 => by rw [hs_F1 i (by omega)])), (TextC.at hT (fun i h1 h2 => by rw [hs_F1 i (by omega)])), (HullC.at hH (fun i h1 h2 => by rw [hs_F1 i (by omega)])), (LoadC.at hL (fun i h1 h2 => by rw [hs_F1 i (by omega)])), (ActC.keep hA (fun i h1 h2 => by rw [hs_F1 i (by omega)])), (SlotC.keep hS (fun i h1 h2 => by rw [hs_F1 i (by omega)])), ⟨_, (LoadC.at hW (fun i h1 h2 => by rw [hs_F1 i (by omega)])), hct⟩, ⟨_, (ChC.at hCh (fun i h1 h2 => by rw [hs_F1 i (by omega)]))⟩, ⟨_, _, hQ_F1⟩, _, hR_F1, ok2⟩, (fun i hi => by rw [hs_F1 i (by omega)])⟩) dX8_bestAt_33
      · refine lv_istore_n (lv' := [(3, .int (nI 0)), (0, .ref (ad (0))), (1, .int (k)), (2, .int (i))]) B.1 B.2.1 dX8_bestAt_5 rfl hl (by decide) rfl (fun ls hl => ?_)
        refine lv_iload_n B.1 B.2.1 dX8_bestAt_6 rfl (lv_at hl 0 rfl) ?_
        refine lv_if_eq (tgt := 12) B.1 B.2.1 dX8_bestAt_7 (by decide) (fun _ => ?_) (fun z => absurd (by decide) z)
        refine lv_aload_n B.1 B.2.1 dX8_bestAt_12 rfl (lv_at hl 1 rfl) ?_
        refine r_cg B hC (i := 0) (by decide) hP (C := RX8) (T := TX8) (n := 8) rfl iwX8_bestAt_X8 7 (by decide) (index := 59) flX8_bestAt_59 rfl (v := .ref (ad (155))) rfl dX8_bestAt_13 ?_
        refine lv_aload_n B.1 B.2.1 dX8_bestAt_16 rfl (lv_at hl 1 rfl) ?_
        refine r_cg B hC (i := 0) (by decide) hP (C := RX8) (T := TX8) (n := 8) rfl iwX8_bestAt_X8 2 (by decide) (index := 26) flX8_bestAt_26 rfl (v := .ref (ad (8))) rfl dX8_bestAt_17 ?_
        refine lv_iload_n B.1 B.2.1 dX8_bestAt_20 rfl (lv_at hl 2 rfl) ?_
        refine r_tI (y := nI 1) (ek) ?_
        refine r_calli B hC hl.1 (155) 5 rfl rfl (by decide) (hQ.1) (As := [.ref (ad (8)), .int (nI 1)]) (ctX5_leastLeak1 l g lo ad hH okH hL okL hR okR hQ) gX8_bestAt_X5_leastLeak rfl (n := 2) rfl (by decide +kernel) ⟨Nat.le_of_ble_eq_true rfl, Nat.le_of_ble_eq_true rfl⟩ ⟨Nat.zero_le _, Nat.zero_le _⟩ rfl (Nat.le_of_ble_eq_true rfl) dX8_bestAt_21 (fun r21 F1 H locs hp21 hC => ?_)
        obtain ⟨fo2, v2, er, hQ_F1, hFn, hR_F1, ok2, hs_F1⟩ := hp21
        subst er
        refine lv_pop B.1 B.2.1 dX8_bestAt_24 rfl ?_
        refine lv_aload_n B.1 B.2.1 dX8_bestAt_25 rfl (lv_at hl 1 rfl) ?_
        refine r_cg B hC (i := 0) (by decide) (TopC.at hP (fun i h1 h2 => by rw [hs_F1 i (by omega)])) (C := RX8) (T := TX8) (n := 8) rfl iwX8_bestAt_X8 7 (by decide) (index := 59) flX8_bestAt_59 rfl (v := .ref (ad (155))) rfl dX8_bestAt_26 ?_
        refine lv_iload_n B.1 B.2.1 dX8_bestAt_29 rfl (lv_at hl 3 rfl) ?_
        refine r_calli B hC hl.1 (155) 5 rfl rfl (by decide) (hQ_F1.1) (As := [.int (i)]) (ctX5_foundMove l g lo ad hQ_F1 hFn (x := i)) gX8_bestAt_X5_foundMove rfl (n := 1) rfl (by decide +kernel) ⟨Nat.le_of_ble_eq_true rfl, Nat.le_of_ble_eq_true rfl⟩ ⟨Nat.zero_le _, Nat.zero_le _⟩ rfl (Nat.le_of_ble_eq_true rfl) dX8_bestAt_30 (fun r30 F2 H locs hp30 hC => ?_)
        obtain ⟨er, eF⟩ := hp30
        subst er
        rw [eF] at hC
        exact r_eI B hC (v := oI (fndAt (bestV (xh x) (xw x) 1).2 i)) (⟨by rw [bestAtA, if_pos q, if_neg qs, ek, ix_n (by decide)], ⟨(TopC.at hP (fun i h1 h2 => by rw [hs_F1 i (by omega)])), (TextC.at hT (fun i h1 h2 => by rw [hs_F1 i (by omega)])), (HullC.at hH (fun i h1 h2 => by rw [hs_F1 i (by omega)])), (LoadC.at hL (fun i h1 h2 => by rw [hs_F1 i (by omega)])), (ActC.keep hA (fun i h1 h2 => by rw [hs_F1 i (by omega)])), (SlotC.keep hS (fun i h1 h2 => by rw [hs_F1 i (by omega)])), ⟨_, (LoadC.at hW (fun i h1 h2 => by rw [hs_F1 i (by omega)])), hct⟩, ⟨_, (ChC.at hCh (fun i h1 h2 => by rw [hs_F1 i (by omega)]))⟩, ⟨_, _, hQ_F1⟩, _, hR_F1, ok2⟩, (fun i hi => by rw [hs_F1 i (by omega)])⟩) dX8_bestAt_33
      · refine lv_istore_n (lv' := [(3, .int (nI 0)), (0, .ref (ad (0))), (1, .int (k)), (2, .int (i))]) B.1 B.2.1 dX8_bestAt_5 rfl hl (by decide) rfl (fun ls hl => ?_)
        refine lv_iload_n B.1 B.2.1 dX8_bestAt_6 rfl (lv_at hl 0 rfl) ?_
        refine lv_if_eq (tgt := 12) B.1 B.2.1 dX8_bestAt_7 (by decide) (fun _ => ?_) (fun z => absurd (by decide) z)
        refine lv_aload_n B.1 B.2.1 dX8_bestAt_12 rfl (lv_at hl 1 rfl) ?_
        refine r_cg B hC (i := 0) (by decide) hP (C := RX8) (T := TX8) (n := 8) rfl iwX8_bestAt_X8 7 (by decide) (index := 59) flX8_bestAt_59 rfl (v := .ref (ad (155))) rfl dX8_bestAt_13 ?_
        refine lv_aload_n B.1 B.2.1 dX8_bestAt_16 rfl (lv_at hl 1 rfl) ?_
        refine r_cg B hC (i := 0) (by decide) hP (C := RX8) (T := TX8) (n := 8) rfl iwX8_bestAt_X8 2 (by decide) (index := 26) flX8_bestAt_26 rfl (v := .ref (ad (8))) rfl dX8_bestAt_17 ?_
        refine lv_iload_n B.1 B.2.1 dX8_bestAt_20 rfl (lv_at hl 2 rfl) ?_
        refine r_tI (y := nI 2) (ek) ?_
        refine r_calli B hC hl.1 (155) 5 rfl rfl (by decide) (hQ.1) (As := [.ref (ad (8)), .int (nI 2)]) (ctX5_leastLeak2 l g lo ad hH okH hL okL hR okR hQ) gX8_bestAt_X5_leastLeak rfl (n := 2) rfl (by decide +kernel) ⟨Nat.le_of_ble_eq_true rfl, Nat.le_of_ble_eq_true rfl⟩ ⟨Nat.zero_le _, Nat.zero_le _⟩ rfl (Nat.le_of_ble_eq_true rfl) dX8_bestAt_21 (fun r21 F1 H locs hp21 hC => ?_)
        obtain ⟨fo2, v2, er, hQ_F1, hFn, hR_F1, ok2, hs_F1⟩ := hp21
        subst er
        refine lv_pop B.1 B.2.1 dX8_bestAt_24 rfl ?_
        refine lv_aload_n B.1 B.2.1 dX8_bestAt_25 rfl (lv_at hl 1 rfl) ?_
        refine r_cg B hC (i := 0) (by decide) (TopC.at hP (fun i h1 h2 => by rw [hs_F1 i (by omega)])) (C := RX8) (T := TX8) (n := 8) rfl iwX8_bestAt_X8 7 (by decide) (index := 59) flX8_bestAt_59 rfl (v := .ref (ad (155))) rfl dX8_bestAt_26 ?_
        refine lv_iload_n B.1 B.2.1 dX8_bestAt_29 rfl (lv_at hl 3 rfl) ?_
        refine r_calli B hC hl.1 (155) 5 rfl rfl (by decide) (hQ_F1.1) (As := [.int (i)]) (ctX5_foundMove l g lo ad hQ_F1 hFn (x := i)) gX8_bestAt_X5_foundMove rfl (n := 1) rfl (by decide +kernel) ⟨Nat.le_of_ble_eq_true rfl, Nat.le_of_ble_eq_true rfl⟩ ⟨Nat.zero_le _, Nat.zero_le _⟩ rfl (Nat.le_of_ble_eq_true rfl) dX8_bestAt_30 (fun r30 F2 H locs hp30 hC => ?_)
        obtain ⟨er, eF⟩ := hp30
        subst er
        rw [eF] at hC
        exact r_eI B hC (v := oI (fndAt (bestV (xh x) (xw x) 2).2 i)) (⟨by rw [bestAtA, if_pos q, if_neg qs, ek, ix_n (by decide)], ⟨(TopC.at hP (fun i h1 h2 => by rw [hs_F1 i (by omega)])), (TextC.at hT (fun i h1 h2 => by rw [hs_F1 i (by omega)])), (HullC.at hH (fun i h1 h2 => by rw [hs_F1 i (by omega)])), (LoadC.at hL (fun i h1 h2 => by rw [hs_F1 i (by omega)])), (ActC.keep hA (fun i h1 h2 => by rw [hs_F1 i (by omega)])), (SlotC.keep hS (fun i h1 h2 => by rw [hs_F1 i (by omega)])), ⟨_, (LoadC.at hW (fun i h1 h2 => by rw [hs_F1 i (by omega)])), hct⟩, ⟨_, (ChC.at hCh (fun i h1 h2 => by rw [hs_F1 i (by omega)]))⟩, ⟨_, _, hQ_F1⟩, _, hR_F1, ok2⟩, (fun i hi => by rw [hs_F1 i (by omega)])⟩) dX8_bestAt_33
  · refine r_tI (y := (-2)) (by rw [if_neg q]) ?_
    refine lv_istore_n (lv' := [(3, .int ((-2))), (0, .ref (ad (0))), (1, .int (k)), (2, .int (i))]) B.1 B.2.1 dX8_bestAt_5 rfl hl (by decide) rfl (fun ls hl => ?_)
    refine lv_iload_n B.1 B.2.1 dX8_bestAt_6 rfl (lv_at hl 0 rfl) ?_
    refine lv_if_eq (tgt := 12) B.1 B.2.1 dX8_bestAt_7 (by decide) (fun z => absurd z (by decide)) (fun _ => ?_)
    refine lv_iload_n B.1 B.2.1 dX8_bestAt_10 rfl (lv_at hl 0 rfl) ?_
    exact r_eI B hC (v := (-2)) (⟨by rw [bestAtA, if_neg q], hX, Same.rf⟩) dX8_bestAt_11
theorem iwX8_port_X8 : ∀ w ∈ u_ws RX8 TX8 8, w ∈ wsX8_port := by decide +kernel
theorem flX8_port_26 : Cond.fieldLink RX8 26 RX8 (TX8 2).2.1 (TX8 2).2.2.1 ∈ wsX8_port := by decide +kernel
theorem flX8_port_59 : Cond.fieldLink RX8 59 RX8 (TX8 7).2.1 (TX8 7).2.2.1 ∈ wsX8_port := by decide +kernel
set_option maxHeartbeats 4000000 in
set_option maxRecDepth 100000 in
theorem ctX8_port (l : Launch) (g : Gx) (lo : Nat) (ad : Nat → Nat) {F : Nat → va_E} {x : XV} (hX : XC g ad F x) (okx : XOK x) {n : Int32} : MI l g lo 196 ad yX8_port wsX8_port 6 140 [.ref (ad (0)), .int (n)] F (fun r F' => r = portA x n ∧ XC g ad F' x ∧ Same 0 175 F F') := by
  obtain ⟨hP, hT, hH, hL, hA, hS, ⟨wt, hW, hct⟩, ⟨c, hCh⟩, ⟨fm, fo, hQ⟩, rv0, hR, okR⟩ := id hX
  obtain ⟨okT, okH, okL, okA, okS, okAu, okSu⟩ := id okx
  have okn := okH.1
  have okt := okT.1
  refine enter (cc := cX8_port) (maxL := 3) (ret := some .int) (own := RX8) (by decide +kernel) rfl rfl (Nat.le_of_ble_eq_true rfl) ?_
  intro pp ee ss mm below meth cc B hini hC ls hl
  have hl : lv_has ls 3 [(0, .ref (ad (0))), (1, .int (n))] := hl
  refine lv_aload_n B.1 B.2.1 dX8_port_0 rfl (lv_at hl 0 rfl) ?_
  refine lv_iload_n B.1 B.2.1 dX8_port_1 rfl (lv_at hl 1 rfl) ?_
  refine r_calli B hC hl.1 (0) 8 rfl rfl (by decide) hP (As := [.int (n)]) (ctX8_refusalOfPort l g lo ad hX okx (n := n)) gX8_port_X8_refusalOfPort rfl (n := 1) rfl (by decide +kernel) ⟨Nat.le_of_ble_eq_true rfl, Nat.le_of_ble_eq_true rfl⟩ ⟨Nat.zero_le _, Nat.zero_le _⟩ rfl (Nat.le_of_ble_eq_true rfl) dX8_port_2 (fun r2 F1 H locs hp2 hC => ?_)
  obtain ⟨er, eF⟩ := hp2
  subst er
  rw [eF] at hC
  by_cases q : is99 n = true
  · by_cases qs : su (xw x) = true
    · refine r_tI (y := (-3)) (by rw [if_pos q, if_pos qs]) ?_
      refine lv_istore_n (lv' := [(2, .int ((-3))), (0, .ref (ad (0))), (1, .int (n))]) B.1 B.2.1 dX8_port_5 rfl hl (by decide) rfl (fun ls hl => ?_)
      refine lv_iload_n B.1 B.2.1 dX8_port_6 rfl (lv_at hl 0 rfl) ?_
      refine lv_if_eq (tgt := 12) B.1 B.2.1 dX8_port_7 (by decide) (fun z => absurd z (by decide)) (fun _ => ?_)
      refine lv_iload_n B.1 B.2.1 dX8_port_10 rfl (lv_at hl 0 rfl) ?_
      exact r_eI B hC (v := (-3)) (⟨by rw [portA, if_pos q, if_pos qs], hX, Same.rf⟩) dX8_port_11
    · refine r_tI (y := nI 0) (by rw [if_pos q, if_neg qs]) ?_
      obtain ⟨j, hj1, hj9, ej⟩ := is99_t q
      refine lv_istore_n (lv' := [(2, .int (nI 0)), (0, .ref (ad (0))), (1, .int (n))]) B.1 B.2.1 dX8_port_5 rfl hl (by decide) rfl (fun ls hl => ?_)
      refine lv_iload_n B.1 B.2.1 dX8_port_6 rfl (lv_at hl 0 rfl) ?_
      refine lv_if_eq (tgt := 12) B.1 B.2.1 dX8_port_7 (by decide) (fun _ => ?_) (fun z => absurd (by decide) z)
      refine lv_aload_n B.1 B.2.1 dX8_port_12 rfl (lv_at hl 1 rfl) ?_
      refine r_cg B hC (i := 0) (by decide) hP (C := RX8) (T := TX8) (n := 8) rfl iwX8_port_X8 7 (by decide) (index := 59) flX8_port_59 rfl (v := .ref (ad (155))) rfl dX8_port_13 ?_
      refine lv_aload_n B.1 B.2.1 dX8_port_16 rfl (lv_at hl 1 rfl) ?_
      refine r_cg B hC (i := 0) (by decide) hP (C := RX8) (T := TX8) (n := 8) rfl iwX8_port_X8 2 (by decide) (index := 26) flX8_port_26 rfl (v := .ref (ad (8))) rfl dX8_port_17 ?_
      refine lv_iload_n B.1 B.2.1 dX8_port_20 rfl (lv_at hl 2 rfl) ?_
      refine r_tI (y := nI j) (ej) ?_
      refine r_calli B hC hl.1 (155) 5 rfl rfl (by decide) (hQ.1) (As := [.ref (ad (8)), .int (nI j)]) (ctX5_fewestMoves l g lo ad hH okH hL okL hR okR hQ hW hct (n := j) hj9) gX8_port_X5_fewestMoves rfl (n := 2) rfl (by decide +kernel) ⟨Nat.le_of_ble_eq_true rfl, Nat.le_of_ble_eq_true rfl⟩ ⟨Nat.zero_le _, Nat.zero_le _⟩ rfl (Nat.le_of_ble_eq_true rfl) dX8_port_21 (fun r21 F1 H locs hp21 hC => ?_)
      obtain ⟨fo2, v2, wt2, er, hQ_F1, hFn, hR_F1, ok2, hW_F1, hc2, hs_F1⟩ := hp21
      subst er
      exact r_eI B hC (v := oI ((portV (xh x) (xw x) j).map List.length)) (⟨by rw [portA, if_pos q, if_neg qs, ej, ix_n (by omega)], ⟨(TopC.at hP (fun i h1 h2 => by rw [hs_F1 i (by omega) (by omega)])), (TextC.at hT (fun i h1 h2 => by rw [hs_F1 i (by omega) (by omega)])), (HullC.at hH (fun i h1 h2 => by rw [hs_F1 i (by omega) (by omega)])), (LoadC.at hL (fun i h1 h2 => by rw [hs_F1 i (by omega) (by omega)])), (ActC.keep hA (fun i h1 h2 => by rw [hs_F1 i (by omega) (by omega)])), (SlotC.keep hS (fun i h1 h2 => by rw [hs_F1 i (by omega) (by omega)])), ⟨_, hW_F1, hc2⟩, ⟨_, (ChC.at hCh (fun i h1 h2 => by rw [hs_F1 i (by omega) (by omega)]))⟩, ⟨_, _, hQ_F1⟩, _, hR_F1, ok2⟩, (fun i hi => by rw [hs_F1 i (by omega) (by omega)])⟩) dX8_port_24
  · refine r_tI (y := (-2)) (by rw [if_neg q]) ?_
    refine lv_istore_n (lv' := [(2, .int ((-2))), (0, .ref (ad (0))), (1, .int (n))]) B.1 B.2.1 dX8_port_5 rfl hl (by decide) rfl (fun ls hl => ?_)
    refine lv_iload_n B.1 B.2.1 dX8_port_6 rfl (lv_at hl 0 rfl) ?_
    refine lv_if_eq (tgt := 12) B.1 B.2.1 dX8_port_7 (by decide) (fun z => absurd z (by decide)) (fun _ => ?_)
    refine lv_iload_n B.1 B.2.1 dX8_port_10 rfl (lv_at hl 0 rfl) ?_
    exact r_eI B hC (v := (-2)) (⟨by rw [portA, if_neg q], hX, Same.rf⟩) dX8_port_11
theorem iwX8_portAt_X8 : ∀ w ∈ u_ws RX8 TX8 8, w ∈ wsX8_portAt := by decide +kernel
theorem flX8_portAt_26 : Cond.fieldLink RX8 26 RX8 (TX8 2).2.1 (TX8 2).2.2.1 ∈ wsX8_portAt := by decide +kernel
theorem flX8_portAt_59 : Cond.fieldLink RX8 59 RX8 (TX8 7).2.1 (TX8 7).2.2.1 ∈ wsX8_portAt := by decide +kernel
set_option maxHeartbeats 4000000 in
set_option maxRecDepth 100000 in
theorem ctX8_portAt (l : Launch) (g : Gx) (lo : Nat) (ad : Nat → Nat) {F : Nat → va_E} {x : XV} (hX : XC g ad F x) (okx : XOK x) {n i : Int32} : MI l g lo 196 ad yX8_portAt wsX8_portAt 6 140 [.ref (ad (0)), .int (n), .int (i)] F (fun r F' => r = portAtA x n i ∧ XC g ad F' x ∧ Same 0 175 F F') := by
  obtain ⟨hP, hT, hH, hL, hA, hS, ⟨wt, hW, hct⟩, ⟨c, hCh⟩, ⟨fm, fo, hQ⟩, rv0, hR, okR⟩ := id hX
  obtain ⟨okT, okH, okL, okA, okS, okAu, okSu⟩ := id okx
  have okn := okH.1
  have okt := okT.1
  refine enter (cc := cX8_portAt) (maxL := 4) (ret := some .int) (own := RX8) (by decide +kernel) rfl rfl (Nat.le_of_ble_eq_true rfl) ?_
  intro pp ee ss mm below meth cc B hini hC ls hl
  have hl : lv_has ls 4 [(0, .ref (ad (0))), (1, .int (n)), (2, .int (i))] := hl
  refine lv_aload_n B.1 B.2.1 dX8_portAt_0 rfl (lv_at hl 0 rfl) ?_
  refine lv_iload_n B.1 B.2.1 dX8_portAt_1 rfl (lv_at hl 1 rfl) ?_
  refine r_calli B hC hl.1 (0) 8 rfl rfl (by decide) hP (As := [.int (n)]) (ctX8_refusalOfPort l g lo ad hX okx (n := n)) gX8_portAt_X8_refusalOfPort rfl (n := 1) rfl (by decide +kernel) ⟨Nat.le_of_ble_eq_true rfl, Nat.le_of_ble_eq_true rfl⟩ ⟨Nat.zero_le _, Nat.zero_le _⟩ rfl (Nat.le_of_ble_eq_true rfl) dX8_portAt_2 (fun r2 F1 H locs hp2 hC => ?_)
  obtain ⟨er, eF⟩ := hp2
  subst er
  rw [eF] at hC
  by_cases q : is99 n = true
  · by_cases qs : su (xw x) = true
    · refine r_tI (y := (-3)) (by rw [if_pos q, if_pos qs]) ?_
      refine lv_istore_n (lv' := [(3, .int ((-3))), (0, .ref (ad (0))), (1, .int (n)), (2, .int (i))]) B.1 B.2.1 dX8_portAt_5 rfl hl (by decide) rfl (fun ls hl => ?_)
      refine lv_iload_n B.1 B.2.1 dX8_portAt_6 rfl (lv_at hl 0 rfl) ?_
      refine lv_if_eq (tgt := 12) B.1 B.2.1 dX8_portAt_7 (by decide) (fun z => absurd z (by decide)) (fun _ => ?_)
      refine lv_iload_n B.1 B.2.1 dX8_portAt_10 rfl (lv_at hl 0 rfl) ?_
      exact r_eI B hC (v := (-3)) (⟨by rw [portAtA, if_pos q, if_pos qs], hX, Same.rf⟩) dX8_portAt_11
    · refine r_tI (y := nI 0) (by rw [if_pos q, if_neg qs]) ?_
      obtain ⟨j, hj1, hj9, ej⟩ := is99_t q
      refine lv_istore_n (lv' := [(3, .int (nI 0)), (0, .ref (ad (0))), (1, .int (n)), (2, .int (i))]) B.1 B.2.1 dX8_portAt_5 rfl hl (by decide) rfl (fun ls hl => ?_)
      refine lv_iload_n B.1 B.2.1 dX8_portAt_6 rfl (lv_at hl 0 rfl) ?_
      refine lv_if_eq (tgt := 12) B.1 B.2.1 dX8_portAt_7 (by decide) (fun _ => ?_) (fun z => absurd (by decide) z)
      refine lv_aload_n B.1 B.2.1 dX8_portAt_12 rfl (lv_at hl 1 rfl) ?_
      refine r_cg B hC (i := 0) (by decide) hP (C := RX8) (T := TX8) (n := 8) rfl iwX8_portAt_X8 7 (by decide) (index := 59) flX8_portAt_59 rfl (v := .ref (ad (155))) rfl dX8_portAt_13 ?_
      refine lv_aload_n B.1 B.2.1 dX8_portAt_16 rfl (lv_at hl 1 rfl) ?_
      refine r_cg B hC (i := 0) (by decide) hP (C := RX8) (T := TX8) (n := 8) rfl iwX8_portAt_X8 2 (by decide) (index := 26) flX8_portAt_26 rfl (v := .ref (ad (8))) rfl dX8_portAt_17 ?_
      refine lv_iload_n B.1 B.2.1 dX8_portAt_20 rfl (lv_at hl 2 rfl) ?_
      refine r_tI (y := nI j) (ej) ?_
      refine r_calli B hC hl.1 (155) 5 rfl rfl (by decide) (hQ.1) (As := [.ref (ad (8)), .int (nI j)]) (ctX5_fewestMoves l g lo ad hH okH hL okL hR okR hQ hW hct (n := j) hj9) gX8_portAt_X5_fewestMoves rfl (n := 2) rfl (by decide +kernel) ⟨Nat.le_of_ble_eq_true rfl, Nat.le_of_ble_eq_true rfl⟩ ⟨Nat.zero_le _, Nat.zero_le _⟩ rfl (Nat.le_of_ble_eq_true rfl) dX8_portAt_21 (fun r21 F1 H locs hp21 hC => ?_)
      obtain ⟨fo2, v2, wt2, er, hQ_F1, hFn, hR_F1, ok2, hW_F1, hc2, hs_F1⟩ := hp21
      subst er
      refine lv_pop B.1 B.2.1 dX8_portAt_24 rfl ?_
      refine lv_aload_n B.1 B.2.1 dX8_portAt_25 rfl (lv_at hl 1 rfl) ?_
      refine r_cg B hC (i := 0) (by decide) (TopC.at hP (fun i h1 h2 => by rw [hs_F1 i (by omega) (by omega)])) (C := RX8) (T := TX8) (n := 8) rfl iwX8_portAt_X8 7 (by decide) (index := 59) flX8_portAt_59 rfl (v := .ref (ad (155))) rfl dX8_portAt_26 ?_
      refine lv_iload_n B.1 B.2.1 dX8_portAt_29 rfl (lv_at hl 3 rfl) ?_
      refine r_calli B hC hl.1 (155) 5 rfl rfl (by decide) (hQ_F1.1) (As := [.int (i)]) (ctX5_foundMove l g lo ad hQ_F1 hFn (x := i)) gX8_portAt_X5_foundMove rfl (n := 1) rfl (by decide +kernel) ⟨Nat.le_of_ble_eq_true rfl, Nat.le_of_ble_eq_true rfl⟩ ⟨Nat.zero_le _, Nat.zero_le _⟩ rfl (Nat.le_of_ble_eq_true rfl) dX8_portAt_30 (fun r30 F2 H locs hp30 hC => ?_)
      obtain ⟨er, eF⟩ := hp30
      subst er
      rw [eF] at hC
      exact r_eI B hC (v := oI (fndAt ((portV (xh x) (xw x) j).getD []) i)) (⟨by rw [portAtA, if_pos q, if_neg qs, ej, ix_n (by omega)], ⟨(TopC.at hP (fun i h1 h2 => by rw [hs_F1 i (by omega) (by omega)])), (TextC.at hT (fun i h1 h2 => by rw [hs_F1 i (by omega) (by omega)])), (HullC.at hH (fun i h1 h2 => by rw [hs_F1 i (by omega) (by omega)])), (LoadC.at hL (fun i h1 h2 => by rw [hs_F1 i (by omega) (by omega)])), (ActC.keep hA (fun i h1 h2 => by rw [hs_F1 i (by omega) (by omega)])), (SlotC.keep hS (fun i h1 h2 => by rw [hs_F1 i (by omega) (by omega)])), ⟨_, hW_F1, hc2⟩, ⟨_, (ChC.at hCh (fun i h1 h2 => by rw [hs_F1 i (by omega) (by omega)]))⟩, ⟨_, _, hQ_F1⟩, _, hR_F1, ok2⟩, (fun i hi => by rw [hs_F1 i (by omega) (by omega)])⟩) dX8_portAt_33
  · refine r_tI (y := (-2)) (by rw [if_neg q]) ?_
    refine lv_istore_n (lv' := [(3, .int ((-2))), (0, .ref (ad (0))), (1, .int (n)), (2, .int (i))]) B.1 B.2.1 dX8_portAt_5 rfl hl (by decide) rfl (fun ls hl => ?_)
    refine lv_iload_n B.1 B.2.1 dX8_portAt_6 rfl (lv_at hl 0 rfl) ?_
    refine lv_if_eq (tgt := 12) B.1 B.2.1 dX8_portAt_7 (by decide) (fun z => absurd z (by decide)) (fun _ => ?_)
    refine lv_iload_n B.1 B.2.1 dX8_portAt_10 rfl (lv_at hl 0 rfl) ?_
    exact r_eI B hC (v := (-2)) (⟨by rw [portAtA, if_neg q], hX, Same.rf⟩) dX8_portAt_11
