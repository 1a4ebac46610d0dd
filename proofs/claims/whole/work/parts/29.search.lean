/-! SEARCH: what was found; BEST -/
theorem iwX5_foundMove_X5 : ∀ w ∈ u_ws RX5 TX5 5, w ∈ wsX5_foundMove := by decide +kernel
theorem flX5_foundMove_9 : Cond.fieldLink RX5 9 RX5 (TX5 3).2.1 (TX5 3).2.2.1 ∈ wsX5_foundMove := by decide +kernel
theorem flX5_foundMove_15 : Cond.fieldLink RX5 15 RX5 (TX5 4).2.1 (TX5 4).2.2.1 ∈ wsX5_foundMove := by decide +kernel
set_option maxHeartbeats 4000000 in
set_option maxRecDepth 100000 in
theorem ctX5_foundMove (l : Launch) (g : Gx) (lo : Nat) (ad : Nat → Nat) {F : Nat → va_E} {fm : Nat} {fo : Nat → Int32} (hS : SeaC g ad F fm fo) {fl : List Nat} (hfn : Fnd fo fm fl) {x : Int32} : MI l g lo 196 ad yX5_foundMove wsX5_foundMove 0 0 [.ref (ad (155)), .int (x)] F (fun r F' => r = oI (fndAt fl x) ∧ F' = F) := by
  obtain ⟨q0, q1⟩ := id hS
  have hfm := hfn.2.1
  refine enter (cc := cX5_foundMove) (maxL := 2) (ret := some .int) (own := RX5) (by decide +kernel) rfl rfl (Nat.le_of_ble_eq_true rfl) ?_
  intro pp ee ss mm below meth cc B hini hC ls hl
  have hl : lv_has ls 2 [(0, .ref (ad (155))), (1, .int (x))] := hl
  refine lv_iload_n B.1 B.2.1 dX5_foundMove_0 rfl (lv_at hl 1 rfl) ?_
  refine lv_if_lt (tgt := 30) B.1 B.2.1 dX5_foundMove_1 (by decide) (fun c_1 => ?_) (fun c_1 => ?_)
  · have q : fndAt fl x = none := if_neg (fun z => by have z1 := Int32.le_iff_toInt_le.mp z.1; rw [Int32.lt_iff_toInt_lt] at c_1; omega)
    refine lv_bipush (v := (-9)) B.1 B.2.1 dX5_foundMove_30 (by decide) ?_
    exact r_eI B hC (v := (-9)) (⟨by rw [q]; rfl, rfl⟩) dX5_foundMove_32
  · have qx0 : 0 ≤ x := by rw [Int32.le_iff_toInt_le]; rw [Int32.lt_iff_toInt_lt] at c_1; omega
    refine lv_iload_n B.1 B.2.1 dX5_foundMove_4 rfl (lv_at hl 1 rfl) ?_
    refine lv_aload_n B.1 B.2.1 dX5_foundMove_5 rfl (lv_at hl 0 rfl) ?_
    refine r_cg B hC (i := 155) (by decide) q0 (C := RX5) (T := TX5) (n := 5) rfl iwX5_foundMove_X5 4 (by decide) (index := 15) flX5_foundMove_15 rfl (v := .int (nI fm)) rfl dX5_foundMove_6 ?_
    refine lv_icmp_ge (tgt := 30) B.1 B.2.1 dX5_foundMove_9 (by decide) (fun c_9 => ?_) (fun c_9 => ?_)
    · have q : fndAt fl x = none := if_neg (fun z => by have z1 := Int32.lt_iff_toInt_lt.mp z.2; rw [hfn.1] at z1; rw [Int32.le_iff_toInt_le] at c_9; omega)
      refine lv_bipush (v := (-9)) B.1 B.2.1 dX5_foundMove_30 (by decide) ?_
      exact r_eI B hC (v := (-9)) (⟨by rw [q]; rfl, rfl⟩) dX5_foundMove_32
    · have q9 : x < nI fm := by rw [Int32.lt_iff_toInt_lt]; rw [Int32.le_iff_toInt_le] at c_9; omega
      have q1x : ¬ x < 0 := c_1
      obtain ⟨j, hj31, rfl⟩ := nI_of q1x
      have hj : j < fm := (nI_ltI hj31 (by omega)).mp q9
      have q : fndAt fl (nI j) = fl[j]? := by rw [fndAt, if_pos ⟨qx0, by rw [hfn.1]; exact q9⟩, nI_clamp hj31]
      refine lv_iload_n B.1 B.2.1 dX5_foundMove_12 rfl (lv_at hl 1 rfl) ?_
      refine lv_aload_n B.1 B.2.1 dX5_foundMove_13 rfl (lv_at hl 0 rfl) ?_
      refine r_cg B hC (i := 155) (by decide) q0 (C := RX5) (T := TX5) (n := 5) rfl iwX5_foundMove_X5 3 (by decide) (index := 9) flX5_foundMove_9 rfl (v := .ref (ad (156))) rfl dX5_foundMove_14 ?_
      refine r_calen B hC (i := 156) (by decide) q1 0 rfl (n := 2) rfl dX5_foundMove_17 ?_
      refine lv_icmp_ge (tgt := 30) B.1 B.2.1 dX5_foundMove_18 (by decide) (fun z => absurd z (nI_ge (by omega) (by omega))) (fun _ => ?_)
      refine lv_aload_n B.1 B.2.1 dX5_foundMove_21 rfl (lv_at hl 0 rfl) ?_
      refine r_cg B hC (i := 155) (by decide) q0 (C := RX5) (T := TX5) (n := 5) rfl iwX5_foundMove_X5 3 (by decide) (index := 9) flX5_foundMove_9 rfl (v := .ref (ad (156))) rfl dX5_foundMove_22 ?_
      refine lv_iload_n B.1 B.2.1 dX5_foundMove_25 rfl (lv_at hl 1 rfl) ?_
      refine r_cald B hC (i := 156) (by decide) q1 (j := j) (by omega) (by decide) dX5_foundMove_26 ?_
      refine r_tI (y := fo j) rfl ?_
      refine lv_goto (tgt := 32) B.1 B.2.1 dX5_foundMove_27 (by decide) ?_
      exact r_eI B hC (v := fo j) (⟨by rw [q]; exact hfn.2.2.2 j hj, rfl⟩) dX5_foundMove_32
theorem iwX5_leastLeak_X5 : ∀ w ∈ u_ws RX5 TX5 5, w ∈ wsX5_leastLeak := by decide +kernel
theorem flX5_leastLeak_15 : Cond.fieldLink RX5 15 RX5 (TX5 4).2.1 (TX5 4).2.2.1 ∈ wsX5_leastLeak := by decide +kernel
theorem flX5_leastLeak_19 : Cond.fieldLink RX5 19 RX5 (TX5 0).2.1 (TX5 0).2.2.1 ∈ wsX5_leastLeak := by decide +kernel
set_option maxHeartbeats 4000000 in
set_option maxRecDepth 100000 in
theorem ctX5_leastLeak0 (l : Launch) (g : Gx) (lo : Nat) (ad : Nat → Nat) {F : Nat → va_E} {h : HV} (hH : HullC g ad F h) (ok : HOK h) {w : LV} (hL : LoadC g ad F 8 w) (hw : LOK h w) {v : RV} (hR : RowsC g ad F v) (okR : ROK v) {fm : Nat} {fo : Nat → Int32} (hS : SeaC g ad F fm fo) : MI l g lo 196 ad yX5_leastLeak wsX5_leastLeak 5 116 [.ref (ad (155)), .ref (ad (8)), .int (nI 0)] F (fun r F' => ∃ fo' v', r = nI (bestV h w 0).1 ∧ SeaC g ad F' (bestV h w 0).2.length fo' ∧ Fnd fo' (bestV h w 0).2.length (bestV h w 0).2 ∧ RowsC g ad F' v' ∧ ROK v' ∧ Same 155 175 F F') := by
  obtain ⟨g0, g1, g2, g3, g4⟩ := id hH
  have okn := ok.1
  have okp := ok.2.1
  have okh := ok.2.2.1
  obtain ⟨r0, r1, r2, rL⟩ := id hR
  obtain ⟨q0, q1⟩ := id hS
  have hlk := leakV_le (w := w) ok
  refine enter (cc := cX5_leastLeak) (maxL := 7) (ret := some .int) (own := RX5) (by decide +kernel) rfl rfl (Nat.le_of_ble_eq_true rfl) ?_
  intro pp ee ss mm below meth cc B hini hC ls hl
  have hl : lv_has ls 7 [(0, .ref (ad (155))), (1, .ref (ad (8))), (2, .int (nI 0))] := hl
  refine lv_aload_n B.1 B.2.1 dX5_leastLeak_0 rfl (lv_at hl 0 rfl) ?_
  refine r_cg B hC (i := 155) (by decide) q0 (C := RX5) (T := TX5) (n := 5) rfl iwX5_leastLeak_X5 0 (by decide) (index := 19) flX5_leastLeak_19 rfl (v := .ref (ad (3))) rfl dX5_leastLeak_1 ?_
  refine lv_aload_n B.1 B.2.1 dX5_leastLeak_4 rfl (lv_at hl 1 rfl) ?_
  refine r_calli B hC hl.1 (3) 2 rfl rfl (by decide) g0 (As := [.ref (ad (8))]) (ctX2_leakOf l g lo ad (HullC.keep hH (x := 155) (y := 175) (fun i hi => by rfl) (by decide)) ok (b := 8) (by decide) (hL.at (fun i h1 h2 => by rfl)) hw) gX5_leastLeak_X2_leakOf rfl (n := 1) rfl (by decide +kernel) ⟨Nat.le_of_ble_eq_true rfl, Nat.le_of_ble_eq_true rfl⟩ ⟨Nat.zero_le _, Nat.zero_le _⟩ rfl (Nat.le_of_ble_eq_true rfl) dX5_leastLeak_5 (fun r5 F1 H locs hp5 hC => ?_)
  obtain ⟨er, eF⟩ := hp5
  subst er
  rw [eF] at hC
  refine lv_istore_n (lv' := [(3, .int (nI (leakV h w))), (0, .ref (ad (155))), (1, .ref (ad (8))), (2, .int (nI 0))]) B.1 B.2.1 dX5_leastLeak_8 rfl hl (by decide) rfl (fun ls hl => ?_)
  refine lv_aload_n B.1 B.2.1 dX5_leastLeak_9 rfl (lv_at hl 1 rfl) ?_
  refine lv_iconst (v := nI 0) B.1 B.2.1 dX5_leastLeak_10 (by decide) ?_
  refine r_cp B hC (i := 155) (by decide) q0 tyX5 tyX5_ok nmX5 (C := RX5) (T := TX5) rfl iwX5_leastLeak_X5 4 (by decide) (index := 15) flX5_leastLeak_15 rfl rfl (v := .int (nI 0)) (rfl) (rfl) (Nat.le_of_ble_eq_true rfl) dX5_leastLeak_11 ?_
  intro H locs hC
  obtain ⟨F1, eF1⟩ : ∃ f : Nat → va_E, f = va_up F (155) (.inr (5, [.ref (ad (3)), .ref (ad (13)), .ref (ad (157)), .ref (ad (156)), .int (nI 0)])) := ⟨_, rfl⟩
  have hC : Cu g lo 196 ad F1 ss ss.heap H locs := by rw [eF1]; exact hC
  have k155_F1 : F1 155 = .inr (5, [.ref (ad (3)), .ref (ad (13)), .ref (ad (157)), .ref (ad (156)), .int (nI 0)]) := by rw [eF1]; exact va_up_self _ _ _
  have g0_F1 : F1 3 = .inr (2, [.ref (ad (4)), .ref (ad (5)), .ref (ad (6)), .ref (ad (7)), .int (nI (hn h)), .int (nI (hpu h)), .int (nI (hho h))]) := by rw [eF1, va_up_ne _ _ (by decide)]; exact g0
  have q1_F1 : F1 156 = .inl (g.2.2 0, 2, .inl (fo)) := by rw [eF1, va_up_ne _ _ (by decide)]; exact q1
  have r0_F1 : F1 157 = .inr (4, [.ref (ad (3)), .ref (ad (158)), .ref (ad (159)), .int (nI (rmv v)), .int (bI (rbg v))]) := by rw [eF1, va_up_ne _ _ (by decide)]; exact r0
  refine lv_iconst (v := nI 1) B.1 B.2.1 dX5_leastLeak_14 (by decide) ?_
  refine lv_istore (lv' := [(4, .int (nI 1)), (3, .int (nI (leakV h w))), (0, .ref (ad (155))), (1, .ref (ad (8))), (2, .int (nI 0))]) B.1 B.2.1 dX5_leastLeak_15 hl (by decide) rfl (fun ls hl => ?_)
  refine lv_iload B.1 B.2.1 dX5_leastLeak_17 (lv_at hl 0 rfl) ?_
  refine lv_iload_n B.1 B.2.1 dX5_leastLeak_19 rfl (lv_at hl 4 rfl) ?_
  refine lv_icmp_gt (tgt := 113) B.1 B.2.1 dX5_leastLeak_20 (by decide) (fun _ => ?_) (fun z => absurd (nI_lt (by omega) (by omega)) z)
  refine lv_iload_n B.1 B.2.1 dX5_leastLeak_113 rfl (lv_at hl 1 rfl) ?_
  exact r_eI B hC (v := nI (leakV h w)) (⟨fo, v, rfl, ⟨k155_F1, q1_F1⟩, ⟨rfl, Nat.zero_le _, fun x hx => (by cases hx), fun j hj => absurd hj (Nat.not_lt_zero _)⟩, hR.keep (fun i h1 h2 => by rw [eF1, va_up_ne _ _ (by omega)]), okR, fun i hi => by rw [eF1, va_up_ne _ _ (by omega)]⟩) dX5_leastLeak_114
theorem flX5_leastLeak_9 : Cond.fieldLink RX5 9 RX5 (TX5 3).2.1 (TX5 3).2.2.1 ∈ wsX5_leastLeak := by decide +kernel
theorem flX5_leastLeak_32 : Cond.fieldLink RX5 32 RX5 (TX5 2).2.1 (TX5 2).2.2.1 ∈ wsX5_leastLeak := by decide +kernel
set_option maxHeartbeats 4000000 in
set_option maxRecDepth 100000 in
theorem ctX5_leastLeak1 (l : Launch) (g : Gx) (lo : Nat) (ad : Nat → Nat) {F : Nat → va_E} {h : HV} (hH : HullC g ad F h) (ok : HOK h) {w : LV} (hL : LoadC g ad F 8 w) (hw : LOK h w) {v : RV} (hR : RowsC g ad F v) (okR : ROK v) {fm : Nat} {fo : Nat → Int32} (hS : SeaC g ad F fm fo) : MI l g lo 196 ad yX5_leastLeak wsX5_leastLeak 5 116 [.ref (ad (155)), .ref (ad (8)), .int (nI 1)] F (fun r F' => ∃ fo' v', r = nI (bestV h w 1).1 ∧ SeaC g ad F' (bestV h w 1).2.length fo' ∧ Fnd fo' (bestV h w 1).2.length (bestV h w 1).2 ∧ RowsC g ad F' v' ∧ ROK v' ∧ Same 155 175 F F') := by
  obtain ⟨g0, g1, g2, g3, g4⟩ := id hH
  have okn := ok.1
  have okp := ok.2.1
  have okh := ok.2.2.1
  obtain ⟨r0, r1, r2, rL⟩ := id hR
  obtain ⟨q0, q1⟩ := id hS
  have hlk := leakV_le (w := w) ok
  refine enter (cc := cX5_leastLeak) (maxL := 7) (ret := some .int) (own := RX5) (by decide +kernel) rfl rfl (Nat.le_of_ble_eq_true rfl) ?_
  intro pp ee ss mm below meth cc B hini hC ls hl
  have hl : lv_has ls 7 [(0, .ref (ad (155))), (1, .ref (ad (8))), (2, .int (nI 1))] := hl
  refine lv_aload_n B.1 B.2.1 dX5_leastLeak_0 rfl (lv_at hl 0 rfl) ?_
  refine r_cg B hC (i := 155) (by decide) q0 (C := RX5) (T := TX5) (n := 5) rfl iwX5_leastLeak_X5 0 (by decide) (index := 19) flX5_leastLeak_19 rfl (v := .ref (ad (3))) rfl dX5_leastLeak_1 ?_
  refine lv_aload_n B.1 B.2.1 dX5_leastLeak_4 rfl (lv_at hl 1 rfl) ?_
  refine r_calli B hC hl.1 (3) 2 rfl rfl (by decide) g0 (As := [.ref (ad (8))]) (ctX2_leakOf l g lo ad (HullC.keep hH (x := 155) (y := 175) (fun i hi => by rfl) (by decide)) ok (b := 8) (by decide) (hL.at (fun i h1 h2 => by rfl)) hw) gX5_leastLeak_X2_leakOf rfl (n := 1) rfl (by decide +kernel) ⟨Nat.le_of_ble_eq_true rfl, Nat.le_of_ble_eq_true rfl⟩ ⟨Nat.zero_le _, Nat.zero_le _⟩ rfl (Nat.le_of_ble_eq_true rfl) dX5_leastLeak_5 (fun r5 F1 H locs hp5 hC => ?_)
  obtain ⟨er, eF⟩ := hp5
  subst er
  rw [eF] at hC
  refine lv_istore_n (lv' := [(3, .int (nI (leakV h w))), (0, .ref (ad (155))), (1, .ref (ad (8))), (2, .int (nI 1))]) B.1 B.2.1 dX5_leastLeak_8 rfl hl (by decide) rfl (fun ls hl => ?_)
  refine lv_aload_n B.1 B.2.1 dX5_leastLeak_9 rfl (lv_at hl 1 rfl) ?_
  refine lv_iconst (v := nI 0) B.1 B.2.1 dX5_leastLeak_10 (by decide) ?_
  refine r_cp B hC (i := 155) (by decide) q0 tyX5 tyX5_ok nmX5 (C := RX5) (T := TX5) rfl iwX5_leastLeak_X5 4 (by decide) (index := 15) flX5_leastLeak_15 rfl rfl (v := .int (nI 0)) (rfl) (rfl) (Nat.le_of_ble_eq_true rfl) dX5_leastLeak_11 ?_
  intro H locs hC
  obtain ⟨F1, eF1⟩ : ∃ f : Nat → va_E, f = va_up F (155) (.inr (5, [.ref (ad (3)), .ref (ad (13)), .ref (ad (157)), .ref (ad (156)), .int (nI 0)])) := ⟨_, rfl⟩
  have hC : Cu g lo 196 ad F1 ss ss.heap H locs := by rw [eF1]; exact hC
  have k155_F1 : F1 155 = .inr (5, [.ref (ad (3)), .ref (ad (13)), .ref (ad (157)), .ref (ad (156)), .int (nI 0)]) := by rw [eF1]; exact va_up_self _ _ _
  have g0_F1 : F1 3 = .inr (2, [.ref (ad (4)), .ref (ad (5)), .ref (ad (6)), .ref (ad (7)), .int (nI (hn h)), .int (nI (hpu h)), .int (nI (hho h))]) := by rw [eF1, va_up_ne _ _ (by decide)]; exact g0
  have q1_F1 : F1 156 = .inl (g.2.2 0, 2, .inl (fo)) := by rw [eF1, va_up_ne _ _ (by decide)]; exact q1
  have r0_F1 : F1 157 = .inr (4, [.ref (ad (3)), .ref (ad (158)), .ref (ad (159)), .int (nI (rmv v)), .int (bI (rbg v))]) := by rw [eF1, va_up_ne _ _ (by decide)]; exact r0
  refine lv_iconst (v := nI 1) B.1 B.2.1 dX5_leastLeak_14 (by decide) ?_
  refine lv_istore (lv' := [(4, .int (nI 1)), (3, .int (nI (leakV h w))), (0, .ref (ad (155))), (1, .ref (ad (8))), (2, .int (nI 1))]) B.1 B.2.1 dX5_leastLeak_15 hl (by decide) rfl (fun ls hl => ?_)
  refine lv_iload B.1 B.2.1 dX5_leastLeak_17 (lv_at hl 0 rfl) ?_
  refine lv_iload_n B.1 B.2.1 dX5_leastLeak_19 rfl (lv_at hl 4 rfl) ?_
  refine lv_icmp_gt (tgt := 113) B.1 B.2.1 dX5_leastLeak_20 (by decide) (fun z => absurd z (nI_nlt (by omega) (by omega))) (fun _ => ?_)
  refine lv_iload B.1 B.2.1 dX5_leastLeak_23 (lv_at hl 0 rfl) ?_
  refine lv_iconst (v := nI 2) B.1 B.2.1 dX5_leastLeak_25 (by decide) ?_
  refine lv_icmp_gt (tgt := 113) B.1 B.2.1 dX5_leastLeak_26 (by decide) (fun z => absurd z (nI_nlt (by omega) (by omega))) (fun _ => ?_)
  refine lv_aload_n B.1 B.2.1 dX5_leastLeak_29 rfl (lv_at hl 2 rfl) ?_
  refine r_cg B hC (i := 155) (by decide) k155_F1 (C := RX5) (T := TX5) (n := 5) rfl iwX5_leastLeak_X5 2 (by decide) (index := 32) flX5_leastLeak_32 rfl (v := .ref (ad (157))) rfl dX5_leastLeak_30 ?_
  refine lv_aload_n B.1 B.2.1 dX5_leastLeak_33 rfl (lv_at hl 3 rfl) ?_
  refine lv_iload B.1 B.2.1 dX5_leastLeak_34 (lv_at hl 0 rfl) ?_
  refine r_callv B hC hl.1 (157) 4 rfl rfl (by decide) r0_F1 (As := [.ref (ad (8)), .int (nI 1)]) (ctX4_begin l g lo ad (RowsC.keep hR (fun i h1 h2 => by rw [eF1, va_up_ne _ _ (by omega)])) okR (hL.at (fun i h1 h2 => by rw [eF1, va_up_ne _ _ (by omega)])) hw.can (e := 1) (by decide)) gX5_leastLeak_X4_begin rfl (n := 2) rfl (by decide +kernel) ⟨Nat.le_of_ble_eq_true rfl, Nat.le_of_ble_eq_true rfl⟩ ⟨Nat.zero_le _, Nat.zero_le _⟩ rfl (Nat.le_of_ble_eq_true rfl) dX5_leastLeak_36 (fun F2 H locs hp36 hC => ?_)
  obtain ⟨hR_F2, hs_F2⟩ := hp36
  have ok_F2 : ROK (1, false, rro v, va_up (rst v) 0 w) := ROK_up (a := 0) (b := true) (r := rro v) okR rfl hw.can _ _ _
  have hI_F2 : RIt h w (1, false, rro v, va_up (rst v) 0 w) (rowsV h w 1) := ⟨hw, (show va_up (rst v) 0 w 0 = w from va_up_self _ _ _), ok_F2, (show 1 ≤ 2 by decide), Or.inl ⟨rfl, rfl⟩⟩
  obtain ⟨r0_F2, r1_F2, r2_F2, rL_F2⟩ := id hR_F2
  have g0_F2 : F2 3 = .inr (2, [.ref (ad (4)), .ref (ad (5)), .ref (ad (6)), .ref (ad (7)), .int (nI (hn h)), .int (nI (hpu h)), .int (nI (hho h))]) := (hs_F2 _ (by omega)).trans g0_F1
  have k155_F2 : F2 155 = .inr (5, [.ref (ad (3)), .ref (ad (13)), .ref (ad (157)), .ref (ad (156)), .int (nI 0)]) := (hs_F2 _ (by omega)).trans k155_F1
  have q1_F2 : F2 156 = .inl (g.2.2 0, 2, .inl (fo)) := (hs_F2 _ (by omega)).trans q1_F1
  refine lv_iconst (v := nI 0) B.1 B.2.1 dX5_leastLeak_39 (by decide) ?_
  refine lv_istore (lv' := [(5, .int (nI 0)), (4, .int (nI 1)), (3, .int (nI (leakV h w))), (0, .ref (ad (155))), (1, .ref (ad (8))), (2, .int (nI 1))]) B.1 B.2.1 dX5_leastLeak_40 hl (by decide) rfl (fun ls hl => ?_)
  have loop1 : ∀ (k : Nat) (i a fmv : Nat) (fl : List Nat) (fov : Nat → Int32) (rem : List (List Nat)) (u : RV) (G : Nat → va_E), (rem.length < k) → (i + k ≤ 20000) → (a ≤ 90) → (RowsC g ad G u) → (RIt h w u rem) → (rmv u = 1) → (SeaC g ad G fmv fov) → (Fnd fov fmv fl) → (bestF h w rem (a, fl) = bestV h w 1) → (Same 155 175 F G) → ∀ (H : Heap) (locs : List Loc) (ls : Array Slot), Cu g lo 196 ad G ss ss.heap H locs → lv_has ls 7 [(5, .int (nI i)), (4, .int (nI 1)), (3, .int (nI a)), (0, .ref (ad (155))), (1, .ref (ad (8))), (2, .int (nI 1))] → W pp l ee { frames := 5, cells := 0, slots := 0, locals := 116 } ss mm ([.ref (ad (155)), .ref (ad (8)), .int (nI 1)] : List Value).toArray below meth cc H locs 0 0 (MQ below (va_Qi (fun r F' => ∃ fo' v', r = nI (bestV h w 1).1 ∧ SeaC g ad F' (bestV h w 1).2.length fo' ∧ Fnd fo' (bestV h w 1).2.length (bestV h w 1).2 ∧ RowsC g ad F' v' ∧ ROK v' ∧ Same 155 175 F F') (fun F' t => Wd g lo 196 ad F' t) (fun q => lo ≤ q)) ([.ref (ad (155)), .ref (ad (8)), .int (nI 1)] : List Value).toArray ss 0 0 (fun q => lo ≤ q)) (F0 mm 42 ls []) := by
    intro k
    induction k with
    | zero => intro i a fmv fl fov rem u G hlt hi ha hRG hI hmu hSG hfn he hs; exact absurd hlt (Nat.not_lt_zero _)
    | succ k ih1 =>
      intro i a fmv fl fov rem u G hlt hi ha hRG hI hmu hSG hfn he hs H locs ls hC hl
      obtain ⟨r0, r1, r2, rL⟩ := id hRG
      obtain ⟨q0, q1⟩ := id hSG
      have g0G : G 3 = .inr (2, [.ref (ad (4)), .ref (ad (5)), .ref (ad (6)), .ref (ad (7)), .int (nI (hn h)), .int (nI (hpu h)), .int (nI (hho h))]) := (hs 3 (by omega)).trans g0
      refine lv_iload B.1 B.2.1 dX5_leastLeak_42 (lv_at hl 0 rfl) ?_
      refine lv_ldc (own := RX5) (v := nI 1000000) B.1 B.2.1 B.2.2.2.1 (B.2.2.2.2.1 (.constant RX5 46 (1000000)) (by decide +kernel)) dX5_leastLeak_44 ?_
      refine lv_icmp_ge (tgt := 107) B.1 B.2.1 dX5_leastLeak_46 (by decide) (fun z => absurd z (nI_ge (by omega) (by omega))) (fun _ => ?_)
      refine lv_aload_n B.1 B.2.1 dX5_leastLeak_49 rfl (lv_at hl 3 rfl) ?_
      refine r_cg B hC (i := 155) (by decide) q0 (C := RX5) (T := TX5) (n := 5) rfl iwX5_leastLeak_X5 2 (by decide) (index := 32) flX5_leastLeak_32 rfl (v := .ref (ad (157))) rfl dX5_leastLeak_50 ?_
      refine r_calli B hC hl.1 (157) 4 rfl rfl (by decide) r0 (As := []) (ctX4_next l g lo ad (HullC.keep hH (x := 155) (y := 175) (fun i hi => by rw [hs i (by omega)]) (by decide)) ok hRG hI) gX5_leastLeak_X4_next rfl (n := 0) rfl (by decide +kernel) ⟨Nat.le_of_ble_eq_true rfl, Nat.le_of_ble_eq_true rfl⟩ ⟨Nat.zero_le _, Nat.zero_le _⟩ rfl (Nat.le_of_ble_eq_true rfl) dX5_leastLeak_53 (fun r53 F21 H locs hp53 hC => ?_)
      rcases hp53 with ⟨hs_F21, ⟨er, hrem, v1, hR_F21, ok_F21, hmv1, -⟩ | ⟨e1, es, v1, er, hrem, hR_F21, hI_F21, hCu, hmv1⟩⟩
      · subst er
        obtain ⟨r0_F21, r1_F21, r2_F21, rL_F21⟩ := id hR_F21
        have g0G_F21 : F21 3 = .inr (2, [.ref (ad (4)), .ref (ad (5)), .ref (ad (6)), .ref (ad (7)), .int (nI (hn h)), .int (nI (hpu h)), .int (nI (hho h))]) := (hs_F21 _ (by omega)).trans g0G
        have q0_F21 : F21 155 = .inr (5, [.ref (ad (3)), .ref (ad (13)), .ref (ad (157)), .ref (ad (156)), .int (nI fmv)]) := (hs_F21 _ (by omega)).trans q0
        have q1_F21 : F21 156 = .inl (g.2.2 0, 2, .inl (fov)) := (hs_F21 _ (by omega)).trans q1
        refine lv_if_eq (tgt := 107) B.1 B.2.1 dX5_leastLeak_56 (by decide) (fun _ => ?_) (fun z => absurd (by decide) z)
        have hb : bestV h w 1 = (a, fl) := by rw [← he, hrem]; rfl
        refine lv_iinc (v := nI 2) (lv' := [(4, .int (nI 2)), (5, .int (nI i)), (3, .int (nI a)), (0, .ref (ad (155))), (1, .ref (ad (8))), (2, .int (nI 1))]) B.1 B.2.1 dX5_leastLeak_107 hl (k := 1) rfl (by decide) (by decide) rfl (fun ls hl => ?_)
        refine lv_goto (tgt := 17) B.1 B.2.1 dX5_leastLeak_110 (by decide) ?_
        refine lv_iload B.1 B.2.1 dX5_leastLeak_17 (lv_at hl 0 rfl) ?_
        refine lv_iload_n B.1 B.2.1 dX5_leastLeak_19 rfl (lv_at hl 5 rfl) ?_
        refine lv_icmp_gt (tgt := 113) B.1 B.2.1 dX5_leastLeak_20 (by decide) (fun _ => ?_) (fun z => absurd (nI_lt (by omega) (by omega)) z)
        refine lv_iload_n B.1 B.2.1 dX5_leastLeak_113 rfl (lv_at hl 2 rfl) ?_
        exact r_eI B hC (v := nI a) (⟨fov, v1, by rw [hb], by rw [hb]; exact ⟨by rw [hfn.1]; exact q0_F21, q1_F21⟩, by rw [hb]; exact hfn.1.symm ▸ hfn, hR_F21, ok_F21, fun i hi => by rw [hs_F21 i (by omega)]; rw [hs i (by omega)]⟩) dX5_leastLeak_114
      · subst er
        obtain ⟨r0_F21, r1_F21, r2_F21, rL_F21⟩ := id hR_F21
        have ok_F21 := hI_F21.2.2.1
        have g0G_F21 : F21 3 = .inr (2, [.ref (ad (4)), .ref (ad (5)), .ref (ad (6)), .ref (ad (7)), .int (nI (hn h)), .int (nI (hpu h)), .int (nI (hho h))]) := (hs_F21 _ (by omega)).trans g0G
        have q0_F21 : F21 155 = .inr (5, [.ref (ad (3)), .ref (ad (13)), .ref (ad (157)), .ref (ad (156)), .int (nI fmv)]) := (hs_F21 _ (by omega)).trans q0
        have q1_F21 : F21 156 = .inl (g.2.2 0, 2, .inl (fov)) := (hs_F21 _ (by omega)).trans q1
        refine lv_if_eq (tgt := 107) B.1 B.2.1 dX5_leastLeak_56 (by decide) (fun z => absurd z (by decide)) (fun _ => ?_)
        refine lv_aload_n B.1 B.2.1 dX5_leastLeak_59 rfl (lv_at hl 3 rfl) ?_
        refine r_cg B hC (i := 155) (by decide) q0_F21 (C := RX5) (T := TX5) (n := 5) rfl iwX5_leastLeak_X5 0 (by decide) (index := 19) flX5_leastLeak_19 rfl (v := .ref (ad (3))) rfl dX5_leastLeak_60 ?_
        refine lv_aload_n B.1 B.2.1 dX5_leastLeak_63 rfl (lv_at hl 3 rfl) ?_
        refine r_cg B hC (i := 155) (by decide) q0_F21 (C := RX5) (T := TX5) (n := 5) rfl iwX5_leastLeak_X5 2 (by decide) (index := 32) flX5_leastLeak_32 rfl (v := .ref (ad (157))) rfl dX5_leastLeak_64 ?_
        have hm2 : rmv v1 ≤ 2 := by omega
        refine r_callr B hC hl.1 (157) 4 rfl rfl (by decide) r0_F21 (As := []) (ctX4_end l g lo ad hR_F21 hm2) gX5_leastLeak_X4_end rfl (n := 0) rfl (by decide +kernel) ⟨Nat.le_of_ble_eq_true rfl, Nat.le_of_ble_eq_true rfl⟩ ⟨Nat.zero_le _, Nat.zero_le _⟩ rfl (Nat.le_of_ble_eq_true rfl) dX5_leastLeak_67 (fun H locs hC => ?_)
        have hEn : LoadC g ad F21 (160 + 5 * rmv v1) (endV h w e1) := by have z := hR_F21.2.2.2 (rmv v1) (by omega); rw [hCu.2.2.1] at z; exact z
        have lokE := hCu.2.2.2.1
        refine r_calli B hC hl.1 (3) 2 rfl rfl (by decide) g0G_F21 (As := [.ref (ad ((160 + 5 * rmv v1)))]) (ctX2_leakOf l g lo ad (HullC.keep hH (x := 155) (y := 175) (fun i hi => by rw [hs_F21 i (by omega)]; rw [hs i (by omega)]) (by decide)) ok (b := 160 + 5 * rmv v1) (by omega) hEn lokE) gX5_leastLeak_X2_leakOf rfl (n := 1) rfl (by decide +kernel) ⟨Nat.le_of_ble_eq_true rfl, Nat.le_of_ble_eq_true rfl⟩ ⟨Nat.zero_le _, Nat.zero_le _⟩ rfl (Nat.le_of_ble_eq_true rfl) dX5_leastLeak_70 (fun r70 F22 H locs hp70 hC => ?_)
        obtain ⟨er, eF⟩ := hp70
        subst er
        rw [eF] at hC
        have hlE := leakV_le (w := endV h w e1) ok
        refine lv_istore (lv' := [(6, .int (nI (leakV h (endV h w e1)))), (5, .int (nI i)), (4, .int (nI 1)), (3, .int (nI a)), (0, .ref (ad (155))), (1, .ref (ad (8))), (2, .int (nI 1))]) B.1 B.2.1 dX5_leastLeak_73 hl (by decide) rfl (fun ls hl => ?_)
        refine lv_iload B.1 B.2.1 dX5_leastLeak_75 (lv_at hl 0 rfl) ?_
        refine lv_iload_n B.1 B.2.1 dX5_leastLeak_77 rfl (lv_at hl 3 rfl) ?_
        refine lv_icmp_ge (tgt := 101) B.1 B.2.1 dX5_leastLeak_78 (by decide) (fun c_78 => ?_) (fun c_78 => ?_)
        · have q_78 : a ≤ (leakV h (endV h w e1)) := (nI_leI (by omega) (by omega)).mp c_78
          refine lv_iinc (v := nI (i + 1)) (lv' := [(5, .int (nI (i + 1))), (6, .int (nI (leakV h (endV h w e1)))), (4, .int (nI 1)), (3, .int (nI a)), (0, .ref (ad (155))), (1, .ref (ad (8))), (2, .int (nI 1))]) B.1 B.2.1 dX5_leastLeak_101 hl (k := 1) rfl (nI_1 _) (by decide) rfl (fun ls hl => ?_)
          refine lv_goto (tgt := 42) B.1 B.2.1 dX5_leastLeak_104 (by decide) ?_
          exact ih1 (i + 1) a fmv fl fov es v1 F21 (by rw [hrem, List.length_cons] at hlt; omega) (by omega) ha hR_F21 hI_F21 (hmv1.trans hmu) ⟨q0_F21, q1_F21⟩ hfn (by rw [← he, hrem, bestF, best1, if_neg (by show ¬ leakV h (endV h w e1) < a; omega)]) (fun i hi => by rw [hs_F21 i (by omega)]; rw [hs i (by omega)]) _ _ ls hC (lv_sub hl [0, 2, 3, 4, 5, 6] rfl)
        · have q_78 : ¬ a ≤ (leakV h (endV h w e1)) := fun z => c_78 ((nI_leI (by omega) (by omega)).mpr z)
          refine lv_iload B.1 B.2.1 dX5_leastLeak_81 (lv_at hl 0 rfl) ?_
          refine lv_istore_n (lv' := [(3, .int (nI (leakV h (endV h w e1)))), (6, .int (nI (leakV h (endV h w e1)))), (5, .int (nI i)), (4, .int (nI 1)), (0, .ref (ad (155))), (1, .ref (ad (8))), (2, .int (nI 1))]) B.1 B.2.1 dX5_leastLeak_83 rfl hl (by decide) rfl (fun ls hl => ?_)
          refine lv_aload_n B.1 B.2.1 dX5_leastLeak_84 rfl (lv_at hl 4 rfl) ?_
          refine lv_iload B.1 B.2.1 dX5_leastLeak_85 (lv_at hl 3 rfl) ?_
          refine r_cp B hC (i := 155) (by decide) q0_F21 tyX5 tyX5_ok nmX5 (C := RX5) (T := TX5) rfl iwX5_leastLeak_X5 4 (by decide) (index := 15) flX5_leastLeak_15 rfl rfl (v := .int (nI 1)) (rfl) (rfl) (Nat.le_of_ble_eq_true rfl) dX5_leastLeak_87 ?_
          intro H locs hC
          obtain ⟨F22, eF22⟩ : ∃ f : Nat → va_E, f = va_up F21 (155) (.inr (5, [.ref (ad (3)), .ref (ad (13)), .ref (ad (157)), .ref (ad (156)), .int (nI 1)])) := ⟨_, rfl⟩
          have hC : Cu g lo 196 ad F22 ss ss.heap H locs := by rw [eF22]; exact hC
          have k155_F22 : F22 155 = .inr (5, [.ref (ad (3)), .ref (ad (13)), .ref (ad (157)), .ref (ad (156)), .int (nI 1)]) := by rw [eF22]; exact va_up_self _ _ _
          have g0G_F22 : F22 3 = .inr (2, [.ref (ad (4)), .ref (ad (5)), .ref (ad (6)), .ref (ad (7)), .int (nI (hn h)), .int (nI (hpu h)), .int (nI (hho h))]) := by rw [eF22, va_up_ne _ _ (by decide)]; exact g0G_F21
          have q1_F22 : F22 156 = .inl (g.2.2 0, 2, .inl (fov)) := by rw [eF22, va_up_ne _ _ (by decide)]; exact q1_F21
          have r0_F22 : F22 157 = .inr (4, [.ref (ad (3)), .ref (ad (158)), .ref (ad (159)), .int (nI (rmv v1)), .int (bI (rbg v1))]) := by rw [eF22, va_up_ne _ _ (by decide)]; exact r0_F21
          refine lv_aload_n B.1 B.2.1 dX5_leastLeak_90 rfl (lv_at hl 4 rfl) ?_
          refine r_cg B hC (i := 155) (by decide) k155_F22 (C := RX5) (T := TX5) (n := 5) rfl iwX5_leastLeak_X5 2 (by decide) (index := 32) flX5_leastLeak_32 rfl (v := .ref (ad (157))) rfl dX5_leastLeak_91 ?_
          refine lv_aload_n B.1 B.2.1 dX5_leastLeak_94 rfl (lv_at hl 4 rfl) ?_
          refine r_cg B hC (i := 155) (by decide) k155_F22 (C := RX5) (T := TX5) (n := 5) rfl iwX5_leastLeak_X5 3 (by decide) (index := 9) flX5_leastLeak_9 rfl (v := .ref (ad (156))) rfl dX5_leastLeak_95 ?_
          refine r_callv B hC hl.1 (157) 4 rfl rfl (by decide) r0_F22 (As := [.ref (ad (156))]) (ctX4_copyTo l g lo ad (RowsC.keep hR_F21 (fun i h1 h2 => by rw [eF22, va_up_ne _ _ (by omega)])) (by omega) (fo := fov) q1_F22) gX5_leastLeak_X4_copyTo rfl (n := 1) rfl (by decide +kernel) ⟨Nat.le_of_ble_eq_true rfl, Nat.le_of_ble_eq_true rfl⟩ ⟨Nat.zero_le _, Nat.zero_le _⟩ rfl (Nat.le_of_ble_eq_true rfl) dX5_leastLeak_98 (fun F23 H locs hp98 hC => ?_)
          obtain ⟨q1_F23, hs_F23⟩ := hp98
          have g0G_F23 : F23 3 = .inr (2, [.ref (ad (4)), .ref (ad (5)), .ref (ad (6)), .ref (ad (7)), .int (nI (hn h)), .int (nI (hpu h)), .int (nI (hho h))]) := (hs_F23 _ (by omega)).trans g0G_F22
          have k155_F23 : F23 155 = .inr (5, [.ref (ad (3)), .ref (ad (13)), .ref (ad (157)), .ref (ad (156)), .int (nI 1)]) := (hs_F23 _ (by omega)).trans k155_F22
          have r0_F23 : F23 157 = .inr (4, [.ref (ad (3)), .ref (ad (158)), .ref (ad (159)), .int (nI (rmv v1)), .int (bI (rbg v1))]) := (hs_F23 _ (by omega)).trans r0_F22
          refine lv_iinc (v := nI (i + 1)) (lv' := [(5, .int (nI (i + 1))), (3, .int (nI (leakV h (endV h w e1)))), (6, .int (nI (leakV h (endV h w e1)))), (4, .int (nI 1)), (0, .ref (ad (155))), (1, .ref (ad (8))), (2, .int (nI 1))]) B.1 B.2.1 dX5_leastLeak_101 hl (k := 2) rfl (nI_1 _) (by decide) rfl (fun ls hl => ?_)
          refine lv_goto (tgt := 42) B.1 B.2.1 dX5_leastLeak_104 (by decide) ?_
          exact ih1 (i + 1) (leakV h (endV h w e1)) (rmv v1) e1 (va_cpy (fun j => y1 (rro v1 j)) fov 0 0 (rmv v1)) es v1 F23 (by rw [hrem, List.length_cons] at hlt; omega) (by omega) hlE (RowsC.keep hR_F21 (fun i h1 h2 => by rw [hs_F23 i (by omega)]; rw [eF22, va_up_ne _ _ (by omega)])) hI_F21 (hmv1.trans hmu) ⟨by rw [hmv1, hmu]; exact k155_F23, q1_F23⟩ (Fnd_of hCu hm2) (by rw [← he, hrem, bestF, best1, if_pos (by show leakV h (endV h w e1) < a; omega)]) (fun i hi => by rw [hs_F23 i (by omega)]; rw [eF22, va_up_ne _ _ (by omega)]; rw [hs_F21 i (by omega)]; rw [hs i (by omega)]) _ _ ls hC (lv_sub hl [0, 3, 1, 4, 5, 6] rfl)
  exact loop1 10001 0 (leakV h w) 0 [] fo (rowsV h w 1) (1, false, rro v, va_up (rst v) 0 w) F2 (Nat.lt_succ_of_le (rowsV_len h w 1)) (by decide) hlk hR_F2 hI_F2 rfl ⟨k155_F2, q1_F2⟩ ⟨rfl, Nat.zero_le _, fun x hx => (by cases hx), fun j hj => absurd hj (Nat.not_lt_zero _)⟩ rfl (fun i hi => by rw [hs_F2 i (by omega)]; rw [eF1, va_up_ne _ _ (by omega)]) _ _ ls hC (lv_sub hl [0, 1, 2, 3, 4, 5] rfl)
set_option maxHeartbeats 4000000 in
set_option maxRecDepth 100000 in
theorem ctX5_leastLeak2 (l : Launch) (g : Gx) (lo : Nat) (ad : Nat → Nat) {F : Nat → va_E} {h : HV} (hH : HullC g ad F h) (ok : HOK h) {w : LV} (hL : LoadC g ad F 8 w) (hw : LOK h w) {v : RV} (hR : RowsC g ad F v) (okR : ROK v) {fm : Nat} {fo : Nat → Int32} (hS : SeaC g ad F fm fo) : MI l g lo 196 ad yX5_leastLeak wsX5_leastLeak 5 116 [.ref (ad (155)), .ref (ad (8)), .int (nI 2)] F (fun r F' => ∃ fo' v', r = nI (bestV h w 2).1 ∧ SeaC g ad F' (bestV h w 2).2.length fo' ∧ Fnd fo' (bestV h w 2).2.length (bestV h w 2).2 ∧ RowsC g ad F' v' ∧ ROK v' ∧ Same 155 175 F F') := by
  obtain ⟨g0, g1, g2, g3, g4⟩ := id hH
  have okn := ok.1
  have okp := ok.2.1
  have okh := ok.2.2.1
  obtain ⟨r0, r1, r2, rL⟩ := id hR
  obtain ⟨q0, q1⟩ := id hS
  have hlk := leakV_le (w := w) ok
  refine enter (cc := cX5_leastLeak) (maxL := 7) (ret := some .int) (own := RX5) (by decide +kernel) rfl rfl (Nat.le_of_ble_eq_true rfl) ?_
  intro pp ee ss mm below meth cc B hini hC ls hl
  have hl : lv_has ls 7 [(0, .ref (ad (155))), (1, .ref (ad (8))), (2, .int (nI 2))] := hl
  refine lv_aload_n B.1 B.2.1 dX5_leastLeak_0 rfl (lv_at hl 0 rfl) ?_
  refine r_cg B hC (i := 155) (by decide) q0 (C := RX5) (T := TX5) (n := 5) rfl iwX5_leastLeak_X5 0 (by decide) (index := 19) flX5_leastLeak_19 rfl (v := .ref (ad (3))) rfl dX5_leastLeak_1 ?_
  refine lv_aload_n B.1 B.2.1 dX5_leastLeak_4 rfl (lv_at hl 1 rfl) ?_
  refine r_calli B hC hl.1 (3) 2 rfl rfl (by decide) g0 (As := [.ref (ad (8))]) (ctX2_leakOf l g lo ad (HullC.keep hH (x := 155) (y := 175) (fun i hi => by rfl) (by decide)) ok (b := 8) (by decide) (hL.at (fun i h1 h2 => by rfl)) hw) gX5_leastLeak_X2_leakOf rfl (n := 1) rfl (by decide +kernel) ⟨Nat.le_of_ble_eq_true rfl, Nat.le_of_ble_eq_true rfl⟩ ⟨Nat.zero_le _, Nat.zero_le _⟩ rfl (Nat.le_of_ble_eq_true rfl) dX5_leastLeak_5 (fun r5 F1 H locs hp5 hC => ?_)
  obtain ⟨er, eF⟩ := hp5
  subst er
  rw [eF] at hC
  refine lv_istore_n (lv' := [(3, .int (nI (leakV h w))), (0, .ref (ad (155))), (1, .ref (ad (8))), (2, .int (nI 2))]) B.1 B.2.1 dX5_leastLeak_8 rfl hl (by decide) rfl (fun ls hl => ?_)
  refine lv_aload_n B.1 B.2.1 dX5_leastLeak_9 rfl (lv_at hl 1 rfl) ?_
  refine lv_iconst (v := nI 0) B.1 B.2.1 dX5_leastLeak_10 (by decide) ?_
  refine r_cp B hC (i := 155) (by decide) q0 tyX5 tyX5_ok nmX5 (C := RX5) (T := TX5) rfl iwX5_leastLeak_X5 4 (by decide) (index := 15) flX5_leastLeak_15 rfl rfl (v := .int (nI 0)) (rfl) (rfl) (Nat.le_of_ble_eq_true rfl) dX5_leastLeak_11 ?_
  intro H locs hC
  obtain ⟨F1, eF1⟩ : ∃ f : Nat → va_E, f = va_up F (155) (.inr (5, [.ref (ad (3)), .ref (ad (13)), .ref (ad (157)), .ref (ad (156)), .int (nI 0)])) := ⟨_, rfl⟩
  have hC : Cu g lo 196 ad F1 ss ss.heap H locs := by rw [eF1]; exact hC
  have k155_F1 : F1 155 = .inr (5, [.ref (ad (3)), .ref (ad (13)), .ref (ad (157)), .ref (ad (156)), .int (nI 0)]) := by rw [eF1]; exact va_up_self _ _ _
  have g0_F1 : F1 3 = .inr (2, [.ref (ad (4)), .ref (ad (5)), .ref (ad (6)), .ref (ad (7)), .int (nI (hn h)), .int (nI (hpu h)), .int (nI (hho h))]) := by rw [eF1, va_up_ne _ _ (by decide)]; exact g0
  have q1_F1 : F1 156 = .inl (g.2.2 0, 2, .inl (fo)) := by rw [eF1, va_up_ne _ _ (by decide)]; exact q1
  have r0_F1 : F1 157 = .inr (4, [.ref (ad (3)), .ref (ad (158)), .ref (ad (159)), .int (nI (rmv v)), .int (bI (rbg v))]) := by rw [eF1, va_up_ne _ _ (by decide)]; exact r0
  refine lv_iconst (v := nI 1) B.1 B.2.1 dX5_leastLeak_14 (by decide) ?_
  refine lv_istore (lv' := [(4, .int (nI 1)), (3, .int (nI (leakV h w))), (0, .ref (ad (155))), (1, .ref (ad (8))), (2, .int (nI 2))]) B.1 B.2.1 dX5_leastLeak_15 hl (by decide) rfl (fun ls hl => ?_)
  refine lv_iload B.1 B.2.1 dX5_leastLeak_17 (lv_at hl 0 rfl) ?_
  refine lv_iload_n B.1 B.2.1 dX5_leastLeak_19 rfl (lv_at hl 4 rfl) ?_
  refine lv_icmp_gt (tgt := 113) B.1 B.2.1 dX5_leastLeak_20 (by decide) (fun z => absurd z (nI_nlt (by omega) (by omega))) (fun _ => ?_)
  refine lv_iload B.1 B.2.1 dX5_leastLeak_23 (lv_at hl 0 rfl) ?_
  refine lv_iconst (v := nI 2) B.1 B.2.1 dX5_leastLeak_25 (by decide) ?_
  refine lv_icmp_gt (tgt := 113) B.1 B.2.1 dX5_leastLeak_26 (by decide) (fun z => absurd z (nI_nlt (by omega) (by omega))) (fun _ => ?_)
  refine lv_aload_n B.1 B.2.1 dX5_leastLeak_29 rfl (lv_at hl 2 rfl) ?_
  refine r_cg B hC (i := 155) (by decide) k155_F1 (C := RX5) (T := TX5) (n := 5) rfl iwX5_leastLeak_X5 2 (by decide) (index := 32) flX5_leastLeak_32 rfl (v := .ref (ad (157))) rfl dX5_leastLeak_30 ?_
  refine lv_aload_n B.1 B.2.1 dX5_leastLeak_33 rfl (lv_at hl 3 rfl) ?_
  refine lv_iload B.1 B.2.1 dX5_leastLeak_34 (lv_at hl 0 rfl) ?_
  refine r_callv B hC hl.1 (157) 4 rfl rfl (by decide) r0_F1 (As := [.ref (ad (8)), .int (nI 1)]) (ctX4_begin l g lo ad (RowsC.keep hR (fun i h1 h2 => by rw [eF1, va_up_ne _ _ (by omega)])) okR (hL.at (fun i h1 h2 => by rw [eF1, va_up_ne _ _ (by omega)])) hw.can (e := 1) (by decide)) gX5_leastLeak_X4_begin rfl (n := 2) rfl (by decide +kernel) ⟨Nat.le_of_ble_eq_true rfl, Nat.le_of_ble_eq_true rfl⟩ ⟨Nat.zero_le _, Nat.zero_le _⟩ rfl (Nat.le_of_ble_eq_true rfl) dX5_leastLeak_36 (fun F2 H locs hp36 hC => ?_)
  obtain ⟨hR_F2, hs_F2⟩ := hp36
  have ok_F2 : ROK (1, false, rro v, va_up (rst v) 0 w) := ROK_up (a := 0) (b := true) (r := rro v) okR rfl hw.can _ _ _
  have hI_F2 : RIt h w (1, false, rro v, va_up (rst v) 0 w) (rowsV h w 1) := ⟨hw, (show va_up (rst v) 0 w 0 = w from va_up_self _ _ _), ok_F2, (show 1 ≤ 2 by decide), Or.inl ⟨rfl, rfl⟩⟩
  obtain ⟨r0_F2, r1_F2, r2_F2, rL_F2⟩ := id hR_F2
  have g0_F2 : F2 3 = .inr (2, [.ref (ad (4)), .ref (ad (5)), .ref (ad (6)), .ref (ad (7)), .int (nI (hn h)), .int (nI (hpu h)), .int (nI (hho h))]) := (hs_F2 _ (by omega)).trans g0_F1
  have k155_F2 : F2 155 = .inr (5, [.ref (ad (3)), .ref (ad (13)), .ref (ad (157)), .ref (ad (156)), .int (nI 0)]) := (hs_F2 _ (by omega)).trans k155_F1
  have q1_F2 : F2 156 = .inl (g.2.2 0, 2, .inl (fo)) := (hs_F2 _ (by omega)).trans q1_F1
  refine lv_iconst (v := nI 0) B.1 B.2.1 dX5_leastLeak_39 (by decide) ?_
  refine lv_istore (lv' := [(5, .int (nI 0)), (4, .int (nI 1)), (3, .int (nI (leakV h w))), (0, .ref (ad (155))), (1, .ref (ad (8))), (2, .int (nI 2))]) B.1 B.2.1 dX5_leastLeak_40 hl (by decide) rfl (fun ls hl => ?_)
  have loop1 : ∀ (k : Nat) (i a fmv : Nat) (fl : List Nat) (fov : Nat → Int32) (rem : List (List Nat)) (u : RV) (G : Nat → va_E), (rem.length < k) → (i + k ≤ 20000) → (a ≤ 90) → (RowsC g ad G u) → (RIt h w u rem) → (rmv u = 1) → (SeaC g ad G fmv fov) → (Fnd fov fmv fl) → (bestF h w rem (a, fl) = bestV h w 1) → (Same 155 175 F G) → ∀ (H : Heap) (locs : List Loc) (ls : Array Slot), Cu g lo 196 ad G ss ss.heap H locs → lv_has ls 7 [(5, .int (nI i)), (4, .int (nI 1)), (3, .int (nI a)), (0, .ref (ad (155))), (1, .ref (ad (8))), (2, .int (nI 2))] → W pp l ee { frames := 5, cells := 0, slots := 0, locals := 116 } ss mm ([.ref (ad (155)), .ref (ad (8)), .int (nI 2)] : List Value).toArray below meth cc H locs 0 0 (MQ below (va_Qi (fun r F' => ∃ fo' v', r = nI (bestV h w 2).1 ∧ SeaC g ad F' (bestV h w 2).2.length fo' ∧ Fnd fo' (bestV h w 2).2.length (bestV h w 2).2 ∧ RowsC g ad F' v' ∧ ROK v' ∧ Same 155 175 F F') (fun F' t => Wd g lo 196 ad F' t) (fun q => lo ≤ q)) ([.ref (ad (155)), .ref (ad (8)), .int (nI 2)] : List Value).toArray ss 0 0 (fun q => lo ≤ q)) (F0 mm 42 ls []) := by
    intro k
    induction k with
    | zero => intro i a fmv fl fov rem u G hlt hi ha hRG hI hmu hSG hfn he hs; exact absurd hlt (Nat.not_lt_zero _)
    | succ k ih1 =>
      intro i a fmv fl fov rem u G hlt hi ha hRG hI hmu hSG hfn he hs H locs ls hC hl
      obtain ⟨r0, r1, r2, rL⟩ := id hRG
      obtain ⟨q0, q1⟩ := id hSG
      have g0G : G 3 = .inr (2, [.ref (ad (4)), .ref (ad (5)), .ref (ad (6)), .ref (ad (7)), .int (nI (hn h)), .int (nI (hpu h)), .int (nI (hho h))]) := (hs 3 (by omega)).trans g0
      refine lv_iload B.1 B.2.1 dX5_leastLeak_42 (lv_at hl 0 rfl) ?_
      refine lv_ldc (own := RX5) (v := nI 1000000) B.1 B.2.1 B.2.2.2.1 (B.2.2.2.2.1 (.constant RX5 46 (1000000)) (by decide +kernel)) dX5_leastLeak_44 ?_
      refine lv_icmp_ge (tgt := 107) B.1 B.2.1 dX5_leastLeak_46 (by decide) (fun z => absurd z (nI_ge (by omega) (by omega))) (fun _ => ?_)
      refine lv_aload_n B.1 B.2.1 dX5_leastLeak_49 rfl (lv_at hl 3 rfl) ?_
      refine r_cg B hC (i := 155) (by decide) q0 (C := RX5) (T := TX5) (n := 5) rfl iwX5_leastLeak_X5 2 (by decide) (index := 32) flX5_leastLeak_32 rfl (v := .ref (ad (157))) rfl dX5_leastLeak_50 ?_
      refine r_calli B hC hl.1 (157) 4 rfl rfl (by decide) r0 (As := []) (ctX4_next l g lo ad (HullC.keep hH (x := 155) (y := 175) (fun i hi => by rw [hs i (by omega)]) (by decide)) ok hRG hI) gX5_leastLeak_X4_next rfl (n := 0) rfl (by decide +kernel) ⟨Nat.le_of_ble_eq_true rfl, Nat.le_of_ble_eq_true rfl⟩ ⟨Nat.zero_le _, Nat.zero_le _⟩ rfl (Nat.le_of_ble_eq_true rfl) dX5_leastLeak_53 (fun r53 F21 H locs hp53 hC => ?_)
      rcases hp53 with ⟨hs_F21, ⟨er, hrem, v1, hR_F21, ok_F21, hmv1, -⟩ | ⟨e1, es, v1, er, hrem, hR_F21, hI_F21, hCu, hmv1⟩⟩
      · subst er
        obtain ⟨r0_F21, r1_F21, r2_F21, rL_F21⟩ := id hR_F21
        have g0G_F21 : F21 3 = .inr (2, [.ref (ad (4)), .ref (ad (5)), .ref (ad (6)), .ref (ad (7)), .int (nI (hn h)), .int (nI (hpu h)), .int (nI (hho h))]) := (hs_F21 _ (by omega)).trans g0G
        have q0_F21 : F21 155 = .inr (5, [.ref (ad (3)), .ref (ad (13)), .ref (ad (157)), .ref (ad (156)), .int (nI fmv)]) := (hs_F21 _ (by omega)).trans q0
        have q1_F21 : F21 156 = .inl (g.2.2 0, 2, .inl (fov)) := (hs_F21 _ (by omega)).trans q1
        refine lv_if_eq (tgt := 107) B.1 B.2.1 dX5_leastLeak_56 (by decide) (fun _ => ?_) (fun z => absurd (by decide) z)
        have hb : bestV h w 1 = (a, fl) := by rw [← he, hrem]; rfl
        refine lv_iinc (v := nI 2) (lv' := [(4, .int (nI 2)), (5, .int (nI i)), (3, .int (nI a)), (0, .ref (ad (155))), (1, .ref (ad (8))), (2, .int (nI 2))]) B.1 B.2.1 dX5_leastLeak_107 hl (k := 1) rfl (by decide) (by decide) rfl (fun ls hl => ?_)
        refine lv_goto (tgt := 17) B.1 B.2.1 dX5_leastLeak_110 (by decide) ?_
        refine lv_iload B.1 B.2.1 dX5_leastLeak_17 (lv_at hl 0 rfl) ?_
        refine lv_iload_n B.1 B.2.1 dX5_leastLeak_19 rfl (lv_at hl 5 rfl) ?_
        refine lv_icmp_gt (tgt := 113) B.1 B.2.1 dX5_leastLeak_20 (by decide) (fun z => absurd z (nI_nlt (by omega) (by omega))) (fun _ => ?_)
        refine lv_iload B.1 B.2.1 dX5_leastLeak_23 (lv_at hl 0 rfl) ?_
        refine lv_iconst (v := nI 2) B.1 B.2.1 dX5_leastLeak_25 (by decide) ?_
        refine lv_icmp_gt (tgt := 113) B.1 B.2.1 dX5_leastLeak_26 (by decide) (fun z => absurd z (nI_nlt (by omega) (by omega))) (fun _ => ?_)
        refine lv_aload_n B.1 B.2.1 dX5_leastLeak_29 rfl (lv_at hl 3 rfl) ?_
        refine r_cg B hC (i := 155) (by decide) q0_F21 (C := RX5) (T := TX5) (n := 5) rfl iwX5_leastLeak_X5 2 (by decide) (index := 32) flX5_leastLeak_32 rfl (v := .ref (ad (157))) rfl dX5_leastLeak_30 ?_
        refine lv_aload_n B.1 B.2.1 dX5_leastLeak_33 rfl (lv_at hl 4 rfl) ?_
        refine lv_iload B.1 B.2.1 dX5_leastLeak_34 (lv_at hl 0 rfl) ?_
        refine r_callv B hC hl.1 (157) 4 rfl rfl (by decide) r0_F21 (As := [.ref (ad (8)), .int (nI 2)]) (ctX4_begin l g lo ad hR_F21 ok_F21 (hL.at (fun i h1 h2 => by rw [hs_F21 i (by omega)]; rw [hs i (by omega)])) hw.can (e := 2) (by decide)) gX5_leastLeak_X4_begin rfl (n := 2) rfl (by decide +kernel) ⟨Nat.le_of_ble_eq_true rfl, Nat.le_of_ble_eq_true rfl⟩ ⟨Nat.zero_le _, Nat.zero_le _⟩ rfl (Nat.le_of_ble_eq_true rfl) dX5_leastLeak_36 (fun F22 H locs hp36 hC => ?_)
        obtain ⟨hR_F22, hs_F22⟩ := hp36
        have ok_F22 : ROK (2, false, rro v1, va_up (rst v1) 0 w) := ROK_up (a := 0) (b := true) (r := rro v1) ok_F21 rfl hw.can _ _ _
        have hI_F22 : RIt h w (2, false, rro v1, va_up (rst v1) 0 w) (rowsV h w 2) := ⟨hw, (show va_up (rst v1) 0 w 0 = w from va_up_self _ _ _), ok_F22, (show 2 ≤ 2 by decide), Or.inl ⟨rfl, rfl⟩⟩
        obtain ⟨r0_F22, r1_F22, r2_F22, rL_F22⟩ := id hR_F22
        have g0G_F22 : F22 3 = .inr (2, [.ref (ad (4)), .ref (ad (5)), .ref (ad (6)), .ref (ad (7)), .int (nI (hn h)), .int (nI (hpu h)), .int (nI (hho h))]) := (hs_F22 _ (by omega)).trans g0G_F21
        have q0_F22 : F22 155 = .inr (5, [.ref (ad (3)), .ref (ad (13)), .ref (ad (157)), .ref (ad (156)), .int (nI fmv)]) := (hs_F22 _ (by omega)).trans q0_F21
        have q1_F22 : F22 156 = .inl (g.2.2 0, 2, .inl (fov)) := (hs_F22 _ (by omega)).trans q1_F21
        refine lv_iconst (v := nI 0) B.1 B.2.1 dX5_leastLeak_39 (by decide) ?_
        refine lv_istore (lv' := [(5, .int (nI 0)), (4, .int (nI 2)), (3, .int (nI a)), (0, .ref (ad (155))), (1, .ref (ad (8))), (2, .int (nI 2))]) B.1 B.2.1 dX5_leastLeak_40 hl (by decide) rfl (fun ls hl => ?_)
        have loop2 : ∀ (k : Nat) (i a fmv : Nat) (fl : List Nat) (fov : Nat → Int32) (rem : List (List Nat)) (u : RV) (G : Nat → va_E), (rem.length < k) → (i + k ≤ 20000) → (a ≤ 90) → (RowsC g ad G u) → (RIt h w u rem) → (rmv u = 2) → (SeaC g ad G fmv fov) → (Fnd fov fmv fl) → (bestF h w rem (a, fl) = bestV h w 2) → (Same 155 175 F G) → ∀ (H : Heap) (locs : List Loc) (ls : Array Slot), Cu g lo 196 ad G ss ss.heap H locs → lv_has ls 7 [(5, .int (nI i)), (4, .int (nI 2)), (3, .int (nI a)), (0, .ref (ad (155))), (1, .ref (ad (8))), (2, .int (nI 2))] → W pp l ee { frames := 5, cells := 0, slots := 0, locals := 116 } ss mm ([.ref (ad (155)), .ref (ad (8)), .int (nI 2)] : List Value).toArray below meth cc H locs 0 0 (MQ below (va_Qi (fun r F' => ∃ fo' v', r = nI (bestV h w 2).1 ∧ SeaC g ad F' (bestV h w 2).2.length fo' ∧ Fnd fo' (bestV h w 2).2.length (bestV h w 2).2 ∧ RowsC g ad F' v' ∧ ROK v' ∧ Same 155 175 F F') (fun F' t => Wd g lo 196 ad F' t) (fun q => lo ≤ q)) ([.ref (ad (155)), .ref (ad (8)), .int (nI 2)] : List Value).toArray ss 0 0 (fun q => lo ≤ q)) (F0 mm 42 ls []) := by
          intro k
          induction k with
          | zero => intro i a fmv fl fov rem u G hlt hi ha hRG hI hmu hSG hfn he hs; exact absurd hlt (Nat.not_lt_zero _)
          | succ k ih2 =>
            intro i a fmv fl fov rem u G hlt hi ha hRG hI hmu hSG hfn he hs H locs ls hC hl
            obtain ⟨r0, r1, r2, rL⟩ := id hRG
            obtain ⟨q0, q1⟩ := id hSG
            have g0G : G 3 = .inr (2, [.ref (ad (4)), .ref (ad (5)), .ref (ad (6)), .ref (ad (7)), .int (nI (hn h)), .int (nI (hpu h)), .int (nI (hho h))]) := (hs 3 (by omega)).trans g0
            refine lv_iload B.1 B.2.1 dX5_leastLeak_42 (lv_at hl 0 rfl) ?_
            refine lv_ldc (own := RX5) (v := nI 1000000) B.1 B.2.1 B.2.2.2.1 (B.2.2.2.2.1 (.constant RX5 46 (1000000)) (by decide +kernel)) dX5_leastLeak_44 ?_
            refine lv_icmp_ge (tgt := 107) B.1 B.2.1 dX5_leastLeak_46 (by decide) (fun z => absurd z (nI_ge (by omega) (by omega))) (fun _ => ?_)
            refine lv_aload_n B.1 B.2.1 dX5_leastLeak_49 rfl (lv_at hl 3 rfl) ?_
            refine r_cg B hC (i := 155) (by decide) q0 (C := RX5) (T := TX5) (n := 5) rfl iwX5_leastLeak_X5 2 (by decide) (index := 32) flX5_leastLeak_32 rfl (v := .ref (ad (157))) rfl dX5_leastLeak_50 ?_
            refine r_calli B hC hl.1 (157) 4 rfl rfl (by decide) r0 (As := []) (ctX4_next l g lo ad (HullC.keep hH (x := 155) (y := 175) (fun i hi => by rw [hs i (by omega)]) (by decide)) ok hRG hI) gX5_leastLeak_X4_next rfl (n := 0) rfl (by decide +kernel) ⟨Nat.le_of_ble_eq_true rfl, Nat.le_of_ble_eq_true rfl⟩ ⟨Nat.zero_le _, Nat.zero_le _⟩ rfl (Nat.le_of_ble_eq_true rfl) dX5_leastLeak_53 (fun r53 F21 H locs hp53 hC => ?_)
            rcases hp53 with ⟨hs_F21, ⟨er, hrem, v1, hR_F21, ok_F21, hmv1, -⟩ | ⟨e1, es, v1, er, hrem, hR_F21, hI_F21, hCu, hmv1⟩⟩
            · subst er
              obtain ⟨r0_F21, r1_F21, r2_F21, rL_F21⟩ := id hR_F21
              have g0G_F21 : F21 3 = .inr (2, [.ref (ad (4)), .ref (ad (5)), .ref (ad (6)), .ref (ad (7)), .int (nI (hn h)), .int (nI (hpu h)), .int (nI (hho h))]) := (hs_F21 _ (by omega)).trans g0G
              have q0_F21 : F21 155 = .inr (5, [.ref (ad (3)), .ref (ad (13)), .ref (ad (157)), .ref (ad (156)), .int (nI fmv)]) := (hs_F21 _ (by omega)).trans q0
              have q1_F21 : F21 156 = .inl (g.2.2 0, 2, .inl (fov)) := (hs_F21 _ (by omega)).trans q1
              refine lv_if_eq (tgt := 107) B.1 B.2.1 dX5_leastLeak_56 (by decide) (fun _ => ?_) (fun z => absurd (by decide) z)
              have hb : bestV h w 2 = (a, fl) := by rw [← he, hrem]; rfl
              refine lv_iinc (v := nI 3) (lv' := [(4, .int (nI 3)), (5, .int (nI i)), (3, .int (nI a)), (0, .ref (ad (155))), (1, .ref (ad (8))), (2, .int (nI 2))]) B.1 B.2.1 dX5_leastLeak_107 hl (k := 1) rfl (by decide) (by decide) rfl (fun ls hl => ?_)
              refine lv_goto (tgt := 17) B.1 B.2.1 dX5_leastLeak_110 (by decide) ?_
              refine lv_iload B.1 B.2.1 dX5_leastLeak_17 (lv_at hl 0 rfl) ?_
              refine lv_iload_n B.1 B.2.1 dX5_leastLeak_19 rfl (lv_at hl 5 rfl) ?_
              refine lv_icmp_gt (tgt := 113) B.1 B.2.1 dX5_leastLeak_20 (by decide) (fun _ => ?_) (fun z => absurd (nI_lt (by omega) (by omega)) z)
              refine lv_iload_n B.1 B.2.1 dX5_leastLeak_113 rfl (lv_at hl 2 rfl) ?_
              exact r_eI B hC (v := nI a) (⟨fov, v1, by rw [hb], by rw [hb]; exact ⟨by rw [hfn.1]; exact q0_F21, q1_F21⟩, by rw [hb]; exact hfn.1.symm ▸ hfn, hR_F21, ok_F21, fun i hi => by rw [hs_F21 i (by omega)]; rw [hs i (by omega)]⟩) dX5_leastLeak_114
            · subst er
              obtain ⟨r0_F21, r1_F21, r2_F21, rL_F21⟩ := id hR_F21
              have ok_F21 := hI_F21.2.2.1
              have g0G_F21 : F21 3 = .inr (2, [.ref (ad (4)), .ref (ad (5)), .ref (ad (6)), .ref (ad (7)), .int (nI (hn h)), .int (nI (hpu h)), .int (nI (hho h))]) := (hs_F21 _ (by omega)).trans g0G
              have q0_F21 : F21 155 = .inr (5, [.ref (ad (3)), .ref (ad (13)), .ref (ad (157)), .ref (ad (156)), .int (nI fmv)]) := (hs_F21 _ (by omega)).trans q0
              have q1_F21 : F21 156 = .inl (g.2.2 0, 2, .inl (fov)) := (hs_F21 _ (by omega)).trans q1
              refine lv_if_eq (tgt := 107) B.1 B.2.1 dX5_leastLeak_56 (by decide) (fun z => absurd z (by decide)) (fun _ => ?_)
              refine lv_aload_n B.1 B.2.1 dX5_leastLeak_59 rfl (lv_at hl 3 rfl) ?_
              refine r_cg B hC (i := 155) (by decide) q0_F21 (C := RX5) (T := TX5) (n := 5) rfl iwX5_leastLeak_X5 0 (by decide) (index := 19) flX5_leastLeak_19 rfl (v := .ref (ad (3))) rfl dX5_leastLeak_60 ?_
              refine lv_aload_n B.1 B.2.1 dX5_leastLeak_63 rfl (lv_at hl 3 rfl) ?_
              refine r_cg B hC (i := 155) (by decide) q0_F21 (C := RX5) (T := TX5) (n := 5) rfl iwX5_leastLeak_X5 2 (by decide) (index := 32) flX5_leastLeak_32 rfl (v := .ref (ad (157))) rfl dX5_leastLeak_64 ?_
              have hm2 : rmv v1 ≤ 2 := by omega
              refine r_callr B hC hl.1 (157) 4 rfl rfl (by decide) r0_F21 (As := []) (ctX4_end l g lo ad hR_F21 hm2) gX5_leastLeak_X4_end rfl (n := 0) rfl (by decide +kernel) ⟨Nat.le_of_ble_eq_true rfl, Nat.le_of_ble_eq_true rfl⟩ ⟨Nat.zero_le _, Nat.zero_le _⟩ rfl (Nat.le_of_ble_eq_true rfl) dX5_leastLeak_67 (fun H locs hC => ?_)
              have hEn : LoadC g ad F21 (160 + 5 * rmv v1) (endV h w e1) := by have z := hR_F21.2.2.2 (rmv v1) (by omega); rw [hCu.2.2.1] at z; exact z
              have lokE := hCu.2.2.2.1
              refine r_calli B hC hl.1 (3) 2 rfl rfl (by decide) g0G_F21 (As := [.ref (ad ((160 + 5 * rmv v1)))]) (ctX2_leakOf l g lo ad (HullC.keep hH (x := 155) (y := 175) (fun i hi => by rw [hs_F21 i (by omega)]; rw [hs i (by omega)]) (by decide)) ok (b := 160 + 5 * rmv v1) (by omega) hEn lokE) gX5_leastLeak_X2_leakOf rfl (n := 1) rfl (by decide +kernel) ⟨Nat.le_of_ble_eq_true rfl, Nat.le_of_ble_eq_true rfl⟩ ⟨Nat.zero_le _, Nat.zero_le _⟩ rfl (Nat.le_of_ble_eq_true rfl) dX5_leastLeak_70 (fun r70 F22 H locs hp70 hC => ?_)
              obtain ⟨er, eF⟩ := hp70
              subst er
              rw [eF] at hC
              have hlE := leakV_le (w := endV h w e1) ok
              refine lv_istore (lv' := [(6, .int (nI (leakV h (endV h w e1)))), (5, .int (nI i)), (4, .int (nI 2)), (3, .int (nI a)), (0, .ref (ad (155))), (1, .ref (ad (8))), (2, .int (nI 2))]) B.1 B.2.1 dX5_leastLeak_73 hl (by decide) rfl (fun ls hl => ?_)
              refine lv_iload B.1 B.2.1 dX5_leastLeak_75 (lv_at hl 0 rfl) ?_
              refine lv_iload_n B.1 B.2.1 dX5_leastLeak_77 rfl (lv_at hl 3 rfl) ?_
              refine lv_icmp_ge (tgt := 101) B.1 B.2.1 dX5_leastLeak_78 (by decide) (fun c_78 => ?_) (fun c_78 => ?_)
              · have q_78 : a ≤ (leakV h (endV h w e1)) := (nI_leI (by omega) (by omega)).mp c_78
                refine lv_iinc (v := nI (i + 1)) (lv' := [(5, .int (nI (i + 1))), (6, .int (nI (leakV h (endV h w e1)))), (4, .int (nI 2)), (3, .int (nI a)), (0, .ref (ad (155))), (1, .ref (ad (8))), (2, .int (nI 2))]) B.1 B.2.1 dX5_leastLeak_101 hl (k := 1) rfl (nI_1 _) (by decide) rfl (fun ls hl => ?_)
                refine lv_goto (tgt := 42) B.1 B.2.1 dX5_leastLeak_104 (by decide) ?_
                exact ih2 (i + 1) a fmv fl fov es v1 F21 (by rw [hrem, List.length_cons] at hlt; omega) (by omega) ha hR_F21 hI_F21 (hmv1.trans hmu) ⟨q0_F21, q1_F21⟩ hfn (by rw [← he, hrem, bestF, best1, if_neg (by show ¬ leakV h (endV h w e1) < a; omega)]) (fun i hi => by rw [hs_F21 i (by omega)]; rw [hs i (by omega)]) _ _ ls hC (lv_sub hl [0, 2, 3, 4, 5, 6] rfl)
              · have q_78 : ¬ a ≤ (leakV h (endV h w e1)) := fun z => c_78 ((nI_leI (by omega) (by omega)).mpr z)
                refine lv_iload B.1 B.2.1 dX5_leastLeak_81 (lv_at hl 0 rfl) ?_
                refine lv_istore_n (lv' := [(3, .int (nI (leakV h (endV h w e1)))), (6, .int (nI (leakV h (endV h w e1)))), (5, .int (nI i)), (4, .int (nI 2)), (0, .ref (ad (155))), (1, .ref (ad (8))), (2, .int (nI 2))]) B.1 B.2.1 dX5_leastLeak_83 rfl hl (by decide) rfl (fun ls hl => ?_)
                refine lv_aload_n B.1 B.2.1 dX5_leastLeak_84 rfl (lv_at hl 4 rfl) ?_
                refine lv_iload B.1 B.2.1 dX5_leastLeak_85 (lv_at hl 3 rfl) ?_
                refine r_cp B hC (i := 155) (by decide) q0_F21 tyX5 tyX5_ok nmX5 (C := RX5) (T := TX5) rfl iwX5_leastLeak_X5 4 (by decide) (index := 15) flX5_leastLeak_15 rfl rfl (v := .int (nI 2)) (rfl) (rfl) (Nat.le_of_ble_eq_true rfl) dX5_leastLeak_87 ?_
                intro H locs hC
                obtain ⟨F22, eF22⟩ : ∃ f : Nat → va_E, f = va_up F21 (155) (.inr (5, [.ref (ad (3)), .ref (ad (13)), .ref (ad (157)), .ref (ad (156)), .int (nI 2)])) := ⟨_, rfl⟩
                have hC : Cu g lo 196 ad F22 ss ss.heap H locs := by rw [eF22]; exact hC
                have k155_F22 : F22 155 = .inr (5, [.ref (ad (3)), .ref (ad (13)), .ref (ad (157)), .ref (ad (156)), .int (nI 2)]) := by rw [eF22]; exact va_up_self _ _ _
                have g0G_F22 : F22 3 = .inr (2, [.ref (ad (4)), .ref (ad (5)), .ref (ad (6)), .ref (ad (7)), .int (nI (hn h)), .int (nI (hpu h)), .int (nI (hho h))]) := by rw [eF22, va_up_ne _ _ (by decide)]; exact g0G_F21
                have q1_F22 : F22 156 = .inl (g.2.2 0, 2, .inl (fov)) := by rw [eF22, va_up_ne _ _ (by decide)]; exact q1_F21
                have r0_F22 : F22 157 = .inr (4, [.ref (ad (3)), .ref (ad (158)), .ref (ad (159)), .int (nI (rmv v1)), .int (bI (rbg v1))]) := by rw [eF22, va_up_ne _ _ (by decide)]; exact r0_F21
                refine lv_aload_n B.1 B.2.1 dX5_leastLeak_90 rfl (lv_at hl 4 rfl) ?_
                refine r_cg B hC (i := 155) (by decide) k155_F22 (C := RX5) (T := TX5) (n := 5) rfl iwX5_leastLeak_X5 2 (by decide) (index := 32) flX5_leastLeak_32 rfl (v := .ref (ad (157))) rfl dX5_leastLeak_91 ?_
                refine lv_aload_n B.1 B.2.1 dX5_leastLeak_94 rfl (lv_at hl 4 rfl) ?_
                refine r_cg B hC (i := 155) (by decide) k155_F22 (C := RX5) (T := TX5) (n := 5) rfl iwX5_leastLeak_X5 3 (by decide) (index := 9) flX5_leastLeak_9 rfl (v := .ref (ad (156))) rfl dX5_leastLeak_95 ?_
                refine r_callv B hC hl.1 (157) 4 rfl rfl (by decide) r0_F22 (As := [.ref (ad (156))]) (ctX4_copyTo l g lo ad (RowsC.keep hR_F21 (fun i h1 h2 => by rw [eF22, va_up_ne _ _ (by omega)])) (by omega) (fo := fov) q1_F22) gX5_leastLeak_X4_copyTo rfl (n := 1) rfl (by decide +kernel) ⟨Nat.le_of_ble_eq_true rfl, Nat.le_of_ble_eq_true rfl⟩ ⟨Nat.zero_le _, Nat.zero_le _⟩ rfl (Nat.le_of_ble_eq_true rfl) dX5_leastLeak_98 (fun F23 H locs hp98 hC => ?_)
                obtain ⟨q1_F23, hs_F23⟩ := hp98
                have g0G_F23 : F23 3 = .inr (2, [.ref (ad (4)), .ref (ad (5)), .ref (ad (6)), .ref (ad (7)), .int (nI (hn h)), .int (nI (hpu h)), .int (nI (hho h))]) := (hs_F23 _ (by omega)).trans g0G_F22
                have k155_F23 : F23 155 = .inr (5, [.ref (ad (3)), .ref (ad (13)), .ref (ad (157)), .ref (ad (156)), .int (nI 2)]) := (hs_F23 _ (by omega)).trans k155_F22
                have r0_F23 : F23 157 = .inr (4, [.ref (ad (3)), .ref (ad (158)), .ref (ad (159)), .int (nI (rmv v1)), .int (bI (rbg v1))]) := (hs_F23 _ (by omega)).trans r0_F22
                refine lv_iinc (v := nI (i + 1)) (lv' := [(5, .int (nI (i + 1))), (3, .int (nI (leakV h (endV h w e1)))), (6, .int (nI (leakV h (endV h w e1)))), (4, .int (nI 2)), (0, .ref (ad (155))), (1, .ref (ad (8))), (2, .int (nI 2))]) B.1 B.2.1 dX5_leastLeak_101 hl (k := 2) rfl (nI_1 _) (by decide) rfl (fun ls hl => ?_)
                refine lv_goto (tgt := 42) B.1 B.2.1 dX5_leastLeak_104 (by decide) ?_
                exact ih2 (i + 1) (leakV h (endV h w e1)) (rmv v1) e1 (va_cpy (fun j => y1 (rro v1 j)) fov 0 0 (rmv v1)) es v1 F23 (by rw [hrem, List.length_cons] at hlt; omega) (by omega) hlE (RowsC.keep hR_F21 (fun i h1 h2 => by rw [hs_F23 i (by omega)]; rw [eF22, va_up_ne _ _ (by omega)])) hI_F21 (hmv1.trans hmu) ⟨by rw [hmv1, hmu]; exact k155_F23, q1_F23⟩ (Fnd_of hCu hm2) (by rw [← he, hrem, bestF, best1, if_pos (by show leakV h (endV h w e1) < a; omega)]) (fun i hi => by rw [hs_F23 i (by omega)]; rw [eF22, va_up_ne _ _ (by omega)]; rw [hs_F21 i (by omega)]; rw [hs i (by omega)]) _ _ ls hC (lv_sub hl [0, 3, 1, 4, 5, 6] rfl)
        exact loop2 10001 0 a fmv fl fov (rowsV h w 2) (2, false, rro v1, va_up (rst v1) 0 w) F22 (Nat.lt_succ_of_le (rowsV_len h w 2)) (by decide) ha hR_F22 hI_F22 rfl ⟨q0_F22, q1_F22⟩ hfn (by show bestF h w (rowsV h w 2) (a, fl) = bestF h w (rowsV h w 2) (bestV h w 1); rw [hb]) (fun i hi => by rw [hs_F22 i (by omega)]; rw [hs_F21 i (by omega)]; rw [hs i (by omega)]) _ _ ls hC (lv_sub hl [0, 1, 2, 3, 4, 5] rfl)
      · subst er
        obtain ⟨r0_F21, r1_F21, r2_F21, rL_F21⟩ := id hR_F21
        have ok_F21 := hI_F21.2.2.1
        have g0G_F21 : F21 3 = .inr (2, [.ref (ad (4)), .ref (ad (5)), .ref (ad (6)), .ref (ad (7)), .int (nI (hn h)), .int (nI (hpu h)), .int (nI (hho h))]) := (hs_F21 _ (by omega)).trans g0G
        have q0_F21 : F21 155 = .inr (5, [.ref (ad (3)), .ref (ad (13)), .ref (ad (157)), .ref (ad (156)), .int (nI fmv)]) := (hs_F21 _ (by omega)).trans q0
        have q1_F21 : F21 156 = .inl (g.2.2 0, 2, .inl (fov)) := (hs_F21 _ (by omega)).trans q1
        refine lv_if_eq (tgt := 107) B.1 B.2.1 dX5_leastLeak_56 (by decide) (fun z => absurd z (by decide)) (fun _ => ?_)
        refine lv_aload_n B.1 B.2.1 dX5_leastLeak_59 rfl (lv_at hl 3 rfl) ?_
        refine r_cg B hC (i := 155) (by decide) q0_F21 (C := RX5) (T := TX5) (n := 5) rfl iwX5_leastLeak_X5 0 (by decide) (index := 19) flX5_leastLeak_19 rfl (v := .ref (ad (3))) rfl dX5_leastLeak_60 ?_
        refine lv_aload_n B.1 B.2.1 dX5_leastLeak_63 rfl (lv_at hl 3 rfl) ?_
        refine r_cg B hC (i := 155) (by decide) q0_F21 (C := RX5) (T := TX5) (n := 5) rfl iwX5_leastLeak_X5 2 (by decide) (index := 32) flX5_leastLeak_32 rfl (v := .ref (ad (157))) rfl dX5_leastLeak_64 ?_
        have hm2 : rmv v1 ≤ 2 := by omega
        refine r_callr B hC hl.1 (157) 4 rfl rfl (by decide) r0_F21 (As := []) (ctX4_end l g lo ad hR_F21 hm2) gX5_leastLeak_X4_end rfl (n := 0) rfl (by decide +kernel) ⟨Nat.le_of_ble_eq_true rfl, Nat.le_of_ble_eq_true rfl⟩ ⟨Nat.zero_le _, Nat.zero_le _⟩ rfl (Nat.le_of_ble_eq_true rfl) dX5_leastLeak_67 (fun H locs hC => ?_)
        have hEn : LoadC g ad F21 (160 + 5 * rmv v1) (endV h w e1) := by have z := hR_F21.2.2.2 (rmv v1) (by omega); rw [hCu.2.2.1] at z; exact z
        have lokE := hCu.2.2.2.1
        refine r_calli B hC hl.1 (3) 2 rfl rfl (by decide) g0G_F21 (As := [.ref (ad ((160 + 5 * rmv v1)))]) (ctX2_leakOf l g lo ad (HullC.keep hH (x := 155) (y := 175) (fun i hi => by rw [hs_F21 i (by omega)]; rw [hs i (by omega)]) (by decide)) ok (b := 160 + 5 * rmv v1) (by omega) hEn lokE) gX5_leastLeak_X2_leakOf rfl (n := 1) rfl (by decide +kernel) ⟨Nat.le_of_ble_eq_true rfl, Nat.le_of_ble_eq_true rfl⟩ ⟨Nat.zero_le _, Nat.zero_le _⟩ rfl (Nat.le_of_ble_eq_true rfl) dX5_leastLeak_70 (fun r70 F22 H locs hp70 hC => ?_)
        obtain ⟨er, eF⟩ := hp70
        subst er
        rw [eF] at hC
        have hlE := leakV_le (w := endV h w e1) ok
        refine lv_istore (lv' := [(6, .int (nI (leakV h (endV h w e1)))), (5, .int (nI i)), (4, .int (nI 1)), (3, .int (nI a)), (0, .ref (ad (155))), (1, .ref (ad (8))), (2, .int (nI 2))]) B.1 B.2.1 dX5_leastLeak_73 hl (by decide) rfl (fun ls hl => ?_)
        refine lv_iload B.1 B.2.1 dX5_leastLeak_75 (lv_at hl 0 rfl) ?_
        refine lv_iload_n B.1 B.2.1 dX5_leastLeak_77 rfl (lv_at hl 3 rfl) ?_
        refine lv_icmp_ge (tgt := 101) B.1 B.2.1 dX5_leastLeak_78 (by decide) (fun c_78 => ?_) (fun c_78 => ?_)
        · have q_78 : a ≤ (leakV h (endV h w e1)) := (nI_leI (by omega) (by omega)).mp c_78
          refine lv_iinc (v := nI (i + 1)) (lv' := [(5, .int (nI (i + 1))), (6, .int (nI (leakV h (endV h w e1)))), (4, .int (nI 1)), (3, .int (nI a)), (0, .ref (ad (155))), (1, .ref (ad (8))), (2, .int (nI 2))]) B.1 B.2.1 dX5_leastLeak_101 hl (k := 1) rfl (nI_1 _) (by decide) rfl (fun ls hl => ?_)
          refine lv_goto (tgt := 42) B.1 B.2.1 dX5_leastLeak_104 (by decide) ?_
          exact ih1 (i + 1) a fmv fl fov es v1 F21 (by rw [hrem, List.length_cons] at hlt; omega) (by omega) ha hR_F21 hI_F21 (hmv1.trans hmu) ⟨q0_F21, q1_F21⟩ hfn (by rw [← he, hrem, bestF, best1, if_neg (by show ¬ leakV h (endV h w e1) < a; omega)]) (fun i hi => by rw [hs_F21 i (by omega)]; rw [hs i (by omega)]) _ _ ls hC (lv_sub hl [0, 2, 3, 4, 5, 6] rfl)
        · have q_78 : ¬ a ≤ (leakV h (endV h w e1)) := fun z => c_78 ((nI_leI (by omega) (by omega)).mpr z)
          refine lv_iload B.1 B.2.1 dX5_leastLeak_81 (lv_at hl 0 rfl) ?_
          refine lv_istore_n (lv' := [(3, .int (nI (leakV h (endV h w e1)))), (6, .int (nI (leakV h (endV h w e1)))), (5, .int (nI i)), (4, .int (nI 1)), (0, .ref (ad (155))), (1, .ref (ad (8))), (2, .int (nI 2))]) B.1 B.2.1 dX5_leastLeak_83 rfl hl (by decide) rfl (fun ls hl => ?_)
          refine lv_aload_n B.1 B.2.1 dX5_leastLeak_84 rfl (lv_at hl 4 rfl) ?_
          refine lv_iload B.1 B.2.1 dX5_leastLeak_85 (lv_at hl 3 rfl) ?_
          refine r_cp B hC (i := 155) (by decide) q0_F21 tyX5 tyX5_ok nmX5 (C := RX5) (T := TX5) rfl iwX5_leastLeak_X5 4 (by decide) (index := 15) flX5_leastLeak_15 rfl rfl (v := .int (nI 1)) (rfl) (rfl) (Nat.le_of_ble_eq_true rfl) dX5_leastLeak_87 ?_
          intro H locs hC
          obtain ⟨F22, eF22⟩ : ∃ f : Nat → va_E, f = va_up F21 (155) (.inr (5, [.ref (ad (3)), .ref (ad (13)), .ref (ad (157)), .ref (ad (156)), .int (nI 1)])) := ⟨_, rfl⟩
          have hC : Cu g lo 196 ad F22 ss ss.heap H locs := by rw [eF22]; exact hC
          have k155_F22 : F22 155 = .inr (5, [.ref (ad (3)), .ref (ad (13)), .ref (ad (157)), .ref (ad (156)), .int (nI 1)]) := by rw [eF22]; exact va_up_self _ _ _
          have g0G_F22 : F22 3 = .inr (2, [.ref (ad (4)), .ref (ad (5)), .ref (ad (6)), .ref (ad (7)), .int (nI (hn h)), .int (nI (hpu h)), .int (nI (hho h))]) := by rw [eF22, va_up_ne _ _ (by decide)]; exact g0G_F21
          have q1_F22 : F22 156 = .inl (g.2.2 0, 2, .inl (fov)) := by rw [eF22, va_up_ne _ _ (by decide)]; exact q1_F21
          have r0_F22 : F22 157 = .inr (4, [.ref (ad (3)), .ref (ad (158)), .ref (ad (159)), .int (nI (rmv v1)), .int (bI (rbg v1))]) := by rw [eF22, va_up_ne _ _ (by decide)]; exact r0_F21
          refine lv_aload_n B.1 B.2.1 dX5_leastLeak_90 rfl (lv_at hl 4 rfl) ?_
          refine r_cg B hC (i := 155) (by decide) k155_F22 (C := RX5) (T := TX5) (n := 5) rfl iwX5_leastLeak_X5 2 (by decide) (index := 32) flX5_leastLeak_32 rfl (v := .ref (ad (157))) rfl dX5_leastLeak_91 ?_
          refine lv_aload_n B.1 B.2.1 dX5_leastLeak_94 rfl (lv_at hl 4 rfl) ?_
          refine r_cg B hC (i := 155) (by decide) k155_F22 (C := RX5) (T := TX5) (n := 5) rfl iwX5_leastLeak_X5 3 (by decide) (index := 9) flX5_leastLeak_9 rfl (v := .ref (ad (156))) rfl dX5_leastLeak_95 ?_
          refine r_callv B hC hl.1 (157) 4 rfl rfl (by decide) r0_F22 (As := [.ref (ad (156))]) (ctX4_copyTo l g lo ad (RowsC.keep hR_F21 (fun i h1 h2 => by rw [eF22, va_up_ne _ _ (by omega)])) (by omega) (fo := fov) q1_F22) gX5_leastLeak_X4_copyTo rfl (n := 1) rfl (by decide +kernel) ⟨Nat.le_of_ble_eq_true rfl, Nat.le_of_ble_eq_true rfl⟩ ⟨Nat.zero_le _, Nat.zero_le _⟩ rfl (Nat.le_of_ble_eq_true rfl) dX5_leastLeak_98 (fun F23 H locs hp98 hC => ?_)
          obtain ⟨q1_F23, hs_F23⟩ := hp98
          have g0G_F23 : F23 3 = .inr (2, [.ref (ad (4)), .ref (ad (5)), .ref (ad (6)), .ref (ad (7)), .int (nI (hn h)), .int (nI (hpu h)), .int (nI (hho h))]) := (hs_F23 _ (by omega)).trans g0G_F22
          have k155_F23 : F23 155 = .inr (5, [.ref (ad (3)), .ref (ad (13)), .ref (ad (157)), .ref (ad (156)), .int (nI 1)]) := (hs_F23 _ (by omega)).trans k155_F22
          have r0_F23 : F23 157 = .inr (4, [.ref (ad (3)), .ref (ad (158)), .ref (ad (159)), .int (nI (rmv v1)), .int (bI (rbg v1))]) := (hs_F23 _ (by omega)).trans r0_F22
          refine lv_iinc (v := nI (i + 1)) (lv' := [(5, .int (nI (i + 1))), (3, .int (nI (leakV h (endV h w e1)))), (6, .int (nI (leakV h (endV h w e1)))), (4, .int (nI 1)), (0, .ref (ad (155))), (1, .ref (ad (8))), (2, .int (nI 2))]) B.1 B.2.1 dX5_leastLeak_101 hl (k := 2) rfl (nI_1 _) (by decide) rfl (fun ls hl => ?_)
          refine lv_goto (tgt := 42) B.1 B.2.1 dX5_leastLeak_104 (by decide) ?_
          exact ih1 (i + 1) (leakV h (endV h w e1)) (rmv v1) e1 (va_cpy (fun j => y1 (rro v1 j)) fov 0 0 (rmv v1)) es v1 F23 (by rw [hrem, List.length_cons] at hlt; omega) (by omega) hlE (RowsC.keep hR_F21 (fun i h1 h2 => by rw [hs_F23 i (by omega)]; rw [eF22, va_up_ne _ _ (by omega)])) hI_F21 (hmv1.trans hmu) ⟨by rw [hmv1, hmu]; exact k155_F23, q1_F23⟩ (Fnd_of hCu hm2) (by rw [← he, hrem, bestF, best1, if_pos (by show leakV h (endV h w e1) < a; omega)]) (fun i hi => by rw [hs_F23 i (by omega)]; rw [eF22, va_up_ne _ _ (by omega)]; rw [hs_F21 i (by omega)]; rw [hs i (by omega)]) _ _ ls hC (lv_sub hl [0, 3, 1, 4, 5, 6] rfl)
  exact loop1 10001 0 (leakV h w) 0 [] fo (rowsV h w 1) (1, false, rro v, va_up (rst v) 0 w) F2 (Nat.lt_succ_of_le (rowsV_len h w 1)) (by decide) hlk hR_F2 hI_F2 rfl ⟨k155_F2, q1_F2⟩ ⟨rfl, Nat.zero_le _, fun x hx => (by cases hx), fun j hj => absurd hj (Nat.not_lt_zero _)⟩ rfl (fun i hi => by rw [hs_F2 i (by omega)]; rw [eF1, va_up_ne _ _ (by omega)]) _ _ ls hC (lv_sub hl [0, 1, 2, 3, 4, 5] rfl)
