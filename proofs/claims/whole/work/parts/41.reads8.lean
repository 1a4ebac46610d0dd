/-! THE WHOLE OBJECT: what its reads answer -/
theorem iwX8_fault_X8 : ∀ w ∈ u_ws RX8 TX8 8, w ∈ wsX8_fault := by decide +kernel
theorem flX8_fault_10 : Cond.fieldLink RX8 10 RX8 (TX8 0).2.1 (TX8 0).2.2.1 ∈ wsX8_fault := by decide +kernel
set_option maxHeartbeats 4000000 in
set_option maxRecDepth 100000 in
theorem ctX8_fault (l : Launch) (g : Gx) (lo : Nat) (ad : Nat → Nat) {F : Nat → va_E} {x : XV} (hX : XC g ad F x) (okx : XOK x) : MI l g lo 196 ad yX8_fault wsX8_fault 6 132 [.ref (ad (0))] F (fun r F' => r = oI (fAll (xt x)) ∧ F' = F) := by
  obtain ⟨hP, hT, hH, hL, hA, hS, ⟨wt, hW, hct⟩, ⟨c, hCh⟩, ⟨fm, fo, hQ⟩, rv0, hR, okR⟩ := id hX
  obtain ⟨okT, okH, okL, okA, okS, okAu, okSu⟩ := id okx
  have okn := okH.1
  have okt := okT.1
  refine enter (cc := cX8_fault) (maxL := 1) (ret := some .int) (own := RX8) (by decide +kernel) rfl rfl (Nat.le_of_ble_eq_true rfl) ?_
  intro pp ee ss mm below meth cc B hini hC ls hl
  have hl : lv_has ls 1 [(0, .ref (ad (0)))] := hl
  refine lv_aload_n B.1 B.2.1 dX8_fault_0 rfl (lv_at hl 0 rfl) ?_
  refine r_cg B hC (i := 0) (by decide) hP (C := RX8) (T := TX8) (n := 8) rfl iwX8_fault_X8 0 (by decide) (index := 10) flX8_fault_10 rfl (v := .ref (ad (1))) rfl dX8_fault_1 ?_
  refine r_calli B hC hl.1 (1) 7 rfl rfl (by decide) (hT.1) (As := []) (ctX7_firstFault l g lo ad hT okT) gX8_fault_X7_firstFault rfl (n := 0) rfl (by decide +kernel) ⟨Nat.le_of_ble_eq_true rfl, Nat.le_of_ble_eq_true rfl⟩ ⟨Nat.zero_le _, Nat.zero_le _⟩ rfl (Nat.le_of_ble_eq_true rfl) dX8_fault_4 (fun r4 F1 H locs hp4 hC => ?_)
  obtain ⟨er, eF⟩ := hp4
  subst er
  rw [eF] at hC
  exact r_eI B hC (v := oI (fAll (xt x))) (⟨rfl, rfl⟩) dX8_fault_7
theorem iwX8_leak_X8 : ∀ w ∈ u_ws RX8 TX8 8, w ∈ wsX8_leak := by decide +kernel
theorem flX8_leak_19 : Cond.fieldLink RX8 19 RX8 (TX8 1).2.1 (TX8 1).2.2.1 ∈ wsX8_leak := by decide +kernel
theorem flX8_leak_26 : Cond.fieldLink RX8 26 RX8 (TX8 2).2.1 (TX8 2).2.2.1 ∈ wsX8_leak := by decide +kernel
set_option maxHeartbeats 4000000 in
set_option maxRecDepth 100000 in
theorem ctX8_leak (l : Launch) (g : Gx) (lo : Nat) (ad : Nat → Nat) {F : Nat → va_E} {x : XV} (hX : XC g ad F x) (okx : XOK x) : MI l g lo 196 ad yX8_leak wsX8_leak 2 44 [.ref (ad (0))] F (fun r F' => r = nI (leakV (xh x) (xw x)) ∧ F' = F) := by
  obtain ⟨hP, hT, hH, hL, hA, hS, ⟨wt, hW, hct⟩, ⟨c, hCh⟩, ⟨fm, fo, hQ⟩, rv0, hR, okR⟩ := id hX
  obtain ⟨okT, okH, okL, okA, okS, okAu, okSu⟩ := id okx
  have okn := okH.1
  have okt := okT.1
  refine enter (cc := cX8_leak) (maxL := 1) (ret := some .int) (own := RX8) (by decide +kernel) rfl rfl (Nat.le_of_ble_eq_true rfl) ?_
  intro pp ee ss mm below meth cc B hini hC ls hl
  have hl : lv_has ls 1 [(0, .ref (ad (0)))] := hl
  refine lv_aload_n B.1 B.2.1 dX8_leak_0 rfl (lv_at hl 0 rfl) ?_
  refine r_cg B hC (i := 0) (by decide) hP (C := RX8) (T := TX8) (n := 8) rfl iwX8_leak_X8 1 (by decide) (index := 19) flX8_leak_19 rfl (v := .ref (ad (3))) rfl dX8_leak_1 ?_
  refine lv_aload_n B.1 B.2.1 dX8_leak_4 rfl (lv_at hl 0 rfl) ?_
  refine r_cg B hC (i := 0) (by decide) hP (C := RX8) (T := TX8) (n := 8) rfl iwX8_leak_X8 2 (by decide) (index := 26) flX8_leak_26 rfl (v := .ref (ad (8))) rfl dX8_leak_5 ?_
  refine r_calli B hC hl.1 (3) 2 rfl rfl (by decide) (hH.1) (As := [.ref (ad (8))]) (ctX2_leakOf l g lo ad hH okH (b := 8) (by decide) hL okL) gX8_leak_X2_leakOf rfl (n := 1) rfl (by decide +kernel) ⟨Nat.le_of_ble_eq_true rfl, Nat.le_of_ble_eq_true rfl⟩ ⟨Nat.zero_le _, Nat.zero_le _⟩ rfl (Nat.le_of_ble_eq_true rfl) dX8_leak_8 (fun r8 F1 H locs hp8 hC => ?_)
  obtain ⟨er, eF⟩ := hp8
  subst er
  rw [eF] at hC
  exact r_eI B hC (v := nI (leakV (xh x) (xw x))) (⟨rfl, rfl⟩) dX8_leak_11
theorem iwX8_place_X8 : ∀ w ∈ u_ws RX8 TX8 8, w ∈ wsX8_place := by decide +kernel
theorem flX8_place_19 : Cond.fieldLink RX8 19 RX8 (TX8 1).2.1 (TX8 1).2.2.1 ∈ wsX8_place := by decide +kernel
theorem flX8_place_26 : Cond.fieldLink RX8 26 RX8 (TX8 2).2.1 (TX8 2).2.2.1 ∈ wsX8_place := by decide +kernel
set_option maxHeartbeats 4000000 in
set_option maxRecDepth 100000 in
theorem ctX8_place (l : Launch) (g : Gx) (lo : Nat) (ad : Nat → Nat) {F : Nat → va_E} {x : XV} (hX : XC g ad F x) (okx : XOK x) {p q : Int32} : MI l g lo 196 ad yX8_place wsX8_place 1 21 [.ref (ad (0)), .int (p), .int (q)] F (fun r F' => r = placeA (xh x) (xw x) p q ∧ F' = F) := by
  obtain ⟨hP, hT, hH, hL, hA, hS, ⟨wt, hW, hct⟩, ⟨c, hCh⟩, ⟨fm, fo, hQ⟩, rv0, hR, okR⟩ := id hX
  obtain ⟨okT, okH, okL, okA, okS, okAu, okSu⟩ := id okx
  have okn := okH.1
  have okt := okT.1
  refine enter (cc := cX8_place) (maxL := 3) (ret := some .int) (own := RX8) (by decide +kernel) rfl rfl (Nat.le_of_ble_eq_true rfl) ?_
  intro pp ee ss mm below meth cc B hini hC ls hl
  have hl : lv_has ls 3 [(0, .ref (ad (0))), (1, .int (p)), (2, .int (q))] := hl
  refine lv_aload_n B.1 B.2.1 dX8_place_0 rfl (lv_at hl 0 rfl) ?_
  refine r_cg B hC (i := 0) (by decide) hP (C := RX8) (T := TX8) (n := 8) rfl iwX8_place_X8 1 (by decide) (index := 19) flX8_place_19 rfl (v := .ref (ad (3))) rfl dX8_place_1 ?_
  refine lv_iload_n B.1 B.2.1 dX8_place_4 rfl (lv_at hl 1 rfl) ?_
  refine r_calli B hC hl.1 (3) 2 rfl rfl (by decide) (hH.1) (As := [.int (p)]) (ctX2_isPlace_any l g lo ad hH okH (x := p)) gX8_place_X2_isPlace rfl (n := 1) rfl (by decide +kernel) ⟨Nat.le_of_ble_eq_true rfl, Nat.le_of_ble_eq_true rfl⟩ ⟨Nat.zero_le _, Nat.zero_le _⟩ rfl (Nat.le_of_ble_eq_true rfl) dX8_place_5 (fun r5 F1 H locs hp5 hC => ?_)
  obtain ⟨er, eF⟩ := hp5
  subst er
  rw [eF] at hC
  refine lv_if_ne (tgt := 13) B.1 B.2.1 dX8_place_8 (by decide) (fun c_8 => ?_) (fun c_8 => ?_)
  · have q_8 : isP (xh x) p = true := bI_t.mp c_8
    obtain ⟨j, hj, ej⟩ := isP_t okH q_8
    have hj31 : j < 2 ^ 31 := by omega
    refine lv_iload_n B.1 B.2.1 dX8_place_13 rfl (lv_at hl 2 rfl) ?_
    rcases sw4 (q) with e14_ | e14_ | e14_ | e14_ | e14_
    · refine r_tI (y := nI 0) e14_ ?_
      refine lv_tableIn (off := 30) (tgt := 44) B.1 B.2.1 dX8_place_14 (by decide) (by decide) (by decide) (by decide) ?_
      refine lv_aload_n B.1 B.2.1 dX8_place_44 rfl (lv_at hl 0 rfl) ?_
      refine r_cg B hC (i := 0) (by decide) hP (C := RX8) (T := TX8) (n := 8) rfl iwX8_place_X8 1 (by decide) (index := 19) flX8_place_19 rfl (v := .ref (ad (3))) rfl dX8_place_45 ?_
      refine lv_iload_n B.1 B.2.1 dX8_place_48 rfl (lv_at hl 1 rfl) ?_
      refine r_tI (y := nI j) (ej) ?_
      refine r_calli B hC hl.1 (3) 2 rfl rfl (by decide) (hH.1) (As := [.int (nI j)]) (ctX2_lengthOf l g lo ad hH okH (p := j) hj) gX8_place_X2_lengthOf rfl (n := 1) rfl (by decide +kernel) ⟨Nat.le_of_ble_eq_true rfl, Nat.le_of_ble_eq_true rfl⟩ ⟨Nat.zero_le _, Nat.zero_le _⟩ rfl (Nat.le_of_ble_eq_true rfl) dX8_place_49 (fun r49 F1 H locs hp49 hC => ?_)
      obtain ⟨er, eF⟩ := hp49
      subst er
      rw [eF] at hC
      exact r_eI B hC (v := nI (hle (xh x) j)) (⟨by rw [placeA, if_pos q_8, e14_, if_pos rfl, ej, ix_n hj31], rfl⟩) dX8_place_52
    · refine r_tI (y := nI 1) e14_ ?_
      refine lv_tableIn (off := 39) (tgt := 53) B.1 B.2.1 dX8_place_14 (by decide) (by decide) (by decide) (by decide) ?_
      refine lv_aload_n B.1 B.2.1 dX8_place_53 rfl (lv_at hl 0 rfl) ?_
      refine r_cg B hC (i := 0) (by decide) hP (C := RX8) (T := TX8) (n := 8) rfl iwX8_place_X8 1 (by decide) (index := 19) flX8_place_19 rfl (v := .ref (ad (3))) rfl dX8_place_54 ?_
      refine lv_iload_n B.1 B.2.1 dX8_place_57 rfl (lv_at hl 1 rfl) ?_
      refine r_tI (y := nI j) (ej) ?_
      refine r_calli B hC hl.1 (3) 2 rfl rfl (by decide) (hH.1) (As := [.int (nI j)]) (ctX2_letsIn l g lo ad hH okH (p := j) hj) gX8_place_X2_letsIn rfl (n := 1) rfl (by decide +kernel) ⟨Nat.le_of_ble_eq_true rfl, Nat.le_of_ble_eq_true rfl⟩ ⟨Nat.zero_le _, Nat.zero_le _⟩ rfl (Nat.le_of_ble_eq_true rfl) dX8_place_58 (fun r58 F1 H locs hp58 hC => ?_)
      obtain ⟨er, eF⟩ := hp58
      subst er
      rw [eF] at hC
      exact r_eI B hC (v := nI (hin_ (xh x) j)) (⟨by rw [placeA, if_pos q_8, e14_, if_neg (by decide), if_pos rfl, ej, ix_n hj31], rfl⟩) dX8_place_61
    · refine r_tI (y := nI 2) e14_ ?_
      refine lv_tableIn (off := 48) (tgt := 62) B.1 B.2.1 dX8_place_14 (by decide) (by decide) (by decide) (by decide) ?_
      refine lv_aload_n B.1 B.2.1 dX8_place_62 rfl (lv_at hl 0 rfl) ?_
      refine r_cg B hC (i := 0) (by decide) hP (C := RX8) (T := TX8) (n := 8) rfl iwX8_place_X8 1 (by decide) (index := 19) flX8_place_19 rfl (v := .ref (ad (3))) rfl dX8_place_63 ?_
      refine lv_iload_n B.1 B.2.1 dX8_place_66 rfl (lv_at hl 1 rfl) ?_
      refine r_tI (y := nI j) (ej) ?_
      refine r_calli B hC hl.1 (3) 2 rfl rfl (by decide) (hH.1) (As := [.int (nI j)]) (ctX2_restsOn l g lo ad hH okH (p := j) (by omega)) gX8_place_X2_restsOn rfl (n := 1) rfl (by decide +kernel) ⟨Nat.le_of_ble_eq_true rfl, Nat.le_of_ble_eq_true rfl⟩ ⟨Nat.zero_le _, Nat.zero_le _⟩ rfl (Nat.le_of_ble_eq_true rfl) dX8_place_67 (fun r67 F1 H locs hp67 hC => ?_)
      obtain ⟨er, eF⟩ := hp67
      subst er
      rw [eF] at hC
      exact r_eI B hC (v := oI (hreN (xh x) j)) (⟨by rw [placeA, if_pos q_8, e14_, if_neg (by decide), if_neg (by decide), if_pos rfl, ej, ix_n hj31], rfl⟩) dX8_place_70
    · refine r_tI (y := nI 3) e14_ ?_
      refine lv_tableIn (off := 57) (tgt := 71) B.1 B.2.1 dX8_place_14 (by decide) (by decide) (by decide) (by decide) ?_
      refine lv_aload_n B.1 B.2.1 dX8_place_71 rfl (lv_at hl 0 rfl) ?_
      refine r_cg B hC (i := 0) (by decide) hP (C := RX8) (T := TX8) (n := 8) rfl iwX8_place_X8 2 (by decide) (index := 26) flX8_place_26 rfl (v := .ref (ad (8))) rfl dX8_place_72 ?_
      refine lv_iload_n B.1 B.2.1 dX8_place_75 rfl (lv_at hl 1 rfl) ?_
      refine r_tI (y := nI j) (ej) ?_
      refine r_calli B hC hl.1 (8) 3 rfl rfl (by decide) (hL.1) (As := [.int (nI j)]) (ctX3_timberIn l g lo ad (b := 8) (by decide) hL (t := j) (by omega)) gX8_place_X3_timberIn rfl (n := 1) rfl (by decide +kernel) ⟨Nat.le_of_ble_eq_true rfl, Nat.le_of_ble_eq_true rfl⟩ ⟨Nat.zero_le _, Nat.zero_le _⟩ rfl (Nat.le_of_ble_eq_true rfl) dX8_place_76 (fun r76 F1 H locs hp76 hC => ?_)
      obtain ⟨er, eF⟩ := hp76
      subst er
      rw [eF] at hC
      exact r_eI B hC (v := oI (ti (xw x) j)) (⟨by rw [placeA, if_pos q_8, e14_, if_neg (by decide), if_neg (by decide), if_neg (by decide), if_pos rfl, ej, ix_n hj31], rfl⟩) dX8_place_79
    · refine lv_tableOut (tgt := 80) B.1 B.2.1 dX8_place_14 e14_ (by decide) ?_
      refine lv_bipush (v := (-2)) B.1 B.2.1 dX8_place_80 (by decide) ?_
      exact r_eI B hC (v := (-2)) (⟨by have z := sw_out4 e14_; rw [placeA, if_pos q_8, if_neg z.1, if_neg z.2.1, if_neg z.2.2.1, if_neg z.2.2.2], rfl⟩) dX8_place_82
  · have q_8 : isP (xh x) p = false := bI_f.mp c_8
    refine lv_iconst (v := (-1)) B.1 B.2.1 dX8_place_11 (by decide) ?_
    exact r_eI B hC (v := (-1)) (⟨by rw [placeA, if_neg (by rw [q_8]; decide)], rfl⟩) dX8_place_12
theorem iwX8_timber_X8 : ∀ w ∈ u_ws RX8 TX8 8, w ∈ wsX8_timber := by decide +kernel
theorem flX8_timber_19 : Cond.fieldLink RX8 19 RX8 (TX8 1).2.1 (TX8 1).2.2.1 ∈ wsX8_timber := by decide +kernel
theorem flX8_timber_26 : Cond.fieldLink RX8 26 RX8 (TX8 2).2.1 (TX8 2).2.2.1 ∈ wsX8_timber := by decide +kernel
set_option maxHeartbeats 4000000 in
set_option maxRecDepth 100000 in
theorem ctX8_timber (l : Launch) (g : Gx) (lo : Nat) (ad : Nat → Nat) {F : Nat → va_E} {x : XV} (hX : XC g ad F x) (okx : XOK x) {p q : Int32} : MI l g lo 196 ad yX8_timber wsX8_timber 1 21 [.ref (ad (0)), .int (p), .int (q)] F (fun r F' => r = timberA (xh x) (xw x) p q ∧ F' = F) := by
  obtain ⟨hP, hT, hH, hL, hA, hS, ⟨wt, hW, hct⟩, ⟨c, hCh⟩, ⟨fm, fo, hQ⟩, rv0, hR, okR⟩ := id hX
  obtain ⟨okT, okH, okL, okA, okS, okAu, okSu⟩ := id okx
  have okn := okH.1
  have okt := okT.1
  refine enter (cc := cX8_timber) (maxL := 3) (ret := some .int) (own := RX8) (by decide +kernel) rfl rfl (Nat.le_of_ble_eq_true rfl) ?_
  intro pp ee ss mm below meth cc B hini hC ls hl
  have hl : lv_has ls 3 [(0, .ref (ad (0))), (1, .int (p)), (2, .int (q))] := hl
  refine lv_aload_n B.1 B.2.1 dX8_timber_0 rfl (lv_at hl 0 rfl) ?_
  refine r_cg B hC (i := 0) (by decide) hP (C := RX8) (T := TX8) (n := 8) rfl iwX8_timber_X8 1 (by decide) (index := 19) flX8_timber_19 rfl (v := .ref (ad (3))) rfl dX8_timber_1 ?_
  refine lv_iload_n B.1 B.2.1 dX8_timber_4 rfl (lv_at hl 1 rfl) ?_
  refine r_calli B hC hl.1 (3) 2 rfl rfl (by decide) (hH.1) (As := [.int (p)]) (ctX2_isPlace_any l g lo ad hH okH (x := p)) gX8_timber_X2_isPlace rfl (n := 1) rfl (by decide +kernel) ⟨Nat.le_of_ble_eq_true rfl, Nat.le_of_ble_eq_true rfl⟩ ⟨Nat.zero_le _, Nat.zero_le _⟩ rfl (Nat.le_of_ble_eq_true rfl) dX8_timber_5 (fun r5 F1 H locs hp5 hC => ?_)
  obtain ⟨er, eF⟩ := hp5
  subst er
  rw [eF] at hC
  refine lv_if_ne (tgt := 13) B.1 B.2.1 dX8_timber_8 (by decide) (fun c_8 => ?_) (fun c_8 => ?_)
  · have q_8 : isP (xh x) p = true := bI_t.mp c_8
    obtain ⟨j, hj, ej⟩ := isP_t okH q_8
    have hj31 : j < 2 ^ 31 := by omega
    refine lv_iload_n B.1 B.2.1 dX8_timber_13 rfl (lv_at hl 2 rfl) ?_
    rcases sw4 (q) with e14_ | e14_ | e14_ | e14_ | e14_
    · refine r_tI (y := nI 0) e14_ ?_
      refine lv_tableIn (off := 30) (tgt := 44) B.1 B.2.1 dX8_timber_14 (by decide) (by decide) (by decide) (by decide) ?_
      refine lv_aload_n B.1 B.2.1 dX8_timber_44 rfl (lv_at hl 0 rfl) ?_
      refine r_cg B hC (i := 0) (by decide) hP (C := RX8) (T := TX8) (n := 8) rfl iwX8_timber_X8 2 (by decide) (index := 26) flX8_timber_26 rfl (v := .ref (ad (8))) rfl dX8_timber_45 ?_
      refine lv_iload_n B.1 B.2.1 dX8_timber_48 rfl (lv_at hl 1 rfl) ?_
      refine r_tI (y := nI j) (ej) ?_
      refine r_calli B hC hl.1 (8) 3 rfl rfl (by decide) (hL.1) (As := [.int (nI j)]) (ctX3_whereIs l g lo ad (b := 8) (by decide) hL (t := j) (by omega)) gX8_timber_X3_whereIs rfl (n := 1) rfl (by decide +kernel) ⟨Nat.le_of_ble_eq_true rfl, Nat.le_of_ble_eq_true rfl⟩ ⟨Nat.zero_le _, Nat.zero_le _⟩ rfl (Nat.le_of_ble_eq_true rfl) dX8_timber_49 (fun r49 F1 H locs hp49 hC => ?_)
      obtain ⟨er, eF⟩ := hp49
      subst er
      rw [eF] at hC
      exact r_eI B hC (v := nI (wh (xw x) j)) (⟨by rw [timberA, if_pos q_8, e14_, if_pos rfl, ej, ix_n hj31], rfl⟩) dX8_timber_52
    · refine r_tI (y := nI 1) e14_ ?_
      refine lv_tableIn (off := 39) (tgt := 53) B.1 B.2.1 dX8_timber_14 (by decide) (by decide) (by decide) (by decide) ?_
      refine lv_aload_n B.1 B.2.1 dX8_timber_53 rfl (lv_at hl 0 rfl) ?_
      refine r_cg B hC (i := 0) (by decide) hP (C := RX8) (T := TX8) (n := 8) rfl iwX8_timber_X8 2 (by decide) (index := 26) flX8_timber_26 rfl (v := .ref (ad (8))) rfl dX8_timber_54 ?_
      refine lv_iload_n B.1 B.2.1 dX8_timber_57 rfl (lv_at hl 1 rfl) ?_
      refine r_tI (y := nI j) (ej) ?_
      refine r_calli B hC hl.1 (8) 3 rfl rfl (by decide) (hL.1) (As := [.int (nI j)]) (ctX3_lengthOf l g lo ad (b := 8) (by decide) hL (t := j) (by omega)) gX8_timber_X3_lengthOf rfl (n := 1) rfl (by decide +kernel) ⟨Nat.le_of_ble_eq_true rfl, Nat.le_of_ble_eq_true rfl⟩ ⟨Nat.zero_le _, Nat.zero_le _⟩ rfl (Nat.le_of_ble_eq_true rfl) dX8_timber_58 (fun r58 F1 H locs hp58 hC => ?_)
      obtain ⟨er, eF⟩ := hp58
      subst er
      rw [eF] at hC
      exact r_eI B hC (v := nI (ln (xw x) j)) (⟨by rw [timberA, if_pos q_8, e14_, if_neg (by decide), if_pos rfl, ej, ix_n hj31], rfl⟩) dX8_timber_61
    · refine r_tI (y := nI 2) e14_ ?_
      refine lv_tableIn (off := 48) (tgt := 62) B.1 B.2.1 dX8_timber_14 (by decide) (by decide) (by decide) (by decide) ?_
      refine lv_aload_n B.1 B.2.1 dX8_timber_62 rfl (lv_at hl 0 rfl) ?_
      refine r_cg B hC (i := 0) (by decide) hP (C := RX8) (T := TX8) (n := 8) rfl iwX8_timber_X8 1 (by decide) (index := 19) flX8_timber_19 rfl (v := .ref (ad (3))) rfl dX8_timber_63 ?_
      refine lv_iload_n B.1 B.2.1 dX8_timber_66 rfl (lv_at hl 1 rfl) ?_
      refine r_tI (y := nI j) (ej) ?_
      refine r_calli B hC hl.1 (3) 2 rfl rfl (by decide) (hH.1) (As := [.int (nI j)]) (ctX2_shipOf l g lo ad hH okH (p := j) hj) gX8_timber_X2_shipOf rfl (n := 1) rfl (by decide +kernel) ⟨Nat.le_of_ble_eq_true rfl, Nat.le_of_ble_eq_true rfl⟩ ⟨Nat.zero_le _, Nat.zero_le _⟩ rfl (Nat.le_of_ble_eq_true rfl) dX8_timber_67 (fun r67 F1 H locs hp67 hC => ?_)
      obtain ⟨er, eF⟩ := hp67
      subst er
      rw [eF] at hC
      exact r_eI B hC (v := oI (hsh (xh x) j)) (⟨by rw [timberA, if_pos q_8, e14_, if_neg (by decide), if_neg (by decide), if_pos rfl, ej, ix_n hj31], rfl⟩) dX8_timber_70
    · refine r_tI (y := nI 3) e14_ ?_
      refine lv_tableIn (off := 57) (tgt := 71) B.1 B.2.1 dX8_timber_14 (by decide) (by decide) (by decide) (by decide) ?_
      refine lv_aload_n B.1 B.2.1 dX8_timber_71 rfl (lv_at hl 0 rfl) ?_
      refine r_cg B hC (i := 0) (by decide) hP (C := RX8) (T := TX8) (n := 8) rfl iwX8_timber_X8 2 (by decide) (index := 26) flX8_timber_26 rfl (v := .ref (ad (8))) rfl dX8_timber_72 ?_
      refine lv_iload_n B.1 B.2.1 dX8_timber_75 rfl (lv_at hl 1 rfl) ?_
      refine r_tI (y := nI j) (ej) ?_
      refine r_calli B hC hl.1 (8) 3 rfl rfl (by decide) (hL.1) (As := [.int (nI j)]) (ctX3_wormsIn_some l g lo ad (b := 8) (by decide) hL (t := j) (by omega)) gX8_timber_X3_wormsIn rfl (n := 1) rfl (by decide +kernel) ⟨Nat.le_of_ble_eq_true rfl, Nat.le_of_ble_eq_true rfl⟩ ⟨Nat.zero_le _, Nat.zero_le _⟩ rfl (Nat.le_of_ble_eq_true rfl) dX8_timber_76 (fun r76 F1 H locs hp76 hC => ?_)
      obtain ⟨er, eF⟩ := hp76
      subst er
      rw [eF] at hC
      exact r_eI B hC (v := nI (wo (xw x) j)) (⟨by rw [timberA, if_pos q_8, e14_, if_neg (by decide), if_neg (by decide), if_neg (by decide), if_pos rfl, ej, ix_n hj31], rfl⟩) dX8_timber_79
    · refine lv_tableOut (tgt := 80) B.1 B.2.1 dX8_timber_14 e14_ (by decide) ?_
      refine lv_bipush (v := (-2)) B.1 B.2.1 dX8_timber_80 (by decide) ?_
      exact r_eI B hC (v := (-2)) (⟨by have z := sw_out4 e14_; rw [timberA, if_pos q_8, if_neg z.1, if_neg z.2.1, if_neg z.2.2.1, if_neg z.2.2.2], rfl⟩) dX8_timber_82
  · have q_8 : isP (xh x) p = false := bI_f.mp c_8
    refine lv_iconst (v := (-1)) B.1 B.2.1 dX8_timber_11 (by decide) ?_
    exact r_eI B hC (v := (-1)) (⟨by rw [timberA, if_neg (by rw [q_8]; decide)], rfl⟩) dX8_timber_12
theorem iwX8_may_X8 : ∀ w ∈ u_ws RX8 TX8 8, w ∈ wsX8_may := by decide +kernel
theorem flX8_may_19 : Cond.fieldLink RX8 19 RX8 (TX8 1).2.1 (TX8 1).2.2.1 ∈ wsX8_may := by decide +kernel
theorem flX8_may_26 : Cond.fieldLink RX8 26 RX8 (TX8 2).2.1 (TX8 2).2.2.1 ∈ wsX8_may := by decide +kernel
set_option maxHeartbeats 4000000 in
set_option maxRecDepth 100000 in
theorem ctX8_may (l : Launch) (g : Gx) (lo : Nat) (ad : Nat → Nat) {F : Nat → va_E} {x : XV} (hX : XC g ad F x) (okx : XOK x) {t p : Int32} : MI l g lo 196 ad yX8_may wsX8_may 3 69 [.ref (ad (0)), .int (t), .int (p)] F (fun r F' => r = mayA (xh x) (xw x) t p ∧ F' = F) := by
  obtain ⟨hP, hT, hH, hL, hA, hS, ⟨wt, hW, hct⟩, ⟨c, hCh⟩, ⟨fm, fo, hQ⟩, rv0, hR, okR⟩ := id hX
  obtain ⟨okT, okH, okL, okA, okS, okAu, okSu⟩ := id okx
  have okn := okH.1
  have okt := okT.1
  refine enter (cc := cX8_may) (maxL := 3) (ret := some .int) (own := RX8) (by decide +kernel) rfl rfl (Nat.le_of_ble_eq_true rfl) ?_
  intro pp ee ss mm below meth cc B hini hC ls hl
  have hl : lv_has ls 3 [(0, .ref (ad (0))), (1, .int (t)), (2, .int (p))] := hl
  refine lv_aload_n B.1 B.2.1 dX8_may_0 rfl (lv_at hl 0 rfl) ?_
  refine r_cg B hC (i := 0) (by decide) hP (C := RX8) (T := TX8) (n := 8) rfl iwX8_may_X8 1 (by decide) (index := 19) flX8_may_19 rfl (v := .ref (ad (3))) rfl dX8_may_1 ?_
  refine lv_iload_n B.1 B.2.1 dX8_may_4 rfl (lv_at hl 1 rfl) ?_
  refine r_calli B hC hl.1 (3) 2 rfl rfl (by decide) (hH.1) (As := [.int (t)]) (ctX2_isPlace_any l g lo ad hH okH (x := t)) gX8_may_X2_isPlace rfl (n := 1) rfl (by decide +kernel) ⟨Nat.le_of_ble_eq_true rfl, Nat.le_of_ble_eq_true rfl⟩ ⟨Nat.zero_le _, Nat.zero_le _⟩ rfl (Nat.le_of_ble_eq_true rfl) dX8_may_5 (fun r5 F1 H locs hp5 hC => ?_)
  obtain ⟨er, eF⟩ := hp5
  subst er
  rw [eF] at hC
  refine lv_if_eq (tgt := 22) B.1 B.2.1 dX8_may_8 (by decide) (fun c_8 => ?_) (fun c_8 => ?_)
  · have q_8 : isP (xh x) t = false := bI_f.mp c_8
    refine lv_iconst (v := (-1)) B.1 B.2.1 dX8_may_22 (by decide) ?_
    exact r_eI B hC (v := (-1)) (⟨by rw [mayA, if_neg (fun z => by first | (rw [q_8] at z; exact absurd z.1 (by decide)) | (rw [q_19] at z; exact absurd z.2 (by decide)))], rfl⟩) dX8_may_23
  · have q_8 : isP (xh x) t = true := bI_t.mp c_8
    refine lv_aload_n B.1 B.2.1 dX8_may_11 rfl (lv_at hl 0 rfl) ?_
    refine r_cg B hC (i := 0) (by decide) hP (C := RX8) (T := TX8) (n := 8) rfl iwX8_may_X8 1 (by decide) (index := 19) flX8_may_19 rfl (v := .ref (ad (3))) rfl dX8_may_12 ?_
    refine lv_iload_n B.1 B.2.1 dX8_may_15 rfl (lv_at hl 2 rfl) ?_
    refine r_calli B hC hl.1 (3) 2 rfl rfl (by decide) (hH.1) (As := [.int (p)]) (ctX2_isPlace_any l g lo ad hH okH (x := p)) gX8_may_X2_isPlace rfl (n := 1) rfl (by decide +kernel) ⟨Nat.le_of_ble_eq_true rfl, Nat.le_of_ble_eq_true rfl⟩ ⟨Nat.zero_le _, Nat.zero_le _⟩ rfl (Nat.le_of_ble_eq_true rfl) dX8_may_16 (fun r16 F1 H locs hp16 hC => ?_)
    obtain ⟨er, eF⟩ := hp16
    subst er
    rw [eF] at hC
    refine lv_if_ne (tgt := 24) B.1 B.2.1 dX8_may_19 (by decide) (fun c_19 => ?_) (fun c_19 => ?_)
    · have q_19 : isP (xh x) p = true := bI_t.mp c_19
      obtain ⟨j, hj, ej⟩ := isP_t okH q_8
      obtain ⟨i, hi, ei⟩ := isP_t okH q_19
      have hj31 : j < 2 ^ 31 := by omega
      have hi31 : i < 2 ^ 31 := by omega
      refine lv_aload_n B.1 B.2.1 dX8_may_24 rfl (lv_at hl 0 rfl) ?_
      refine r_cg B hC (i := 0) (by decide) hP (C := RX8) (T := TX8) (n := 8) rfl iwX8_may_X8 2 (by decide) (index := 26) flX8_may_26 rfl (v := .ref (ad (8))) rfl dX8_may_25 ?_
      refine r_calli B hC hl.1 (8) 3 rfl rfl (by decide) (hL.1) (As := []) (ctX3_isSunk l g lo ad (b := 8) (by decide) hL) gX8_may_X3_isSunk rfl (n := 0) rfl (by decide +kernel) ⟨Nat.le_of_ble_eq_true rfl, Nat.le_of_ble_eq_true rfl⟩ ⟨Nat.zero_le _, Nat.zero_le _⟩ rfl (Nat.le_of_ble_eq_true rfl) dX8_may_28 (fun r28 F1 H locs hp28 hC => ?_)
      obtain ⟨er, eF⟩ := hp28
      subst er
      rw [eF] at hC
      refine lv_if_ne (tgt := 54) B.1 B.2.1 dX8_may_31 (by decide) (fun c_31 => ?_) (fun c_31 => ?_)
      · have q_31 : (su (xw x)) = true := bI_t.mp c_31
        refine lv_iconst (v := nI 0) B.1 B.2.1 dX8_may_54 (by decide) ?_
        exact r_eI B hC (v := nI 0) (⟨by rw [mayA, if_pos ⟨q_8, q_19⟩, ej, ei, ix_n hj31, ix_n hi31]; simp [q_31]; rfl, rfl⟩) dX8_may_55
      · have q_31 : (su (xw x)) = false := bI_f.mp c_31
        refine lv_aload_n B.1 B.2.1 dX8_may_34 rfl (lv_at hl 0 rfl) ?_
        refine r_cg B hC (i := 0) (by decide) hP (C := RX8) (T := TX8) (n := 8) rfl iwX8_may_X8 1 (by decide) (index := 19) flX8_may_19 rfl (v := .ref (ad (3))) rfl dX8_may_35 ?_
        refine lv_iload_n B.1 B.2.1 dX8_may_38 rfl (lv_at hl 1 rfl) ?_
        refine r_tI (y := nI j) (ej) ?_
        refine lv_iload_n B.1 B.2.1 dX8_may_39 rfl (lv_at hl 2 rfl) ?_
        refine r_tI (y := nI i) (ei) ?_
        refine lv_aload_n B.1 B.2.1 dX8_may_40 rfl (lv_at hl 0 rfl) ?_
        refine r_cg B hC (i := 0) (by decide) hP (C := RX8) (T := TX8) (n := 8) rfl iwX8_may_X8 2 (by decide) (index := 26) flX8_may_26 rfl (v := .ref (ad (8))) rfl dX8_may_41 ?_
        refine r_calli B hC hl.1 (3) 2 rfl rfl (by decide) (hH.1) (As := [.int (nI j), .int (nI i), .ref (ad (8))]) (ctX2_mayBeMoved l g lo ad hH okH (b := 8) (by decide) hL okL (t := j) (p := i) (by omega) (by omega)) gX8_may_X2_mayBeMoved rfl (n := 3) rfl (by decide +kernel) ⟨Nat.le_of_ble_eq_true rfl, Nat.le_of_ble_eq_true rfl⟩ ⟨Nat.zero_le _, Nat.zero_le _⟩ rfl (Nat.le_of_ble_eq_true rfl) dX8_may_44 (fun r44 F1 H locs hp44 hC => ?_)
        obtain ⟨er, eF⟩ := hp44
        subst er
        rw [eF] at hC
        refine lv_if_eq (tgt := 54) B.1 B.2.1 dX8_may_47 (by decide) (fun c_47 => ?_) (fun c_47 => ?_)
        · have q_47 : (mayV (xh x) (xw x) j i) = false := bI_f.mp c_47
          refine lv_iconst (v := nI 0) B.1 B.2.1 dX8_may_54 (by decide) ?_
          exact r_eI B hC (v := nI 0) (⟨by rw [mayA, if_pos ⟨q_8, q_19⟩, ej, ei, ix_n hj31, ix_n hi31]; simp [q_31, q_47]; rfl, rfl⟩) dX8_may_55
        · have q_47 : (mayV (xh x) (xw x) j i) = true := bI_t.mp c_47
          refine lv_iconst (v := nI 1) B.1 B.2.1 dX8_may_50 (by decide) ?_
          refine lv_goto (tgt := 55) B.1 B.2.1 dX8_may_51 (by decide) ?_
          exact r_eI B hC (v := nI 1) (⟨by rw [mayA, if_pos ⟨q_8, q_19⟩, ej, ei, ix_n hj31, ix_n hi31]; simp [q_31, q_47]; rfl, rfl⟩) dX8_may_55
    · have q_19 : isP (xh x) p = false := bI_f.mp c_19
      refine lv_iconst (v := (-1)) B.1 B.2.1 dX8_may_22 (by decide) ?_
      exact r_eI B hC (v := (-1)) (⟨by rw [mayA, if_neg (fun z => by first | (rw [q_8] at z; exact absurd z.1 (by decide)) | (rw [q_19] at z; exact absurd z.2 (by decide)))], rfl⟩) dX8_may_23
