/-! SEARCH: rowsTo -/
theorem iwX5_rowsTo_X5 : ∀ w ∈ u_ws RX5 TX5 5, w ∈ wsX5_rowsTo := by decide +kernel
theorem flX5_rowsTo_19 : Cond.fieldLink RX5 19 RX5 (TX5 0).2.1 (TX5 0).2.2.1 ∈ wsX5_rowsTo := by decide +kernel
set_option maxHeartbeats 4000000 in
set_option maxRecDepth 100000 in
theorem ctX5_rowsTo0 (l : Launch) (g : Gx) (lo : Nat) (ad : Nat → Nat) {F : Nat → va_E} {h : HV} (hH : HullC g ad F h) (ok : HOK h) {w : LV} (hL : LoadC g ad F 8 w) (hw : LOK h w) {v : RV} (hR : RowsC g ad F v) (okR : ROK v) {fm : Nat} {fo : Nat → Int32} (hS : SeaC g ad F fm fo) {q : Nat} (hq : q < 1024) : MI l g lo 196 ad yX5_rowsTo wsX5_rowsTo 5 116 [.ref (ad (155)), .int (nI q), .ref (ad (8)), .int (nI 0)] F (fun r F' => ∃ v', r = nI (logV h w 0 q) ∧ RowsC g ad F' v' ∧ ROK v' ∧ Same 157 175 F F') := by
  obtain ⟨g0, g1, g2, g3, g4⟩ := id hH
  have okn := ok.1
  have okp := ok.2.1
  have okh := ok.2.2.1
  obtain ⟨r0, r1, r2, rL⟩ := id hR
  obtain ⟨q0, q1⟩ := id hS
  have hlk := leakV_le (w := w) ok
  refine enter (cc := cX5_rowsTo) (maxL := 6) (ret := some .int) (own := RX5) (by decide +kernel) rfl rfl (Nat.le_of_ble_eq_true rfl) ?_
  intro pp ee ss mm below meth cc B hini hC ls hl
  have hl : lv_has ls 6 [(0, .ref (ad (155))), (1, .int (nI q)), (2, .ref (ad (8))), (3, .int (nI 0))] := hl
  refine lv_iload_n B.1 B.2.1 dX5_rowsTo_0 rfl (lv_at hl 3 rfl) ?_
  refine lv_iconst (v := nI 1) B.1 B.2.1 dX5_rowsTo_1 (by decide) ?_
  refine lv_icmp_ge (tgt := 23) B.1 B.2.1 dX5_rowsTo_2 (by decide) (fun z => absurd z (nI_ge (by omega) (by omega))) (fun _ => ?_)
  refine lv_aload_n B.1 B.2.1 dX5_rowsTo_5 rfl (lv_at hl 0 rfl) ?_
  refine r_cg B hC (i := 155) (by decide) q0 (C := RX5) (T := TX5) (n := 5) rfl iwX5_rowsTo_X5 0 (by decide) (index := 19) flX5_rowsTo_19 rfl (v := .ref (ad (3))) rfl dX5_rowsTo_6 ?_
  refine lv_aload_n B.1 B.2.1 dX5_rowsTo_9 rfl (lv_at hl 2 rfl) ?_
  refine r_calli B hC hl.1 (3) 2 rfl rfl (by decide) g0 (As := [.ref (ad (8))]) (ctX2_openPlaces l g lo ad hH ok (b := 8) (by decide) hL hw) gX5_rowsTo_X2_openPlaces rfl (n := 1) rfl (by decide +kernel) ⟨Nat.le_of_ble_eq_true rfl, Nat.le_of_ble_eq_true rfl⟩ ⟨Nat.zero_le _, Nat.zero_le _⟩ rfl (Nat.le_of_ble_eq_true rfl) dX5_rowsTo_10 (fun r10 F1 H locs hp10 hC => ?_)
  obtain ⟨er, eF⟩ := hp10
  subst er
  rw [eF] at hC
  refine lv_iload_n B.1 B.2.1 dX5_rowsTo_13 rfl (lv_at hl 1 rfl) ?_
  refine lv_icmp_ne (tgt := 21) B.1 B.2.1 dX5_rowsTo_14 (by decide) (fun c_14 => ?_) (fun c_14 => ?_)
  · have q_14 : ¬ openTo w (hn h) = q := fun z => c_14 (by rw [z])
    refine lv_iconst (v := nI 0) B.1 B.2.1 dX5_rowsTo_21 (by decide) ?_
    exact r_eI B hC (v := nI 0) (⟨v, by rw [logV, if_pos rfl, if_neg q_14], hR, okR, Same.rf⟩) dX5_rowsTo_22
  · have q_14 : openTo w (hn h) = q := (nI_eq (Nat.lt_trans (open_1024 ok w) (by decide)) (by omega)).mp c_14
    refine lv_iconst (v := nI 1) B.1 B.2.1 dX5_rowsTo_17 (by decide) ?_
    refine lv_goto (tgt := 22) B.1 B.2.1 dX5_rowsTo_18 (by decide) ?_
    exact r_eI B hC (v := nI 1) (⟨v, by rw [logV, if_pos rfl, if_pos q_14], hR, okR, Same.rf⟩) dX5_rowsTo_22
theorem flX5_rowsTo_32 : Cond.fieldLink RX5 32 RX5 (TX5 2).2.1 (TX5 2).2.2.1 ∈ wsX5_rowsTo := by decide +kernel
set_option maxHeartbeats 4000000 in
set_option maxRecDepth 100000 in
theorem ctX5_rowsTo1 (l : Launch) (g : Gx) (lo : Nat) (ad : Nat → Nat) {F : Nat → va_E} {h : HV} (hH : HullC g ad F h) (ok : HOK h) {w : LV} (hL : LoadC g ad F 8 w) (hw : LOK h w) {v : RV} (hR : RowsC g ad F v) (okR : ROK v) {fm : Nat} {fo : Nat → Int32} (hS : SeaC g ad F fm fo) {q : Nat} (hq : q < 1024) : MI l g lo 196 ad yX5_rowsTo wsX5_rowsTo 5 116 [.ref (ad (155)), .int (nI q), .ref (ad (8)), .int (nI 1)] F (fun r F' => ∃ v', r = nI (logV h w 1 q) ∧ RowsC g ad F' v' ∧ ROK v' ∧ Same 157 175 F F') := by
  obtain ⟨g0, g1, g2, g3, g4⟩ := id hH
  have okn := ok.1
  have okp := ok.2.1
  have okh := ok.2.2.1
  obtain ⟨r0, r1, r2, rL⟩ := id hR
  obtain ⟨q0, q1⟩ := id hS
  have hlk := leakV_le (w := w) ok
  refine enter (cc := cX5_rowsTo) (maxL := 6) (ret := some .int) (own := RX5) (by decide +kernel) rfl rfl (Nat.le_of_ble_eq_true rfl) ?_
  intro pp ee ss mm below meth cc B hini hC ls hl
  have hl : lv_has ls 6 [(0, .ref (ad (155))), (1, .int (nI q)), (2, .ref (ad (8))), (3, .int (nI 1))] := hl
  refine lv_iload_n B.1 B.2.1 dX5_rowsTo_0 rfl (lv_at hl 3 rfl) ?_
  refine lv_iconst (v := nI 1) B.1 B.2.1 dX5_rowsTo_1 (by decide) ?_
  refine lv_icmp_ge (tgt := 23) B.1 B.2.1 dX5_rowsTo_2 (by decide) (fun _ => ?_) (fun z => absurd (nI_le (by omega) (by omega)) z)
  refine lv_iconst (v := nI 0) B.1 B.2.1 dX5_rowsTo_23 (by decide) ?_
  refine lv_istore (lv' := [(4, .int (nI 0)), (0, .ref (ad (155))), (1, .int (nI q)), (2, .ref (ad (8))), (3, .int (nI 1))]) B.1 B.2.1 dX5_rowsTo_24 hl (by decide) rfl (fun ls hl => ?_)
  refine lv_aload_n B.1 B.2.1 dX5_rowsTo_26 rfl (lv_at hl 1 rfl) ?_
  refine r_cg B hC (i := 155) (by decide) q0 (C := RX5) (T := TX5) (n := 5) rfl iwX5_rowsTo_X5 2 (by decide) (index := 32) flX5_rowsTo_32 rfl (v := .ref (ad (157))) rfl dX5_rowsTo_27 ?_
  refine lv_aload_n B.1 B.2.1 dX5_rowsTo_30 rfl (lv_at hl 3 rfl) ?_
  refine lv_iload_n B.1 B.2.1 dX5_rowsTo_31 rfl (lv_at hl 4 rfl) ?_
  refine lv_iconst (v := nI 1) B.1 B.2.1 dX5_rowsTo_32 (by decide) ?_
  refine lv_isub B.1 B.2.1 dX5_rowsTo_33 ?_
  refine r_tI (y := nI 0) (by decide) ?_
  refine r_callv B hC hl.1 (157) 4 rfl rfl (by decide) r0 (As := [.ref (ad (8)), .int (nI 0)]) (ctX4_begin l g lo ad hR okR (hL.at (fun i h1 h2 => by rfl)) hw.can (e := 0) (by decide)) gX5_rowsTo_X4_begin rfl (n := 2) rfl (by decide +kernel) ⟨Nat.le_of_ble_eq_true rfl, Nat.le_of_ble_eq_true rfl⟩ ⟨Nat.zero_le _, Nat.zero_le _⟩ rfl (Nat.le_of_ble_eq_true rfl) dX5_rowsTo_34 (fun F1 H locs hp34 hC => ?_)
  obtain ⟨hR_F1, hs_F1⟩ := hp34
  have ok_F1 : ROK (0, false, rro v, va_up (rst v) 0 w) := ROK_up (a := 0) (b := true) (r := rro v) okR rfl hw.can _ _ _
  have hI_F1 : RIt h w (0, false, rro v, va_up (rst v) 0 w) (rowsV h w 0) := ⟨hw, (show va_up (rst v) 0 w 0 = w from va_up_self _ _ _), ok_F1, (show 0 ≤ 2 by decide), Or.inl ⟨rfl, rfl⟩⟩
  obtain ⟨r0_F1, r1_F1, r2_F1, rL_F1⟩ := id hR_F1
  have g0_F1 : F1 3 = .inr (2, [.ref (ad (4)), .ref (ad (5)), .ref (ad (6)), .ref (ad (7)), .int (nI (hn h)), .int (nI (hpu h)), .int (nI (hho h))]) := (hs_F1 _ (by omega)).trans g0
  have q0_F1 : F1 155 = .inr (5, [.ref (ad (3)), .ref (ad (13)), .ref (ad (157)), .ref (ad (156)), .int (nI fm)]) := (hs_F1 _ (by omega)).trans q0
  have q1_F1 : F1 156 = .inl (g.2.2 0, 2, .inl (fo)) := (hs_F1 _ (by omega)).trans q1
  refine lv_iconst (v := nI 0) B.1 B.2.1 dX5_rowsTo_37 (by decide) ?_
  refine lv_istore (lv' := [(5, .int (nI 0)), (4, .int (nI 0)), (0, .ref (ad (155))), (1, .int (nI q)), (2, .ref (ad (8))), (3, .int (nI 1))]) B.1 B.2.1 dX5_rowsTo_38 hl (by decide) rfl (fun ls hl => ?_)
  have loop40 : ∀ (k : Nat) (i a : Nat) (rem : List (List Nat)) (u : RV) (G : Nat → va_E), (rem.length < k) → (i + k ≤ 20000) → (RowsC g ad G u) → (RIt h w u rem) → (rmv u = 0) → (a + sumL (fun e => lastN h (endV h w e) q) rem = logV h w 1 q) → (Same 157 175 F G) → ∀ (H : Heap) (locs : List Loc) (ls : Array Slot), Cu g lo 196 ad G ss ss.heap H locs → lv_has ls 6 [(5, .int (nI i)), (4, .int (nI a)), (0, .ref (ad (155))), (1, .int (nI q)), (2, .ref (ad (8))), (3, .int (nI 1))] → W pp l ee { frames := 5, cells := 0, slots := 0, locals := 116 } ss mm ([.ref (ad (155)), .int (nI q), .ref (ad (8)), .int (nI 1)] : List Value).toArray below meth cc H locs 0 0 (MQ below (va_Qi (fun r F' => ∃ v', r = nI (logV h w 1 q) ∧ RowsC g ad F' v' ∧ ROK v' ∧ Same 157 175 F F') (fun F' t => Wd g lo 196 ad F' t) (fun q => lo ≤ q)) ([.ref (ad (155)), .int (nI q), .ref (ad (8)), .int (nI 1)] : List Value).toArray ss 0 0 (fun q => lo ≤ q)) (F0 mm 40 ls []) := by
    intro k
    induction k with
    | zero => intro i a rem u G hlt hi hRG hI hmu he hs; exact absurd hlt (Nat.not_lt_zero _)
    | succ k ih =>
      intro i a rem u G hlt hi hRG hI hmu he hs H locs ls hC hl
      obtain ⟨r0, r1, r2, rL⟩ := id hRG
      have g0G : G 3 = .inr (2, [.ref (ad (4)), .ref (ad (5)), .ref (ad (6)), .ref (ad (7)), .int (nI (hn h)), .int (nI (hpu h)), .int (nI (hho h))]) := (hs 3 (by omega)).trans g0
      have q0G : G 155 = .inr (5, [.ref (ad (3)), .ref (ad (13)), .ref (ad (157)), .ref (ad (156)), .int (nI fm)]) := (hs 155 (by omega)).trans q0
      have q1G : G 156 = .inl (g.2.2 0, 2, .inl (fo)) := (hs 156 (by omega)).trans q1
      refine lv_iload B.1 B.2.1 dX5_rowsTo_40 (lv_at hl 0 rfl) ?_
      refine lv_ldc (own := RX5) (v := nI 1000000) B.1 B.2.1 B.2.2.2.1 (B.2.2.2.2.1 (.constant RX5 46 (1000000)) (by decide +kernel)) dX5_rowsTo_42 ?_
      refine lv_icmp_ge (tgt := 80) B.1 B.2.1 dX5_rowsTo_44 (by decide) (fun z => absurd z (nI_ge (by omega) (by omega))) (fun _ => ?_)
      refine lv_aload_n B.1 B.2.1 dX5_rowsTo_47 rfl (lv_at hl 2 rfl) ?_
      refine r_cg B hC (i := 155) (by decide) q0G (C := RX5) (T := TX5) (n := 5) rfl iwX5_rowsTo_X5 2 (by decide) (index := 32) flX5_rowsTo_32 rfl (v := .ref (ad (157))) rfl dX5_rowsTo_48 ?_
      refine r_calli B hC hl.1 (157) 4 rfl rfl (by decide) r0 (As := []) (ctX4_next l g lo ad (HullC.keep hH (x := 157) (y := 175) (fun i hi => by rw [hs i (by omega)]) (by decide)) ok hRG hI) gX5_rowsTo_X4_next rfl (n := 0) rfl (by decide +kernel) ⟨Nat.le_of_ble_eq_true rfl, Nat.le_of_ble_eq_true rfl⟩ ⟨Nat.zero_le _, Nat.zero_le _⟩ rfl (Nat.le_of_ble_eq_true rfl) dX5_rowsTo_51 (fun r51 F21 H locs hp51 hC => ?_)
      rcases hp51 with ⟨hs_F21, ⟨er, hrem, v1, hR_F21, ok_F21, hmv1, -⟩ | ⟨e1, es, v1, er, hrem, hR_F21, hI_F21, hCu, hmv1⟩⟩
      · subst er
        obtain ⟨r0_F21, r1_F21, r2_F21, rL_F21⟩ := id hR_F21
        have g0G_F21 : F21 3 = .inr (2, [.ref (ad (4)), .ref (ad (5)), .ref (ad (6)), .ref (ad (7)), .int (nI (hn h)), .int (nI (hpu h)), .int (nI (hho h))]) := (hs_F21 _ (by omega)).trans g0G
        have q0G_F21 : F21 155 = .inr (5, [.ref (ad (3)), .ref (ad (13)), .ref (ad (157)), .ref (ad (156)), .int (nI fm)]) := (hs_F21 _ (by omega)).trans q0G
        have q1G_F21 : F21 156 = .inl (g.2.2 0, 2, .inl (fo)) := (hs_F21 _ (by omega)).trans q1G
        refine lv_if_eq (tgt := 80) B.1 B.2.1 dX5_rowsTo_54 (by decide) (fun _ => ?_) (fun z => absurd (by decide) z)
        refine lv_iload B.1 B.2.1 dX5_rowsTo_80 (lv_at hl 1 rfl) ?_
        exact r_eI B hC (v := nI a) (⟨v1, by rw [← he, hrem]; rfl, hR_F21, ok_F21, fun i hi => by rw [hs_F21 i (by omega)]; rw [hs i (by omega)]⟩) dX5_rowsTo_82
      · subst er
        obtain ⟨r0_F21, r1_F21, r2_F21, rL_F21⟩ := id hR_F21
        have ok_F21 := hI_F21.2.2.1
        have g0G_F21 : F21 3 = .inr (2, [.ref (ad (4)), .ref (ad (5)), .ref (ad (6)), .ref (ad (7)), .int (nI (hn h)), .int (nI (hpu h)), .int (nI (hho h))]) := (hs_F21 _ (by omega)).trans g0G
        have q0G_F21 : F21 155 = .inr (5, [.ref (ad (3)), .ref (ad (13)), .ref (ad (157)), .ref (ad (156)), .int (nI fm)]) := (hs_F21 _ (by omega)).trans q0G
        have q1G_F21 : F21 156 = .inl (g.2.2 0, 2, .inl (fo)) := (hs_F21 _ (by omega)).trans q1G
        refine lv_if_eq (tgt := 80) B.1 B.2.1 dX5_rowsTo_54 (by decide) (fun z => absurd z (by decide)) (fun _ => ?_)
        refine lv_iload B.1 B.2.1 dX5_rowsTo_57 (lv_at hl 1 rfl) ?_
        refine lv_aload_n B.1 B.2.1 dX5_rowsTo_59 rfl (lv_at hl 2 rfl) ?_
        refine lv_iload_n B.1 B.2.1 dX5_rowsTo_60 rfl (lv_at hl 3 rfl) ?_
        refine lv_aload_n B.1 B.2.1 dX5_rowsTo_61 rfl (lv_at hl 2 rfl) ?_
        refine r_cg B hC (i := 155) (by decide) q0G_F21 (C := RX5) (T := TX5) (n := 5) rfl iwX5_rowsTo_X5 2 (by decide) (index := 32) flX5_rowsTo_32 rfl (v := .ref (ad (157))) rfl dX5_rowsTo_62 ?_
        have hm2 : rmv v1 ≤ 2 := by omega
        refine r_callr B hC hl.1 (157) 4 rfl rfl (by decide) r0_F21 (As := []) (ctX4_end l g lo ad hR_F21 hm2) gX5_rowsTo_X4_end rfl (n := 0) rfl (by decide +kernel) ⟨Nat.le_of_ble_eq_true rfl, Nat.le_of_ble_eq_true rfl⟩ ⟨Nat.zero_le _, Nat.zero_le _⟩ rfl (Nat.le_of_ble_eq_true rfl) dX5_rowsTo_65 (fun H locs hC => ?_)
        have hEn : LoadC g ad F21 (160 + 5 * rmv v1) (endV h w e1) := by have z := hR_F21.2.2.2 (rmv v1) (by omega); rw [hCu.2.2.1] at z; exact z
        have lokE := hCu.2.2.2.1
        refine r_calli B hC hl.1 (155) 5 rfl rfl (by decide) q0G_F21 (As := [.int (nI q), .ref (ad ((160 + 5 * rmv v1)))]) (ctX5_lastMovesTo l g lo ad (HullC.keep hH (x := 157) (y := 175) (fun i hi => by rw [hs_F21 i (by omega)]; rw [hs i (by omega)]) (by decide)) ok (b := 160 + 5 * rmv v1) (by omega) hEn lokE (fm := fm) (fo := fo) ⟨q0G_F21, q1G_F21⟩ (q := q) (by omega)) gX5_rowsTo_X5_lastMovesTo rfl (n := 2) rfl (by decide +kernel) ⟨Nat.le_of_ble_eq_true rfl, Nat.le_of_ble_eq_true rfl⟩ ⟨Nat.zero_le _, Nat.zero_le _⟩ rfl (Nat.le_of_ble_eq_true rfl) dX5_rowsTo_68 (fun r68 F22 H locs hp68 hC => ?_)
        obtain ⟨er, eF⟩ := hp68
        subst er
        rw [eF] at hC
        refine lv_iadd B.1 B.2.1 dX5_rowsTo_71 ?_
        refine r_tI (y := nI (a + (lastN h (endV h w e1) q))) (nI_add _ _) ?_
        refine lv_istore (lv' := [(4, .int (nI (a + (lastN h (endV h w e1) q)))), (5, .int (nI i)), (0, .ref (ad (155))), (1, .int (nI q)), (2, .ref (ad (8))), (3, .int (nI 1))]) B.1 B.2.1 dX5_rowsTo_72 hl (by decide) rfl (fun ls hl => ?_)
        refine lv_iinc (v := nI (i + 1)) (lv' := [(5, .int (nI (i + 1))), (4, .int (nI (a + (lastN h (endV h w e1) q)))), (0, .ref (ad (155))), (1, .int (nI q)), (2, .ref (ad (8))), (3, .int (nI 1))]) B.1 B.2.1 dX5_rowsTo_74 hl (k := 1) rfl (nI_1 _) (by decide) rfl (fun ls hl => ?_)
        refine lv_goto (tgt := 40) B.1 B.2.1 dX5_rowsTo_77 (by decide) ?_
        exact ih (i + 1) ((a + (lastN h (endV h w e1) q))) es v1 F21 (by rw [hrem, List.length_cons] at hlt; omega) (by omega) hR_F21 hI_F21 (hmv1.trans hmu) (by rw [← he, hrem, sumL]; omega) (fun i hi => by rw [hs_F21 i (by omega)]; rw [hs i (by omega)]) _ _ ls hC (lv_sub hl [0, 1, 2, 3, 4, 5] rfl)
  exact loop40 10001 0 0 (rowsV h w 0) (0, false, rro v, va_up (rst v) 0 w) F1 (Nat.lt_succ_of_le (rowsV_len h w 0)) (by decide) hR_F1 hI_F1 rfl (by rw [logV, if_neg (by decide), Nat.zero_add]) (fun i hi => by rw [hs_F1 i (by omega)]) _ _ ls hC (lv_sub hl [0, 1, 2, 3, 4, 5] rfl)
set_option maxHeartbeats 4000000 in
set_option maxRecDepth 100000 in
theorem ctX5_rowsTo2 (l : Launch) (g : Gx) (lo : Nat) (ad : Nat → Nat) {F : Nat → va_E} {h : HV} (hH : HullC g ad F h) (ok : HOK h) {w : LV} (hL : LoadC g ad F 8 w) (hw : LOK h w) {v : RV} (hR : RowsC g ad F v) (okR : ROK v) {fm : Nat} {fo : Nat → Int32} (hS : SeaC g ad F fm fo) {q : Nat} (hq : q < 1024) : MI l g lo 196 ad yX5_rowsTo wsX5_rowsTo 5 116 [.ref (ad (155)), .int (nI q), .ref (ad (8)), .int (nI 2)] F (fun r F' => ∃ v', r = nI (logV h w 2 q) ∧ RowsC g ad F' v' ∧ ROK v' ∧ Same 157 175 F F') := by
  obtain ⟨g0, g1, g2, g3, g4⟩ := id hH
  have okn := ok.1
  have okp := ok.2.1
  have okh := ok.2.2.1
  obtain ⟨r0, r1, r2, rL⟩ := id hR
  obtain ⟨q0, q1⟩ := id hS
  have hlk := leakV_le (w := w) ok
  refine enter (cc := cX5_rowsTo) (maxL := 6) (ret := some .int) (own := RX5) (by decide +kernel) rfl rfl (Nat.le_of_ble_eq_true rfl) ?_
  intro pp ee ss mm below meth cc B hini hC ls hl
  have hl : lv_has ls 6 [(0, .ref (ad (155))), (1, .int (nI q)), (2, .ref (ad (8))), (3, .int (nI 2))] := hl
  refine lv_iload_n B.1 B.2.1 dX5_rowsTo_0 rfl (lv_at hl 3 rfl) ?_
  refine lv_iconst (v := nI 1) B.1 B.2.1 dX5_rowsTo_1 (by decide) ?_
  refine lv_icmp_ge (tgt := 23) B.1 B.2.1 dX5_rowsTo_2 (by decide) (fun _ => ?_) (fun z => absurd (nI_le (by omega) (by omega)) z)
  refine lv_iconst (v := nI 0) B.1 B.2.1 dX5_rowsTo_23 (by decide) ?_
  refine lv_istore (lv' := [(4, .int (nI 0)), (0, .ref (ad (155))), (1, .int (nI q)), (2, .ref (ad (8))), (3, .int (nI 2))]) B.1 B.2.1 dX5_rowsTo_24 hl (by decide) rfl (fun ls hl => ?_)
  refine lv_aload_n B.1 B.2.1 dX5_rowsTo_26 rfl (lv_at hl 1 rfl) ?_
  refine r_cg B hC (i := 155) (by decide) q0 (C := RX5) (T := TX5) (n := 5) rfl iwX5_rowsTo_X5 2 (by decide) (index := 32) flX5_rowsTo_32 rfl (v := .ref (ad (157))) rfl dX5_rowsTo_27 ?_
  refine lv_aload_n B.1 B.2.1 dX5_rowsTo_30 rfl (lv_at hl 3 rfl) ?_
  refine lv_iload_n B.1 B.2.1 dX5_rowsTo_31 rfl (lv_at hl 4 rfl) ?_
  refine lv_iconst (v := nI 1) B.1 B.2.1 dX5_rowsTo_32 (by decide) ?_
  refine lv_isub B.1 B.2.1 dX5_rowsTo_33 ?_
  refine r_tI (y := nI 1) (by decide) ?_
  refine r_callv B hC hl.1 (157) 4 rfl rfl (by decide) r0 (As := [.ref (ad (8)), .int (nI 1)]) (ctX4_begin l g lo ad hR okR (hL.at (fun i h1 h2 => by rfl)) hw.can (e := 1) (by decide)) gX5_rowsTo_X4_begin rfl (n := 2) rfl (by decide +kernel) ⟨Nat.le_of_ble_eq_true rfl, Nat.le_of_ble_eq_true rfl⟩ ⟨Nat.zero_le _, Nat.zero_le _⟩ rfl (Nat.le_of_ble_eq_true rfl) dX5_rowsTo_34 (fun F1 H locs hp34 hC => ?_)
  obtain ⟨hR_F1, hs_F1⟩ := hp34
  have ok_F1 : ROK (1, false, rro v, va_up (rst v) 0 w) := ROK_up (a := 0) (b := true) (r := rro v) okR rfl hw.can _ _ _
  have hI_F1 : RIt h w (1, false, rro v, va_up (rst v) 0 w) (rowsV h w 1) := ⟨hw, (show va_up (rst v) 0 w 0 = w from va_up_self _ _ _), ok_F1, (show 1 ≤ 2 by decide), Or.inl ⟨rfl, rfl⟩⟩
  obtain ⟨r0_F1, r1_F1, r2_F1, rL_F1⟩ := id hR_F1
  have g0_F1 : F1 3 = .inr (2, [.ref (ad (4)), .ref (ad (5)), .ref (ad (6)), .ref (ad (7)), .int (nI (hn h)), .int (nI (hpu h)), .int (nI (hho h))]) := (hs_F1 _ (by omega)).trans g0
  have q0_F1 : F1 155 = .inr (5, [.ref (ad (3)), .ref (ad (13)), .ref (ad (157)), .ref (ad (156)), .int (nI fm)]) := (hs_F1 _ (by omega)).trans q0
  have q1_F1 : F1 156 = .inl (g.2.2 0, 2, .inl (fo)) := (hs_F1 _ (by omega)).trans q1
  refine lv_iconst (v := nI 0) B.1 B.2.1 dX5_rowsTo_37 (by decide) ?_
  refine lv_istore (lv' := [(5, .int (nI 0)), (4, .int (nI 0)), (0, .ref (ad (155))), (1, .int (nI q)), (2, .ref (ad (8))), (3, .int (nI 2))]) B.1 B.2.1 dX5_rowsTo_38 hl (by decide) rfl (fun ls hl => ?_)
  have loop40 : ∀ (k : Nat) (i a : Nat) (rem : List (List Nat)) (u : RV) (G : Nat → va_E), (rem.length < k) → (i + k ≤ 20000) → (RowsC g ad G u) → (RIt h w u rem) → (rmv u = 1) → (a + sumL (fun e => lastN h (endV h w e) q) rem = logV h w 2 q) → (Same 157 175 F G) → ∀ (H : Heap) (locs : List Loc) (ls : Array Slot), Cu g lo 196 ad G ss ss.heap H locs → lv_has ls 6 [(5, .int (nI i)), (4, .int (nI a)), (0, .ref (ad (155))), (1, .int (nI q)), (2, .ref (ad (8))), (3, .int (nI 2))] → W pp l ee { frames := 5, cells := 0, slots := 0, locals := 116 } ss mm ([.ref (ad (155)), .int (nI q), .ref (ad (8)), .int (nI 2)] : List Value).toArray below meth cc H locs 0 0 (MQ below (va_Qi (fun r F' => ∃ v', r = nI (logV h w 2 q) ∧ RowsC g ad F' v' ∧ ROK v' ∧ Same 157 175 F F') (fun F' t => Wd g lo 196 ad F' t) (fun q => lo ≤ q)) ([.ref (ad (155)), .int (nI q), .ref (ad (8)), .int (nI 2)] : List Value).toArray ss 0 0 (fun q => lo ≤ q)) (F0 mm 40 ls []) := by
    intro k
    induction k with
    | zero => intro i a rem u G hlt hi hRG hI hmu he hs; exact absurd hlt (Nat.not_lt_zero _)
    | succ k ih =>
      intro i a rem u G hlt hi hRG hI hmu he hs H locs ls hC hl
      obtain ⟨r0, r1, r2, rL⟩ := id hRG
      have g0G : G 3 = .inr (2, [.ref (ad (4)), .ref (ad (5)), .ref (ad (6)), .ref (ad (7)), .int (nI (hn h)), .int (nI (hpu h)), .int (nI (hho h))]) := (hs 3 (by omega)).trans g0
      have q0G : G 155 = .inr (5, [.ref (ad (3)), .ref (ad (13)), .ref (ad (157)), .ref (ad (156)), .int (nI fm)]) := (hs 155 (by omega)).trans q0
      have q1G : G 156 = .inl (g.2.2 0, 2, .inl (fo)) := (hs 156 (by omega)).trans q1
      refine lv_iload B.1 B.2.1 dX5_rowsTo_40 (lv_at hl 0 rfl) ?_
      refine lv_ldc (own := RX5) (v := nI 1000000) B.1 B.2.1 B.2.2.2.1 (B.2.2.2.2.1 (.constant RX5 46 (1000000)) (by decide +kernel)) dX5_rowsTo_42 ?_
      refine lv_icmp_ge (tgt := 80) B.1 B.2.1 dX5_rowsTo_44 (by decide) (fun z => absurd z (nI_ge (by omega) (by omega))) (fun _ => ?_)
      refine lv_aload_n B.1 B.2.1 dX5_rowsTo_47 rfl (lv_at hl 2 rfl) ?_
      refine r_cg B hC (i := 155) (by decide) q0G (C := RX5) (T := TX5) (n := 5) rfl iwX5_rowsTo_X5 2 (by decide) (index := 32) flX5_rowsTo_32 rfl (v := .ref (ad (157))) rfl dX5_rowsTo_48 ?_
      refine r_calli B hC hl.1 (157) 4 rfl rfl (by decide) r0 (As := []) (ctX4_next l g lo ad (HullC.keep hH (x := 157) (y := 175) (fun i hi => by rw [hs i (by omega)]) (by decide)) ok hRG hI) gX5_rowsTo_X4_next rfl (n := 0) rfl (by decide +kernel) ⟨Nat.le_of_ble_eq_true rfl, Nat.le_of_ble_eq_true rfl⟩ ⟨Nat.zero_le _, Nat.zero_le _⟩ rfl (Nat.le_of_ble_eq_true rfl) dX5_rowsTo_51 (fun r51 F21 H locs hp51 hC => ?_)
      rcases hp51 with ⟨hs_F21, ⟨er, hrem, v1, hR_F21, ok_F21, hmv1, -⟩ | ⟨e1, es, v1, er, hrem, hR_F21, hI_F21, hCu, hmv1⟩⟩
      · subst er
        obtain ⟨r0_F21, r1_F21, r2_F21, rL_F21⟩ := id hR_F21
        have g0G_F21 : F21 3 = .inr (2, [.ref (ad (4)), .ref (ad (5)), .ref (ad (6)), .ref (ad (7)), .int (nI (hn h)), .int (nI (hpu h)), .int (nI (hho h))]) := (hs_F21 _ (by omega)).trans g0G
        have q0G_F21 : F21 155 = .inr (5, [.ref (ad (3)), .ref (ad (13)), .ref (ad (157)), .ref (ad (156)), .int (nI fm)]) := (hs_F21 _ (by omega)).trans q0G
        have q1G_F21 : F21 156 = .inl (g.2.2 0, 2, .inl (fo)) := (hs_F21 _ (by omega)).trans q1G
        refine lv_if_eq (tgt := 80) B.1 B.2.1 dX5_rowsTo_54 (by decide) (fun _ => ?_) (fun z => absurd (by decide) z)
        refine lv_iload B.1 B.2.1 dX5_rowsTo_80 (lv_at hl 1 rfl) ?_
        exact r_eI B hC (v := nI a) (⟨v1, by rw [← he, hrem]; rfl, hR_F21, ok_F21, fun i hi => by rw [hs_F21 i (by omega)]; rw [hs i (by omega)]⟩) dX5_rowsTo_82
      · subst er
        obtain ⟨r0_F21, r1_F21, r2_F21, rL_F21⟩ := id hR_F21
        have ok_F21 := hI_F21.2.2.1
        have g0G_F21 : F21 3 = .inr (2, [.ref (ad (4)), .ref (ad (5)), .ref (ad (6)), .ref (ad (7)), .int (nI (hn h)), .int (nI (hpu h)), .int (nI (hho h))]) := (hs_F21 _ (by omega)).trans g0G
        have q0G_F21 : F21 155 = .inr (5, [.ref (ad (3)), .ref (ad (13)), .ref (ad (157)), .ref (ad (156)), .int (nI fm)]) := (hs_F21 _ (by omega)).trans q0G
        have q1G_F21 : F21 156 = .inl (g.2.2 0, 2, .inl (fo)) := (hs_F21 _ (by omega)).trans q1G
        refine lv_if_eq (tgt := 80) B.1 B.2.1 dX5_rowsTo_54 (by decide) (fun z => absurd z (by decide)) (fun _ => ?_)
        refine lv_iload B.1 B.2.1 dX5_rowsTo_57 (lv_at hl 1 rfl) ?_
        refine lv_aload_n B.1 B.2.1 dX5_rowsTo_59 rfl (lv_at hl 2 rfl) ?_
        refine lv_iload_n B.1 B.2.1 dX5_rowsTo_60 rfl (lv_at hl 3 rfl) ?_
        refine lv_aload_n B.1 B.2.1 dX5_rowsTo_61 rfl (lv_at hl 2 rfl) ?_
        refine r_cg B hC (i := 155) (by decide) q0G_F21 (C := RX5) (T := TX5) (n := 5) rfl iwX5_rowsTo_X5 2 (by decide) (index := 32) flX5_rowsTo_32 rfl (v := .ref (ad (157))) rfl dX5_rowsTo_62 ?_
        have hm2 : rmv v1 ≤ 2 := by omega
        refine r_callr B hC hl.1 (157) 4 rfl rfl (by decide) r0_F21 (As := []) (ctX4_end l g lo ad hR_F21 hm2) gX5_rowsTo_X4_end rfl (n := 0) rfl (by decide +kernel) ⟨Nat.le_of_ble_eq_true rfl, Nat.le_of_ble_eq_true rfl⟩ ⟨Nat.zero_le _, Nat.zero_le _⟩ rfl (Nat.le_of_ble_eq_true rfl) dX5_rowsTo_65 (fun H locs hC => ?_)
        have hEn : LoadC g ad F21 (160 + 5 * rmv v1) (endV h w e1) := by have z := hR_F21.2.2.2 (rmv v1) (by omega); rw [hCu.2.2.1] at z; exact z
        have lokE := hCu.2.2.2.1
        refine r_calli B hC hl.1 (155) 5 rfl rfl (by decide) q0G_F21 (As := [.int (nI q), .ref (ad ((160 + 5 * rmv v1)))]) (ctX5_lastMovesTo l g lo ad (HullC.keep hH (x := 157) (y := 175) (fun i hi => by rw [hs_F21 i (by omega)]; rw [hs i (by omega)]) (by decide)) ok (b := 160 + 5 * rmv v1) (by omega) hEn lokE (fm := fm) (fo := fo) ⟨q0G_F21, q1G_F21⟩ (q := q) (by omega)) gX5_rowsTo_X5_lastMovesTo rfl (n := 2) rfl (by decide +kernel) ⟨Nat.le_of_ble_eq_true rfl, Nat.le_of_ble_eq_true rfl⟩ ⟨Nat.zero_le _, Nat.zero_le _⟩ rfl (Nat.le_of_ble_eq_true rfl) dX5_rowsTo_68 (fun r68 F22 H locs hp68 hC => ?_)
        obtain ⟨er, eF⟩ := hp68
        subst er
        rw [eF] at hC
        refine lv_iadd B.1 B.2.1 dX5_rowsTo_71 ?_
        refine r_tI (y := nI (a + (lastN h (endV h w e1) q))) (nI_add _ _) ?_
        refine lv_istore (lv' := [(4, .int (nI (a + (lastN h (endV h w e1) q)))), (5, .int (nI i)), (0, .ref (ad (155))), (1, .int (nI q)), (2, .ref (ad (8))), (3, .int (nI 2))]) B.1 B.2.1 dX5_rowsTo_72 hl (by decide) rfl (fun ls hl => ?_)
        refine lv_iinc (v := nI (i + 1)) (lv' := [(5, .int (nI (i + 1))), (4, .int (nI (a + (lastN h (endV h w e1) q)))), (0, .ref (ad (155))), (1, .int (nI q)), (2, .ref (ad (8))), (3, .int (nI 2))]) B.1 B.2.1 dX5_rowsTo_74 hl (k := 1) rfl (nI_1 _) (by decide) rfl (fun ls hl => ?_)
        refine lv_goto (tgt := 40) B.1 B.2.1 dX5_rowsTo_77 (by decide) ?_
        exact ih (i + 1) ((a + (lastN h (endV h w e1) q))) es v1 F21 (by rw [hrem, List.length_cons] at hlt; omega) (by omega) hR_F21 hI_F21 (hmv1.trans hmu) (by rw [← he, hrem, sumL]; omega) (fun i hi => by rw [hs_F21 i (by omega)]; rw [hs i (by omega)]) _ _ ls hC (lv_sub hl [0, 1, 2, 3, 4, 5] rfl)
  exact loop40 10001 0 0 (rowsV h w 1) (1, false, rro v, va_up (rst v) 0 w) F1 (Nat.lt_succ_of_le (rowsV_len h w 1)) (by decide) hR_F1 hI_F1 rfl (by rw [logV, if_neg (by decide), Nat.zero_add]) (fun i hi => by rw [hs_F1 i (by omega)]) _ _ ls hC (lv_sub hl [0, 1, 2, 3, 4, 5] rfl)
set_option maxHeartbeats 4000000 in
set_option maxRecDepth 100000 in
theorem ctX5_rowsTo3 (l : Launch) (g : Gx) (lo : Nat) (ad : Nat → Nat) {F : Nat → va_E} {h : HV} (hH : HullC g ad F h) (ok : HOK h) {w : LV} (hL : LoadC g ad F 8 w) (hw : LOK h w) {v : RV} (hR : RowsC g ad F v) (okR : ROK v) {fm : Nat} {fo : Nat → Int32} (hS : SeaC g ad F fm fo) {q : Nat} (hq : q < 1024) : MI l g lo 196 ad yX5_rowsTo wsX5_rowsTo 5 116 [.ref (ad (155)), .int (nI q), .ref (ad (8)), .int (nI 3)] F (fun r F' => ∃ v', r = nI (logV h w 3 q) ∧ RowsC g ad F' v' ∧ ROK v' ∧ Same 157 175 F F') := by
  obtain ⟨g0, g1, g2, g3, g4⟩ := id hH
  have okn := ok.1
  have okp := ok.2.1
  have okh := ok.2.2.1
  obtain ⟨r0, r1, r2, rL⟩ := id hR
  obtain ⟨q0, q1⟩ := id hS
  have hlk := leakV_le (w := w) ok
  refine enter (cc := cX5_rowsTo) (maxL := 6) (ret := some .int) (own := RX5) (by decide +kernel) rfl rfl (Nat.le_of_ble_eq_true rfl) ?_
  intro pp ee ss mm below meth cc B hini hC ls hl
  have hl : lv_has ls 6 [(0, .ref (ad (155))), (1, .int (nI q)), (2, .ref (ad (8))), (3, .int (nI 3))] := hl
  refine lv_iload_n B.1 B.2.1 dX5_rowsTo_0 rfl (lv_at hl 3 rfl) ?_
  refine lv_iconst (v := nI 1) B.1 B.2.1 dX5_rowsTo_1 (by decide) ?_
  refine lv_icmp_ge (tgt := 23) B.1 B.2.1 dX5_rowsTo_2 (by decide) (fun _ => ?_) (fun z => absurd (nI_le (by omega) (by omega)) z)
  refine lv_iconst (v := nI 0) B.1 B.2.1 dX5_rowsTo_23 (by decide) ?_
  refine lv_istore (lv' := [(4, .int (nI 0)), (0, .ref (ad (155))), (1, .int (nI q)), (2, .ref (ad (8))), (3, .int (nI 3))]) B.1 B.2.1 dX5_rowsTo_24 hl (by decide) rfl (fun ls hl => ?_)
  refine lv_aload_n B.1 B.2.1 dX5_rowsTo_26 rfl (lv_at hl 1 rfl) ?_
  refine r_cg B hC (i := 155) (by decide) q0 (C := RX5) (T := TX5) (n := 5) rfl iwX5_rowsTo_X5 2 (by decide) (index := 32) flX5_rowsTo_32 rfl (v := .ref (ad (157))) rfl dX5_rowsTo_27 ?_
  refine lv_aload_n B.1 B.2.1 dX5_rowsTo_30 rfl (lv_at hl 3 rfl) ?_
  refine lv_iload_n B.1 B.2.1 dX5_rowsTo_31 rfl (lv_at hl 4 rfl) ?_
  refine lv_iconst (v := nI 1) B.1 B.2.1 dX5_rowsTo_32 (by decide) ?_
  refine lv_isub B.1 B.2.1 dX5_rowsTo_33 ?_
  refine r_tI (y := nI 2) (by decide) ?_
  refine r_callv B hC hl.1 (157) 4 rfl rfl (by decide) r0 (As := [.ref (ad (8)), .int (nI 2)]) (ctX4_begin l g lo ad hR okR (hL.at (fun i h1 h2 => by rfl)) hw.can (e := 2) (by decide)) gX5_rowsTo_X4_begin rfl (n := 2) rfl (by decide +kernel) ⟨Nat.le_of_ble_eq_true rfl, Nat.le_of_ble_eq_true rfl⟩ ⟨Nat.zero_le _, Nat.zero_le _⟩ rfl (Nat.le_of_ble_eq_true rfl) dX5_rowsTo_34 (fun F1 H locs hp34 hC => ?_)
  obtain ⟨hR_F1, hs_F1⟩ := hp34
  have ok_F1 : ROK (2, false, rro v, va_up (rst v) 0 w) := ROK_up (a := 0) (b := true) (r := rro v) okR rfl hw.can _ _ _
  have hI_F1 : RIt h w (2, false, rro v, va_up (rst v) 0 w) (rowsV h w 2) := ⟨hw, (show va_up (rst v) 0 w 0 = w from va_up_self _ _ _), ok_F1, (show 2 ≤ 2 by decide), Or.inl ⟨rfl, rfl⟩⟩
  obtain ⟨r0_F1, r1_F1, r2_F1, rL_F1⟩ := id hR_F1
  have g0_F1 : F1 3 = .inr (2, [.ref (ad (4)), .ref (ad (5)), .ref (ad (6)), .ref (ad (7)), .int (nI (hn h)), .int (nI (hpu h)), .int (nI (hho h))]) := (hs_F1 _ (by omega)).trans g0
  have q0_F1 : F1 155 = .inr (5, [.ref (ad (3)), .ref (ad (13)), .ref (ad (157)), .ref (ad (156)), .int (nI fm)]) := (hs_F1 _ (by omega)).trans q0
  have q1_F1 : F1 156 = .inl (g.2.2 0, 2, .inl (fo)) := (hs_F1 _ (by omega)).trans q1
  refine lv_iconst (v := nI 0) B.1 B.2.1 dX5_rowsTo_37 (by decide) ?_
  refine lv_istore (lv' := [(5, .int (nI 0)), (4, .int (nI 0)), (0, .ref (ad (155))), (1, .int (nI q)), (2, .ref (ad (8))), (3, .int (nI 3))]) B.1 B.2.1 dX5_rowsTo_38 hl (by decide) rfl (fun ls hl => ?_)
  have loop40 : ∀ (k : Nat) (i a : Nat) (rem : List (List Nat)) (u : RV) (G : Nat → va_E), (rem.length < k) → (i + k ≤ 20000) → (RowsC g ad G u) → (RIt h w u rem) → (rmv u = 2) → (a + sumL (fun e => lastN h (endV h w e) q) rem = logV h w 3 q) → (Same 157 175 F G) → ∀ (H : Heap) (locs : List Loc) (ls : Array Slot), Cu g lo 196 ad G ss ss.heap H locs → lv_has ls 6 [(5, .int (nI i)), (4, .int (nI a)), (0, .ref (ad (155))), (1, .int (nI q)), (2, .ref (ad (8))), (3, .int (nI 3))] → W pp l ee { frames := 5, cells := 0, slots := 0, locals := 116 } ss mm ([.ref (ad (155)), .int (nI q), .ref (ad (8)), .int (nI 3)] : List Value).toArray below meth cc H locs 0 0 (MQ below (va_Qi (fun r F' => ∃ v', r = nI (logV h w 3 q) ∧ RowsC g ad F' v' ∧ ROK v' ∧ Same 157 175 F F') (fun F' t => Wd g lo 196 ad F' t) (fun q => lo ≤ q)) ([.ref (ad (155)), .int (nI q), .ref (ad (8)), .int (nI 3)] : List Value).toArray ss 0 0 (fun q => lo ≤ q)) (F0 mm 40 ls []) := by
    intro k
    induction k with
    | zero => intro i a rem u G hlt hi hRG hI hmu he hs; exact absurd hlt (Nat.not_lt_zero _)
    | succ k ih =>
      intro i a rem u G hlt hi hRG hI hmu he hs H locs ls hC hl
      obtain ⟨r0, r1, r2, rL⟩ := id hRG
      have g0G : G 3 = .inr (2, [.ref (ad (4)), .ref (ad (5)), .ref (ad (6)), .ref (ad (7)), .int (nI (hn h)), .int (nI (hpu h)), .int (nI (hho h))]) := (hs 3 (by omega)).trans g0
      have q0G : G 155 = .inr (5, [.ref (ad (3)), .ref (ad (13)), .ref (ad (157)), .ref (ad (156)), .int (nI fm)]) := (hs 155 (by omega)).trans q0
      have q1G : G 156 = .inl (g.2.2 0, 2, .inl (fo)) := (hs 156 (by omega)).trans q1
      refine lv_iload B.1 B.2.1 dX5_rowsTo_40 (lv_at hl 0 rfl) ?_
      refine lv_ldc (own := RX5) (v := nI 1000000) B.1 B.2.1 B.2.2.2.1 (B.2.2.2.2.1 (.constant RX5 46 (1000000)) (by decide +kernel)) dX5_rowsTo_42 ?_
      refine lv_icmp_ge (tgt := 80) B.1 B.2.1 dX5_rowsTo_44 (by decide) (fun z => absurd z (nI_ge (by omega) (by omega))) (fun _ => ?_)
      refine lv_aload_n B.1 B.2.1 dX5_rowsTo_47 rfl (lv_at hl 2 rfl) ?_
      refine r_cg B hC (i := 155) (by decide) q0G (C := RX5) (T := TX5) (n := 5) rfl iwX5_rowsTo_X5 2 (by decide) (index := 32) flX5_rowsTo_32 rfl (v := .ref (ad (157))) rfl dX5_rowsTo_48 ?_
      refine r_calli B hC hl.1 (157) 4 rfl rfl (by decide) r0 (As := []) (ctX4_next l g lo ad (HullC.keep hH (x := 157) (y := 175) (fun i hi => by rw [hs i (by omega)]) (by decide)) ok hRG hI) gX5_rowsTo_X4_next rfl (n := 0) rfl (by decide +kernel) ⟨Nat.le_of_ble_eq_true rfl, Nat.le_of_ble_eq_true rfl⟩ ⟨Nat.zero_le _, Nat.zero_le _⟩ rfl (Nat.le_of_ble_eq_true rfl) dX5_rowsTo_51 (fun r51 F21 H locs hp51 hC => ?_)
      rcases hp51 with ⟨hs_F21, ⟨er, hrem, v1, hR_F21, ok_F21, hmv1, -⟩ | ⟨e1, es, v1, er, hrem, hR_F21, hI_F21, hCu, hmv1⟩⟩
      · subst er
        obtain ⟨r0_F21, r1_F21, r2_F21, rL_F21⟩ := id hR_F21
        have g0G_F21 : F21 3 = .inr (2, [.ref (ad (4)), .ref (ad (5)), .ref (ad (6)), .ref (ad (7)), .int (nI (hn h)), .int (nI (hpu h)), .int (nI (hho h))]) := (hs_F21 _ (by omega)).trans g0G
        have q0G_F21 : F21 155 = .inr (5, [.ref (ad (3)), .ref (ad (13)), .ref (ad (157)), .ref (ad (156)), .int (nI fm)]) := (hs_F21 _ (by omega)).trans q0G
        have q1G_F21 : F21 156 = .inl (g.2.2 0, 2, .inl (fo)) := (hs_F21 _ (by omega)).trans q1G
        refine lv_if_eq (tgt := 80) B.1 B.2.1 dX5_rowsTo_54 (by decide) (fun _ => ?_) (fun z => absurd (by decide) z)
        refine lv_iload B.1 B.2.1 dX5_rowsTo_80 (lv_at hl 1 rfl) ?_
        exact r_eI B hC (v := nI a) (⟨v1, by rw [← he, hrem]; rfl, hR_F21, ok_F21, fun i hi => by rw [hs_F21 i (by omega)]; rw [hs i (by omega)]⟩) dX5_rowsTo_82
      · subst er
        obtain ⟨r0_F21, r1_F21, r2_F21, rL_F21⟩ := id hR_F21
        have ok_F21 := hI_F21.2.2.1
        have g0G_F21 : F21 3 = .inr (2, [.ref (ad (4)), .ref (ad (5)), .ref (ad (6)), .ref (ad (7)), .int (nI (hn h)), .int (nI (hpu h)), .int (nI (hho h))]) := (hs_F21 _ (by omega)).trans g0G
        have q0G_F21 : F21 155 = .inr (5, [.ref (ad (3)), .ref (ad (13)), .ref (ad (157)), .ref (ad (156)), .int (nI fm)]) := (hs_F21 _ (by omega)).trans q0G
        have q1G_F21 : F21 156 = .inl (g.2.2 0, 2, .inl (fo)) := (hs_F21 _ (by omega)).trans q1G
        refine lv_if_eq (tgt := 80) B.1 B.2.1 dX5_rowsTo_54 (by decide) (fun z => absurd z (by decide)) (fun _ => ?_)
        refine lv_iload B.1 B.2.1 dX5_rowsTo_57 (lv_at hl 1 rfl) ?_
        refine lv_aload_n B.1 B.2.1 dX5_rowsTo_59 rfl (lv_at hl 2 rfl) ?_
        refine lv_iload_n B.1 B.2.1 dX5_rowsTo_60 rfl (lv_at hl 3 rfl) ?_
        refine lv_aload_n B.1 B.2.1 dX5_rowsTo_61 rfl (lv_at hl 2 rfl) ?_
        refine r_cg B hC (i := 155) (by decide) q0G_F21 (C := RX5) (T := TX5) (n := 5) rfl iwX5_rowsTo_X5 2 (by decide) (index := 32) flX5_rowsTo_32 rfl (v := .ref (ad (157))) rfl dX5_rowsTo_62 ?_
        have hm2 : rmv v1 ≤ 2 := by omega
        refine r_callr B hC hl.1 (157) 4 rfl rfl (by decide) r0_F21 (As := []) (ctX4_end l g lo ad hR_F21 hm2) gX5_rowsTo_X4_end rfl (n := 0) rfl (by decide +kernel) ⟨Nat.le_of_ble_eq_true rfl, Nat.le_of_ble_eq_true rfl⟩ ⟨Nat.zero_le _, Nat.zero_le _⟩ rfl (Nat.le_of_ble_eq_true rfl) dX5_rowsTo_65 (fun H locs hC => ?_)
        have hEn : LoadC g ad F21 (160 + 5 * rmv v1) (endV h w e1) := by have z := hR_F21.2.2.2 (rmv v1) (by omega); rw [hCu.2.2.1] at z; exact z
        have lokE := hCu.2.2.2.1
        refine r_calli B hC hl.1 (155) 5 rfl rfl (by decide) q0G_F21 (As := [.int (nI q), .ref (ad ((160 + 5 * rmv v1)))]) (ctX5_lastMovesTo l g lo ad (HullC.keep hH (x := 157) (y := 175) (fun i hi => by rw [hs_F21 i (by omega)]; rw [hs i (by omega)]) (by decide)) ok (b := 160 + 5 * rmv v1) (by omega) hEn lokE (fm := fm) (fo := fo) ⟨q0G_F21, q1G_F21⟩ (q := q) (by omega)) gX5_rowsTo_X5_lastMovesTo rfl (n := 2) rfl (by decide +kernel) ⟨Nat.le_of_ble_eq_true rfl, Nat.le_of_ble_eq_true rfl⟩ ⟨Nat.zero_le _, Nat.zero_le _⟩ rfl (Nat.le_of_ble_eq_true rfl) dX5_rowsTo_68 (fun r68 F22 H locs hp68 hC => ?_)
        obtain ⟨er, eF⟩ := hp68
        subst er
        rw [eF] at hC
        refine lv_iadd B.1 B.2.1 dX5_rowsTo_71 ?_
        refine r_tI (y := nI (a + (lastN h (endV h w e1) q))) (nI_add _ _) ?_
        refine lv_istore (lv' := [(4, .int (nI (a + (lastN h (endV h w e1) q)))), (5, .int (nI i)), (0, .ref (ad (155))), (1, .int (nI q)), (2, .ref (ad (8))), (3, .int (nI 3))]) B.1 B.2.1 dX5_rowsTo_72 hl (by decide) rfl (fun ls hl => ?_)
        refine lv_iinc (v := nI (i + 1)) (lv' := [(5, .int (nI (i + 1))), (4, .int (nI (a + (lastN h (endV h w e1) q)))), (0, .ref (ad (155))), (1, .int (nI q)), (2, .ref (ad (8))), (3, .int (nI 3))]) B.1 B.2.1 dX5_rowsTo_74 hl (k := 1) rfl (nI_1 _) (by decide) rfl (fun ls hl => ?_)
        refine lv_goto (tgt := 40) B.1 B.2.1 dX5_rowsTo_77 (by decide) ?_
        exact ih (i + 1) ((a + (lastN h (endV h w e1) q))) es v1 F21 (by rw [hrem, List.length_cons] at hlt; omega) (by omega) hR_F21 hI_F21 (hmv1.trans hmu) (by rw [← he, hrem, sumL]; omega) (fun i hi => by rw [hs_F21 i (by omega)]; rw [hs i (by omega)]) _ _ ls hC (lv_sub hl [0, 1, 2, 3, 4, 5] rfl)
  exact loop40 10001 0 0 (rowsV h w 2) (2, false, rro v, va_up (rst v) 0 w) F1 (Nat.lt_succ_of_le (rowsV_len h w 2)) (by decide) hR_F1 hI_F1 rfl (by rw [logV, if_neg (by decide), Nat.zero_add]) (fun i hi => by rw [hs_F1 i (by omega)]) _ _ ls hC (lv_sub hl [0, 1, 2, 3, 4, 5] rfl)
