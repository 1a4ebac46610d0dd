/-! SEARCH: PORT -/
theorem iwX5_fewestMoves_X5 : ∀ w ∈ u_ws RX5 TX5 5, w ∈ wsX5_fewestMoves := by decide +kernel
theorem flX5_fewestMoves_9 : Cond.fieldLink RX5 9 RX5 (TX5 3).2.1 (TX5 3).2.2.1 ∈ wsX5_fewestMoves := by decide +kernel
theorem flX5_fewestMoves_15 : Cond.fieldLink RX5 15 RX5 (TX5 4).2.1 (TX5 4).2.2.1 ∈ wsX5_fewestMoves := by decide +kernel
theorem flX5_fewestMoves_19 : Cond.fieldLink RX5 19 RX5 (TX5 0).2.1 (TX5 0).2.2.1 ∈ wsX5_fewestMoves := by decide +kernel
theorem flX5_fewestMoves_23 : Cond.fieldLink RX5 23 RX5 (TX5 1).2.1 (TX5 1).2.2.1 ∈ wsX5_fewestMoves := by decide +kernel
theorem flX5_fewestMoves_32 : Cond.fieldLink RX5 32 RX5 (TX5 2).2.1 (TX5 2).2.2.1 ∈ wsX5_fewestMoves := by decide +kernel
set_option maxHeartbeats 4000000 in
set_option maxRecDepth 100000 in
theorem ctX5_fewestMoves (l : Launch) (g : Gx) (lo : Nat) (ad : Nat → Nat) {F : Nat → va_E} {h : HV} (hH : HullC g ad F h) (ok : HOK h) {w : LV} (hL : LoadC g ad F 8 w) (hw : LOK h w) {v : RV} (hR : RowsC g ad F v) (okR : ROK v) {fm : Nat} {fo : Nat → Int32} (hS : SeaC g ad F fm fo) {wt : LV} (hT : LoadC g ad F 13 wt) (hct : CAN wt) {n : Nat} (hn9 : n ≤ 99) : MI l g lo 196 ad yX5_fewestMoves wsX5_fewestMoves 5 116 [.ref (ad (155)), .ref (ad (8)), .int (nI n)] F (fun r F' => ∃ fo' v' wt', r = oI ((portV h w n).map List.length) ∧ SeaC g ad F' ((portV h w n).getD []).length fo' ∧ Fnd fo' ((portV h w n).getD []).length ((portV h w n).getD []) ∧ RowsC g ad F' v' ∧ ROK v' ∧ LoadC g ad F' 13 wt' ∧ CAN wt' ∧ ∀ i, (i < 13 ∨ 18 ≤ i) → (i < 155 ∨ 175 ≤ i) → F' i = F i) := by
  obtain ⟨g0, g1, g2, g3, g4⟩ := id hH
  have okn := ok.1
  have okp := ok.2.1
  have okh := ok.2.2.1
  obtain ⟨r0, r1, r2, rL⟩ := id hR
  obtain ⟨q0, q1⟩ := id hS
  have hlk := leakV_le (w := w) ok
  refine enter (cc := cX5_fewestMoves) (maxL := 5) (ret := some .int) (own := RX5) (by decide +kernel) rfl rfl (Nat.le_of_ble_eq_true rfl) ?_
  intro pp ee ss mm below meth cc B hini hC ls hl
  have hl : lv_has ls 5 [(0, .ref (ad (155))), (1, .ref (ad (8))), (2, .int (nI n))] := hl
  refine lv_iconst (v := nI 0) B.1 B.2.1 dX5_fewestMoves_0 (by decide) ?_
  refine lv_istore_n (lv' := [(3, .int (nI 0)), (0, .ref (ad (155))), (1, .ref (ad (8))), (2, .int (nI n))]) B.1 B.2.1 dX5_fewestMoves_1 rfl hl (by decide) rfl (fun ls hl => ?_)
  refine lv_iload_n B.1 B.2.1 dX5_fewestMoves_2 rfl (lv_at hl 0 rfl) ?_
  refine lv_iconst (v := nI 2) B.1 B.2.1 dX5_fewestMoves_3 (by decide) ?_
  refine lv_icmp_gt (tgt := 95) B.1 B.2.1 dX5_fewestMoves_4 (by decide) (fun z => absurd z (nI_nlt (by omega) (by omega))) (fun _ => ?_)
  refine lv_aload_n B.1 B.2.1 dX5_fewestMoves_7 rfl (lv_at hl 1 rfl) ?_
  refine r_cg B hC (i := 155) (by decide) q0 (C := RX5) (T := TX5) (n := 5) rfl iwX5_fewestMoves_X5 2 (by decide) (index := 32) flX5_fewestMoves_32 rfl (v := .ref (ad (157))) rfl dX5_fewestMoves_8 ?_
  refine lv_aload_n B.1 B.2.1 dX5_fewestMoves_11 rfl (lv_at hl 2 rfl) ?_
  refine lv_iload_n B.1 B.2.1 dX5_fewestMoves_12 rfl (lv_at hl 0 rfl) ?_
  refine r_callv B hC hl.1 (157) 4 rfl rfl (by decide) r0 (As := [.ref (ad (8)), .int (nI 0)]) (ctX4_begin l g lo ad hR okR (hL.at (fun i h1 h2 => by rfl)) hw.can (e := 0) (by decide)) gX5_fewestMoves_X4_begin rfl (n := 2) rfl (by decide +kernel) ⟨Nat.le_of_ble_eq_true rfl, Nat.le_of_ble_eq_true rfl⟩ ⟨Nat.zero_le _, Nat.zero_le _⟩ rfl (Nat.le_of_ble_eq_true rfl) dX5_fewestMoves_13 (fun F1 H locs hp13 hC => ?_)
  obtain ⟨hR_F1, hs_F1⟩ := hp13
  have ok_F1 : ROK (0, false, rro v, va_up (rst v) 0 w) := ROK_up (a := 0) (b := true) (r := rro v) okR rfl hw.can _ _ _
  have hI_F1 : RIt h w (0, false, rro v, va_up (rst v) 0 w) (rowsV h w 0) := ⟨hw, (show va_up (rst v) 0 w 0 = w from va_up_self _ _ _), ok_F1, (show 0 ≤ 2 by decide), Or.inl ⟨rfl, rfl⟩⟩
  obtain ⟨r0_F1, r1_F1, r2_F1, rL_F1⟩ := id hR_F1
  have g0_F1 : F1 3 = .inr (2, [.ref (ad (4)), .ref (ad (5)), .ref (ad (6)), .ref (ad (7)), .int (nI (hn h)), .int (nI (hpu h)), .int (nI (hho h))]) := (hs_F1 _ (by omega)).trans g0
  have q0_F1 : F1 155 = .inr (5, [.ref (ad (3)), .ref (ad (13)), .ref (ad (157)), .ref (ad (156)), .int (nI fm)]) := (hs_F1 _ (by omega)).trans q0
  have q1_F1 : F1 156 = .inl (g.2.2 0, 2, .inl (fo)) := (hs_F1 _ (by omega)).trans q1
  refine lv_iconst (v := nI 0) B.1 B.2.1 dX5_fewestMoves_16 (by decide) ?_
  refine lv_istore (lv' := [(4, .int (nI 0)), (3, .int (nI 0)), (0, .ref (ad (155))), (1, .ref (ad (8))), (2, .int (nI n))]) B.1 B.2.1 dX5_fewestMoves_17 hl (by decide) rfl (fun ls hl => ?_)
  have loop0 : ∀ (k : Nat) (i : Nat) (rem : List (List Nat)) (u : RV) (wt : LV) (G : Nat → va_E), (rem.length < k) → (i + k ≤ 20000) → (RowsC g ad G u) → (RIt h w u rem) → (rmv u = 0) → (LoadC g ad G 13 wt) → (CAN wt) → (portF h w n rem = portF h w n (rowsV h w 0)) → (∀ i, (i < 13 ∨ 18 ≤ i) → (i < 155 ∨ 175 ≤ i) → G i = F i) → (G 155 = F 155 ∧ G 156 = F 156) → ∀ (H : Heap) (locs : List Loc) (ls : Array Slot), Cu g lo 196 ad G ss ss.heap H locs → lv_has ls 5 [(4, .int (nI i)), (3, .int (nI 0)), (0, .ref (ad (155))), (1, .ref (ad (8))), (2, .int (nI n))] → W pp l ee { frames := 5, cells := 0, slots := 0, locals := 116 } ss mm ([.ref (ad (155)), .ref (ad (8)), .int (nI n)] : List Value).toArray below meth cc H locs 0 0 (MQ below (va_Qi (fun r F' => ∃ fo' v' wt', r = oI ((portV h w n).map List.length) ∧ SeaC g ad F' ((portV h w n).getD []).length fo' ∧ Fnd fo' ((portV h w n).getD []).length ((portV h w n).getD []) ∧ RowsC g ad F' v' ∧ ROK v' ∧ LoadC g ad F' 13 wt' ∧ CAN wt' ∧ ∀ i, (i < 13 ∨ 18 ≤ i) → (i < 155 ∨ 175 ≤ i) → F' i = F i) (fun F' t => Wd g lo 196 ad F' t) (fun q => lo ≤ q)) ([.ref (ad (155)), .ref (ad (8)), .int (nI n)] : List Value).toArray ss 0 0 (fun q => lo ≤ q)) (F0 mm 19 ls []) := by
    intro k
    induction k with
    | zero => intro i rem u wt G hlt hi hRG hI hmu hTG hct he hs hq; exact absurd hlt (Nat.not_lt_zero _)
    | succ k ih0 =>
      intro i rem u wt G hlt hi hRG hI hmu hTG hct he hs hq H locs ls hC hl
      obtain ⟨r0, r1, r2, rL⟩ := id hRG
      have g0G : G 3 = .inr (2, [.ref (ad (4)), .ref (ad (5)), .ref (ad (6)), .ref (ad (7)), .int (nI (hn h)), .int (nI (hpu h)), .int (nI (hho h))]) := (hs 3 (by omega) (by omega)).trans g0
      have q0G : G 155 = .inr (5, [.ref (ad (3)), .ref (ad (13)), .ref (ad (157)), .ref (ad (156)), .int (nI fm)]) := hq.1.trans q0
      have q1G : G 156 = .inl (g.2.2 0, 2, .inl (fo)) := hq.2.trans q1
      refine lv_iload B.1 B.2.1 dX5_fewestMoves_19 (lv_at hl 0 rfl) ?_
      refine lv_ldc (own := RX5) (v := nI 1000000) B.1 B.2.1 B.2.2.2.1 (B.2.2.2.2.1 (.constant RX5 46 (1000000)) (by decide +kernel)) dX5_fewestMoves_21 ?_
      refine lv_icmp_ge (tgt := 89) B.1 B.2.1 dX5_fewestMoves_23 (by decide) (fun z => absurd z (nI_ge (by omega) (by omega))) (fun _ => ?_)
      refine lv_aload_n B.1 B.2.1 dX5_fewestMoves_26 rfl (lv_at hl 2 rfl) ?_
      refine r_cg B hC (i := 155) (by decide) q0G (C := RX5) (T := TX5) (n := 5) rfl iwX5_fewestMoves_X5 2 (by decide) (index := 32) flX5_fewestMoves_32 rfl (v := .ref (ad (157))) rfl dX5_fewestMoves_27 ?_
      refine r_calli B hC hl.1 (157) 4 rfl rfl (by decide) r0 (As := []) (ctX4_next l g lo ad (HullC.at hH (fun i h1 h2 => by rw [hs i (by omega) (by omega)])) ok hRG hI) gX5_fewestMoves_X4_next rfl (n := 0) rfl (by decide +kernel) ⟨Nat.le_of_ble_eq_true rfl, Nat.le_of_ble_eq_true rfl⟩ ⟨Nat.zero_le _, Nat.zero_le _⟩ rfl (Nat.le_of_ble_eq_true rfl) dX5_fewestMoves_30 (fun r30 F21 H locs hp30 hC => ?_)
      rcases hp30 with ⟨hs_F21, ⟨er, hrem, v1, hR_F21, ok_F21, hmv1, -⟩ | ⟨e1, es, v1, er, hrem, hR_F21, hI_F21, hCu, hmv1⟩⟩
      · subst er
        obtain ⟨r0_F21, r1_F21, r2_F21, rL_F21⟩ := id hR_F21
        have g0G_F21 : F21 3 = .inr (2, [.ref (ad (4)), .ref (ad (5)), .ref (ad (6)), .ref (ad (7)), .int (nI (hn h)), .int (nI (hpu h)), .int (nI (hho h))]) := (hs_F21 _ (by omega)).trans g0G
        have q0G_F21 : F21 155 = .inr (5, [.ref (ad (3)), .ref (ad (13)), .ref (ad (157)), .ref (ad (156)), .int (nI fm)]) := (hs_F21 _ (by omega)).trans q0G
        have q1G_F21 : F21 156 = .inl (g.2.2 0, 2, .inl (fo)) := (hs_F21 _ (by omega)).trans q1G
        refine lv_if_eq (tgt := 89) B.1 B.2.1 dX5_fewestMoves_33 (by decide) (fun _ => ?_) (fun z => absurd (by decide) z)
        have hp0 : portF h w n (rowsV h w 0) = none := by rw [← he, hrem]; rfl
        refine lv_iinc (v := nI 1) (lv' := [(3, .int (nI 1)), (4, .int (nI i)), (0, .ref (ad (155))), (1, .ref (ad (8))), (2, .int (nI n))]) B.1 B.2.1 dX5_fewestMoves_89 hl (k := 1) rfl (by decide) (by decide) rfl (fun ls hl => ?_)
        refine lv_goto (tgt := 2) B.1 B.2.1 dX5_fewestMoves_92 (by decide) ?_
        refine lv_iload_n B.1 B.2.1 dX5_fewestMoves_2 rfl (lv_at hl 0 rfl) ?_
        refine lv_iconst (v := nI 2) B.1 B.2.1 dX5_fewestMoves_3 (by decide) ?_
        refine lv_icmp_gt (tgt := 95) B.1 B.2.1 dX5_fewestMoves_4 (by decide) (fun z => absurd z (nI_nlt (by omega) (by omega))) (fun _ => ?_)
        refine lv_aload_n B.1 B.2.1 dX5_fewestMoves_7 rfl (lv_at hl 2 rfl) ?_
        refine r_cg B hC (i := 155) (by decide) q0G_F21 (C := RX5) (T := TX5) (n := 5) rfl iwX5_fewestMoves_X5 2 (by decide) (index := 32) flX5_fewestMoves_32 rfl (v := .ref (ad (157))) rfl dX5_fewestMoves_8 ?_
        refine lv_aload_n B.1 B.2.1 dX5_fewestMoves_11 rfl (lv_at hl 3 rfl) ?_
        refine lv_iload_n B.1 B.2.1 dX5_fewestMoves_12 rfl (lv_at hl 0 rfl) ?_
        refine r_callv B hC hl.1 (157) 4 rfl rfl (by decide) r0_F21 (As := [.ref (ad (8)), .int (nI 1)]) (ctX4_begin l g lo ad hR_F21 ok_F21 (hL.at (fun i h1 h2 => by rw [hs_F21 i (by omega)]; rw [hs i (by omega) (by omega)])) hw.can (e := 1) (by decide)) gX5_fewestMoves_X4_begin rfl (n := 2) rfl (by decide +kernel) ⟨Nat.le_of_ble_eq_true rfl, Nat.le_of_ble_eq_true rfl⟩ ⟨Nat.zero_le _, Nat.zero_le _⟩ rfl (Nat.le_of_ble_eq_true rfl) dX5_fewestMoves_13 (fun F22 H locs hp13 hC => ?_)
        obtain ⟨hR_F22, hs_F22⟩ := hp13
        have ok_F22 : ROK (1, false, rro v1, va_up (rst v1) 0 w) := ROK_up (a := 0) (b := true) (r := rro v1) ok_F21 rfl hw.can _ _ _
        have hI_F22 : RIt h w (1, false, rro v1, va_up (rst v1) 0 w) (rowsV h w 1) := ⟨hw, (show va_up (rst v1) 0 w 0 = w from va_up_self _ _ _), ok_F22, (show 1 ≤ 2 by decide), Or.inl ⟨rfl, rfl⟩⟩
        obtain ⟨r0_F22, r1_F22, r2_F22, rL_F22⟩ := id hR_F22
        have g0G_F22 : F22 3 = .inr (2, [.ref (ad (4)), .ref (ad (5)), .ref (ad (6)), .ref (ad (7)), .int (nI (hn h)), .int (nI (hpu h)), .int (nI (hho h))]) := (hs_F22 _ (by omega)).trans g0G_F21
        have q0G_F22 : F22 155 = .inr (5, [.ref (ad (3)), .ref (ad (13)), .ref (ad (157)), .ref (ad (156)), .int (nI fm)]) := (hs_F22 _ (by omega)).trans q0G_F21
        have q1G_F22 : F22 156 = .inl (g.2.2 0, 2, .inl (fo)) := (hs_F22 _ (by omega)).trans q1G_F21
        refine lv_iconst (v := nI 0) B.1 B.2.1 dX5_fewestMoves_16 (by decide) ?_
        refine lv_istore (lv' := [(4, .int (nI 0)), (3, .int (nI 1)), (0, .ref (ad (155))), (1, .ref (ad (8))), (2, .int (nI n))]) B.1 B.2.1 dX5_fewestMoves_17 hl (by decide) rfl (fun ls hl => ?_)
        have loop1 : ∀ (k : Nat) (i : Nat) (rem : List (List Nat)) (u : RV) (wt : LV) (G : Nat → va_E), (rem.length < k) → (i + k ≤ 20000) → (RowsC g ad G u) → (RIt h w u rem) → (rmv u = 1) → (LoadC g ad G 13 wt) → (CAN wt) → (portF h w n rem = portF h w n (rowsV h w 1)) → (∀ i, (i < 13 ∨ 18 ≤ i) → (i < 155 ∨ 175 ≤ i) → G i = F i) → (G 155 = F 155 ∧ G 156 = F 156) → ∀ (H : Heap) (locs : List Loc) (ls : Array Slot), Cu g lo 196 ad G ss ss.heap H locs → lv_has ls 5 [(4, .int (nI i)), (3, .int (nI 1)), (0, .ref (ad (155))), (1, .ref (ad (8))), (2, .int (nI n))] → W pp l ee { frames := 5, cells := 0, slots := 0, locals := 116 } ss mm ([.ref (ad (155)), .ref (ad (8)), .int (nI n)] : List Value).toArray below meth cc H locs 0 0 (MQ below (va_Qi (fun r F' => ∃ fo' v' wt', r = oI ((portV h w n).map List.length) ∧ SeaC g ad F' ((portV h w n).getD []).length fo' ∧ Fnd fo' ((portV h w n).getD []).length ((portV h w n).getD []) ∧ RowsC g ad F' v' ∧ ROK v' ∧ LoadC g ad F' 13 wt' ∧ CAN wt' ∧ ∀ i, (i < 13 ∨ 18 ≤ i) → (i < 155 ∨ 175 ≤ i) → F' i = F i) (fun F' t => Wd g lo 196 ad F' t) (fun q => lo ≤ q)) ([.ref (ad (155)), .ref (ad (8)), .int (nI n)] : List Value).toArray ss 0 0 (fun q => lo ≤ q)) (F0 mm 19 ls []) := by
          intro k
          induction k with
          | zero => intro i rem u wt G hlt hi hRG hI hmu hTG hct he hs hq; exact absurd hlt (Nat.not_lt_zero _)
          | succ k ih1 =>
            intro i rem u wt G hlt hi hRG hI hmu hTG hct he hs hq H locs ls hC hl
            obtain ⟨r0, r1, r2, rL⟩ := id hRG
            have g0G : G 3 = .inr (2, [.ref (ad (4)), .ref (ad (5)), .ref (ad (6)), .ref (ad (7)), .int (nI (hn h)), .int (nI (hpu h)), .int (nI (hho h))]) := (hs 3 (by omega) (by omega)).trans g0
            have q0G : G 155 = .inr (5, [.ref (ad (3)), .ref (ad (13)), .ref (ad (157)), .ref (ad (156)), .int (nI fm)]) := hq.1.trans q0
            have q1G : G 156 = .inl (g.2.2 0, 2, .inl (fo)) := hq.2.trans q1
            refine lv_iload B.1 B.2.1 dX5_fewestMoves_19 (lv_at hl 0 rfl) ?_
            refine lv_ldc (own := RX5) (v := nI 1000000) B.1 B.2.1 B.2.2.2.1 (B.2.2.2.2.1 (.constant RX5 46 (1000000)) (by decide +kernel)) dX5_fewestMoves_21 ?_
            refine lv_icmp_ge (tgt := 89) B.1 B.2.1 dX5_fewestMoves_23 (by decide) (fun z => absurd z (nI_ge (by omega) (by omega))) (fun _ => ?_)
            refine lv_aload_n B.1 B.2.1 dX5_fewestMoves_26 rfl (lv_at hl 2 rfl) ?_
            refine r_cg B hC (i := 155) (by decide) q0G (C := RX5) (T := TX5) (n := 5) rfl iwX5_fewestMoves_X5 2 (by decide) (index := 32) flX5_fewestMoves_32 rfl (v := .ref (ad (157))) rfl dX5_fewestMoves_27 ?_
            refine r_calli B hC hl.1 (157) 4 rfl rfl (by decide) r0 (As := []) (ctX4_next l g lo ad (HullC.at hH (fun i h1 h2 => by rw [hs i (by omega) (by omega)])) ok hRG hI) gX5_fewestMoves_X4_next rfl (n := 0) rfl (by decide +kernel) ⟨Nat.le_of_ble_eq_true rfl, Nat.le_of_ble_eq_true rfl⟩ ⟨Nat.zero_le _, Nat.zero_le _⟩ rfl (Nat.le_of_ble_eq_true rfl) dX5_fewestMoves_30 (fun r30 F21 H locs hp30 hC => ?_)
            rcases hp30 with ⟨hs_F21, ⟨er, hrem, v1, hR_F21, ok_F21, hmv1, -⟩ | ⟨e1, es, v1, er, hrem, hR_F21, hI_F21, hCu, hmv1⟩⟩
            · subst er
              obtain ⟨r0_F21, r1_F21, r2_F21, rL_F21⟩ := id hR_F21
              have g0G_F21 : F21 3 = .inr (2, [.ref (ad (4)), .ref (ad (5)), .ref (ad (6)), .ref (ad (7)), .int (nI (hn h)), .int (nI (hpu h)), .int (nI (hho h))]) := (hs_F21 _ (by omega)).trans g0G
              have q0G_F21 : F21 155 = .inr (5, [.ref (ad (3)), .ref (ad (13)), .ref (ad (157)), .ref (ad (156)), .int (nI fm)]) := (hs_F21 _ (by omega)).trans q0G
              have q1G_F21 : F21 156 = .inl (g.2.2 0, 2, .inl (fo)) := (hs_F21 _ (by omega)).trans q1G
              refine lv_if_eq (tgt := 89) B.1 B.2.1 dX5_fewestMoves_33 (by decide) (fun _ => ?_) (fun z => absurd (by decide) z)
              have hp1 : portF h w n (rowsV h w 1) = none := by rw [← he, hrem]; rfl
              refine lv_iinc (v := nI 2) (lv' := [(3, .int (nI 2)), (4, .int (nI i)), (0, .ref (ad (155))), (1, .ref (ad (8))), (2, .int (nI n))]) B.1 B.2.1 dX5_fewestMoves_89 hl (k := 1) rfl (by decide) (by decide) rfl (fun ls hl => ?_)
              refine lv_goto (tgt := 2) B.1 B.2.1 dX5_fewestMoves_92 (by decide) ?_
              refine lv_iload_n B.1 B.2.1 dX5_fewestMoves_2 rfl (lv_at hl 0 rfl) ?_
              refine lv_iconst (v := nI 2) B.1 B.2.1 dX5_fewestMoves_3 (by decide) ?_
              refine lv_icmp_gt (tgt := 95) B.1 B.2.1 dX5_fewestMoves_4 (by decide) (fun z => absurd z (nI_nlt (by omega) (by omega))) (fun _ => ?_)
              refine lv_aload_n B.1 B.2.1 dX5_fewestMoves_7 rfl (lv_at hl 2 rfl) ?_
              refine r_cg B hC (i := 155) (by decide) q0G_F21 (C := RX5) (T := TX5) (n := 5) rfl iwX5_fewestMoves_X5 2 (by decide) (index := 32) flX5_fewestMoves_32 rfl (v := .ref (ad (157))) rfl dX5_fewestMoves_8 ?_
              refine lv_aload_n B.1 B.2.1 dX5_fewestMoves_11 rfl (lv_at hl 3 rfl) ?_
              refine lv_iload_n B.1 B.2.1 dX5_fewestMoves_12 rfl (lv_at hl 0 rfl) ?_
              refine r_callv B hC hl.1 (157) 4 rfl rfl (by decide) r0_F21 (As := [.ref (ad (8)), .int (nI 2)]) (ctX4_begin l g lo ad hR_F21 ok_F21 (hL.at (fun i h1 h2 => by rw [hs_F21 i (by omega)]; rw [hs i (by omega) (by omega)])) hw.can (e := 2) (by decide)) gX5_fewestMoves_X4_begin rfl (n := 2) rfl (by decide +kernel) ⟨Nat.le_of_ble_eq_true rfl, Nat.le_of_ble_eq_true rfl⟩ ⟨Nat.zero_le _, Nat.zero_le _⟩ rfl (Nat.le_of_ble_eq_true rfl) dX5_fewestMoves_13 (fun F22 H locs hp13 hC => ?_)
              obtain ⟨hR_F22, hs_F22⟩ := hp13
              have ok_F22 : ROK (2, false, rro v1, va_up (rst v1) 0 w) := ROK_up (a := 0) (b := true) (r := rro v1) ok_F21 rfl hw.can _ _ _
              have hI_F22 : RIt h w (2, false, rro v1, va_up (rst v1) 0 w) (rowsV h w 2) := ⟨hw, (show va_up (rst v1) 0 w 0 = w from va_up_self _ _ _), ok_F22, (show 2 ≤ 2 by decide), Or.inl ⟨rfl, rfl⟩⟩
              obtain ⟨r0_F22, r1_F22, r2_F22, rL_F22⟩ := id hR_F22
              have g0G_F22 : F22 3 = .inr (2, [.ref (ad (4)), .ref (ad (5)), .ref (ad (6)), .ref (ad (7)), .int (nI (hn h)), .int (nI (hpu h)), .int (nI (hho h))]) := (hs_F22 _ (by omega)).trans g0G_F21
              have q0G_F22 : F22 155 = .inr (5, [.ref (ad (3)), .ref (ad (13)), .ref (ad (157)), .ref (ad (156)), .int (nI fm)]) := (hs_F22 _ (by omega)).trans q0G_F21
              have q1G_F22 : F22 156 = .inl (g.2.2 0, 2, .inl (fo)) := (hs_F22 _ (by omega)).trans q1G_F21
              refine lv_iconst (v := nI 0) B.1 B.2.1 dX5_fewestMoves_16 (by decide) ?_
              refine lv_istore (lv' := [(4, .int (nI 0)), (3, .int (nI 2)), (0, .ref (ad (155))), (1, .ref (ad (8))), (2, .int (nI n))]) B.1 B.2.1 dX5_fewestMoves_17 hl (by decide) rfl (fun ls hl => ?_)
              have loop2 : ∀ (k : Nat) (i : Nat) (rem : List (List Nat)) (u : RV) (wt : LV) (G : Nat → va_E), (rem.length < k) → (i + k ≤ 20000) → (RowsC g ad G u) → (RIt h w u rem) → (rmv u = 2) → (LoadC g ad G 13 wt) → (CAN wt) → (portF h w n rem = portF h w n (rowsV h w 2)) → (∀ i, (i < 13 ∨ 18 ≤ i) → (i < 155 ∨ 175 ≤ i) → G i = F i) → (G 155 = F 155 ∧ G 156 = F 156) → ∀ (H : Heap) (locs : List Loc) (ls : Array Slot), Cu g lo 196 ad G ss ss.heap H locs → lv_has ls 5 [(4, .int (nI i)), (3, .int (nI 2)), (0, .ref (ad (155))), (1, .ref (ad (8))), (2, .int (nI n))] → W pp l ee { frames := 5, cells := 0, slots := 0, locals := 116 } ss mm ([.ref (ad (155)), .ref (ad (8)), .int (nI n)] : List Value).toArray below meth cc H locs 0 0 (MQ below (va_Qi (fun r F' => ∃ fo' v' wt', r = oI ((portV h w n).map List.length) ∧ SeaC g ad F' ((portV h w n).getD []).length fo' ∧ Fnd fo' ((portV h w n).getD []).length ((portV h w n).getD []) ∧ RowsC g ad F' v' ∧ ROK v' ∧ LoadC g ad F' 13 wt' ∧ CAN wt' ∧ ∀ i, (i < 13 ∨ 18 ≤ i) → (i < 155 ∨ 175 ≤ i) → F' i = F i) (fun F' t => Wd g lo 196 ad F' t) (fun q => lo ≤ q)) ([.ref (ad (155)), .ref (ad (8)), .int (nI n)] : List Value).toArray ss 0 0 (fun q => lo ≤ q)) (F0 mm 19 ls []) := by
                intro k
                induction k with
                | zero => intro i rem u wt G hlt hi hRG hI hmu hTG hct he hs hq; exact absurd hlt (Nat.not_lt_zero _)
                | succ k ih2 =>
                  intro i rem u wt G hlt hi hRG hI hmu hTG hct he hs hq H locs ls hC hl
                  obtain ⟨r0, r1, r2, rL⟩ := id hRG
                  have g0G : G 3 = .inr (2, [.ref (ad (4)), .ref (ad (5)), .ref (ad (6)), .ref (ad (7)), .int (nI (hn h)), .int (nI (hpu h)), .int (nI (hho h))]) := (hs 3 (by omega) (by omega)).trans g0
                  have q0G : G 155 = .inr (5, [.ref (ad (3)), .ref (ad (13)), .ref (ad (157)), .ref (ad (156)), .int (nI fm)]) := hq.1.trans q0
                  have q1G : G 156 = .inl (g.2.2 0, 2, .inl (fo)) := hq.2.trans q1
                  refine lv_iload B.1 B.2.1 dX5_fewestMoves_19 (lv_at hl 0 rfl) ?_
                  refine lv_ldc (own := RX5) (v := nI 1000000) B.1 B.2.1 B.2.2.2.1 (B.2.2.2.2.1 (.constant RX5 46 (1000000)) (by decide +kernel)) dX5_fewestMoves_21 ?_
                  refine lv_icmp_ge (tgt := 89) B.1 B.2.1 dX5_fewestMoves_23 (by decide) (fun z => absurd z (nI_ge (by omega) (by omega))) (fun _ => ?_)
                  refine lv_aload_n B.1 B.2.1 dX5_fewestMoves_26 rfl (lv_at hl 2 rfl) ?_
                  refine r_cg B hC (i := 155) (by decide) q0G (C := RX5) (T := TX5) (n := 5) rfl iwX5_fewestMoves_X5 2 (by decide) (index := 32) flX5_fewestMoves_32 rfl (v := .ref (ad (157))) rfl dX5_fewestMoves_27 ?_
                  refine r_calli B hC hl.1 (157) 4 rfl rfl (by decide) r0 (As := []) (ctX4_next l g lo ad (HullC.at hH (fun i h1 h2 => by rw [hs i (by omega) (by omega)])) ok hRG hI) gX5_fewestMoves_X4_next rfl (n := 0) rfl (by decide +kernel) ⟨Nat.le_of_ble_eq_true rfl, Nat.le_of_ble_eq_true rfl⟩ ⟨Nat.zero_le _, Nat.zero_le _⟩ rfl (Nat.le_of_ble_eq_true rfl) dX5_fewestMoves_30 (fun r30 F21 H locs hp30 hC => ?_)
                  rcases hp30 with ⟨hs_F21, ⟨er, hrem, v1, hR_F21, ok_F21, hmv1, -⟩ | ⟨e1, es, v1, er, hrem, hR_F21, hI_F21, hCu, hmv1⟩⟩
                  · subst er
                    obtain ⟨r0_F21, r1_F21, r2_F21, rL_F21⟩ := id hR_F21
                    have g0G_F21 : F21 3 = .inr (2, [.ref (ad (4)), .ref (ad (5)), .ref (ad (6)), .ref (ad (7)), .int (nI (hn h)), .int (nI (hpu h)), .int (nI (hho h))]) := (hs_F21 _ (by omega)).trans g0G
                    have q0G_F21 : F21 155 = .inr (5, [.ref (ad (3)), .ref (ad (13)), .ref (ad (157)), .ref (ad (156)), .int (nI fm)]) := (hs_F21 _ (by omega)).trans q0G
                    have q1G_F21 : F21 156 = .inl (g.2.2 0, 2, .inl (fo)) := (hs_F21 _ (by omega)).trans q1G
                    refine lv_if_eq (tgt := 89) B.1 B.2.1 dX5_fewestMoves_33 (by decide) (fun _ => ?_) (fun z => absurd (by decide) z)
                    have hp2 : portF h w n (rowsV h w 2) = none := by rw [← he, hrem]; rfl
                    refine lv_iinc (v := nI 3) (lv' := [(3, .int (nI 3)), (4, .int (nI i)), (0, .ref (ad (155))), (1, .ref (ad (8))), (2, .int (nI n))]) B.1 B.2.1 dX5_fewestMoves_89 hl (k := 1) rfl (by decide) (by decide) rfl (fun ls hl => ?_)
                    refine lv_goto (tgt := 2) B.1 B.2.1 dX5_fewestMoves_92 (by decide) ?_
                    refine lv_iload_n B.1 B.2.1 dX5_fewestMoves_2 rfl (lv_at hl 0 rfl) ?_
                    refine lv_iconst (v := nI 2) B.1 B.2.1 dX5_fewestMoves_3 (by decide) ?_
                    refine lv_icmp_gt (tgt := 95) B.1 B.2.1 dX5_fewestMoves_4 (by decide) (fun _ => ?_) (fun z => absurd (nI_lt (by omega) (by omega)) z)
                    refine lv_aload_n B.1 B.2.1 dX5_fewestMoves_95 rfl (lv_at hl 2 rfl) ?_
                    refine lv_iconst (v := nI 0) B.1 B.2.1 dX5_fewestMoves_96 (by decide) ?_
                    refine r_cp B hC (i := 155) (by decide) q0G_F21 tyX5 tyX5_ok nmX5 (C := RX5) (T := TX5) rfl iwX5_fewestMoves_X5 4 (by decide) (index := 15) flX5_fewestMoves_15 rfl rfl (v := .int (nI 0)) (rfl) (rfl) (Nat.le_of_ble_eq_true rfl) dX5_fewestMoves_97 ?_
                    intro H locs hC
                    obtain ⟨F22, eF22⟩ : ∃ f : Nat → va_E, f = va_up F21 (155) (.inr (5, [.ref (ad (3)), .ref (ad (13)), .ref (ad (157)), .ref (ad (156)), .int (nI 0)])) := ⟨_, rfl⟩
                    have hC : Cu g lo 196 ad F22 ss ss.heap H locs := by rw [eF22]; exact hC
                    have k155_F22 : F22 155 = .inr (5, [.ref (ad (3)), .ref (ad (13)), .ref (ad (157)), .ref (ad (156)), .int (nI 0)]) := by rw [eF22]; exact va_up_self _ _ _
                    have g0G_F22 : F22 3 = .inr (2, [.ref (ad (4)), .ref (ad (5)), .ref (ad (6)), .ref (ad (7)), .int (nI (hn h)), .int (nI (hpu h)), .int (nI (hho h))]) := by rw [eF22, va_up_ne _ _ (by decide)]; exact g0G_F21
                    have q1G_F22 : F22 156 = .inl (g.2.2 0, 2, .inl (fo)) := by rw [eF22, va_up_ne _ _ (by decide)]; exact q1G_F21
                    have r0_F22 : F22 157 = .inr (4, [.ref (ad (3)), .ref (ad (158)), .ref (ad (159)), .int (nI (rmv v1)), .int (bI (rbg v1))]) := by rw [eF22, va_up_ne _ _ (by decide)]; exact r0_F21
                    refine lv_bipush (v := (-9)) B.1 B.2.1 dX5_fewestMoves_100 (by decide) ?_
                    exact r_eI B hC (v := (-9)) (by
      have hpv : portV h w n = none := by
        simp only [portV, hp0, hp1, hp2]
      rw [hpv]
      exact ⟨fo, v1, wt, rfl, ⟨k155_F22, q1G_F22⟩, ⟨rfl, Nat.zero_le _, fun x hx => (by cases hx), fun j hj => absurd hj (Nat.not_lt_zero _)⟩, (RowsC.keep hR_F21 (fun i h1 h2 => by rw [eF22, va_up_ne _ _ (by omega)])), ok_F21, (hTG.at (fun i h1 h2 => by rw [eF22, va_up_ne _ _ (by omega)]; rw [hs_F21 i (by omega)])), hct, (fun i hi hj => by rw [eF22, va_up_ne _ _ (by omega)]; rw [hs_F21 i (by omega)]; rw [hs i (by omega) (by omega)])⟩) dX5_fewestMoves_102
                  · subst er
                    obtain ⟨r0_F21, r1_F21, r2_F21, rL_F21⟩ := id hR_F21
                    have ok_F21 := hI_F21.2.2.1
                    have g0G_F21 : F21 3 = .inr (2, [.ref (ad (4)), .ref (ad (5)), .ref (ad (6)), .ref (ad (7)), .int (nI (hn h)), .int (nI (hpu h)), .int (nI (hho h))]) := (hs_F21 _ (by omega)).trans g0G
                    have q0G_F21 : F21 155 = .inr (5, [.ref (ad (3)), .ref (ad (13)), .ref (ad (157)), .ref (ad (156)), .int (nI fm)]) := (hs_F21 _ (by omega)).trans q0G
                    have q1G_F21 : F21 156 = .inl (g.2.2 0, 2, .inl (fo)) := (hs_F21 _ (by omega)).trans q1G
                    refine lv_if_eq (tgt := 89) B.1 B.2.1 dX5_fewestMoves_33 (by decide) (fun z => absurd z (by decide)) (fun _ => ?_)
                    refine lv_aload_n B.1 B.2.1 dX5_fewestMoves_36 rfl (lv_at hl 2 rfl) ?_
                    refine r_cg B hC (i := 155) (by decide) q0G_F21 (C := RX5) (T := TX5) (n := 5) rfl iwX5_fewestMoves_X5 1 (by decide) (index := 23) flX5_fewestMoves_23 rfl (v := .ref (ad (13))) rfl dX5_fewestMoves_37 ?_
                    refine lv_aload_n B.1 B.2.1 dX5_fewestMoves_40 rfl (lv_at hl 2 rfl) ?_
                    refine r_cg B hC (i := 155) (by decide) q0G_F21 (C := RX5) (T := TX5) (n := 5) rfl iwX5_fewestMoves_X5 2 (by decide) (index := 32) flX5_fewestMoves_32 rfl (v := .ref (ad (157))) rfl dX5_fewestMoves_41 ?_
                    have hm2 : rmv v1 ≤ 2 := by omega
                    refine r_callr B hC hl.1 (157) 4 rfl rfl (by decide) r0_F21 (As := []) (ctX4_end l g lo ad hR_F21 hm2) gX5_fewestMoves_X4_end rfl (n := 0) rfl (by decide +kernel) ⟨Nat.le_of_ble_eq_true rfl, Nat.le_of_ble_eq_true rfl⟩ ⟨Nat.zero_le _, Nat.zero_le _⟩ rfl (Nat.le_of_ble_eq_true rfl) dX5_fewestMoves_44 (fun H locs hC => ?_)
                    have hEn : LoadC g ad F21 (160 + 5 * rmv v1) (endV h w e1) := by have z := hR_F21.2.2.2 (rmv v1) (by omega); rw [hCu.2.2.1] at z; exact z
                    have lokE := hCu.2.2.2.1
                    have hTn : LoadC g ad F21 13 wt := hTG.at (fun i h1 h2 => by rw [hs_F21 i (by omega)])
                    obtain ⟨t0, t1, t2, t3, t4⟩ := id hTn
                    refine r_callv B hC hl.1 (13) 3 rfl rfl (by decide) t0 (As := [.ref (ad ((160 + 5 * rmv v1)))]) (ctX3_copyFrom l g lo ad (b := 13) (by omega) hTn (b2 := 160 + 5 * rmv v1) (by omega) (by omega) hEn hct lokE.can) gX5_fewestMoves_X3_copyFrom rfl (n := 1) rfl (by decide +kernel) ⟨Nat.le_of_ble_eq_true rfl, Nat.le_of_ble_eq_true rfl⟩ ⟨Nat.zero_le _, Nat.zero_le _⟩ rfl (Nat.le_of_ble_eq_true rfl) dX5_fewestMoves_47 (fun F22 H locs hp47 hC => ?_)
                    obtain ⟨hTc, hs_F22⟩ := hp47
                    obtain ⟨t0, t1, t2, t3, t4⟩ := id hTc
                    have g0G_F22 : F22 3 = .inr (2, [.ref (ad (4)), .ref (ad (5)), .ref (ad (6)), .ref (ad (7)), .int (nI (hn h)), .int (nI (hpu h)), .int (nI (hho h))]) := (hs_F22 _ (by omega)).trans g0G_F21
                    have q0G_F22 : F22 155 = .inr (5, [.ref (ad (3)), .ref (ad (13)), .ref (ad (157)), .ref (ad (156)), .int (nI fm)]) := (hs_F22 _ (by omega)).trans q0G_F21
                    have q1G_F22 : F22 156 = .inl (g.2.2 0, 2, .inl (fo)) := (hs_F22 _ (by omega)).trans q1G_F21
                    have r0_F22 : F22 157 = .inr (4, [.ref (ad (3)), .ref (ad (158)), .ref (ad (159)), .int (nI (rmv v1)), .int (bI (rbg v1))]) := (hs_F22 _ (by omega)).trans r0_F21
                    refine lv_aload_n B.1 B.2.1 dX5_fewestMoves_50 rfl (lv_at hl 2 rfl) ?_
                    refine r_cg B hC (i := 155) (by decide) q0G_F22 (C := RX5) (T := TX5) (n := 5) rfl iwX5_fewestMoves_X5 0 (by decide) (index := 19) flX5_fewestMoves_19 rfl (v := .ref (ad (3))) rfl dX5_fewestMoves_51 ?_
                    refine lv_aload_n B.1 B.2.1 dX5_fewestMoves_54 rfl (lv_at hl 2 rfl) ?_
                    refine r_cg B hC (i := 155) (by decide) q0G_F22 (C := RX5) (T := TX5) (n := 5) rfl iwX5_fewestMoves_X5 1 (by decide) (index := 23) flX5_fewestMoves_23 rfl (v := .ref (ad (13))) rfl dX5_fewestMoves_55 ?_
                    refine r_calli B hC hl.1 (3) 2 rfl rfl (by decide) g0G_F22 (As := [.ref (ad (13))]) (ctX2_watchesAfloat l g lo ad (HullC.at hH (fun i h1 h2 => by rw [hs_F22 i (by omega)]; rw [hs_F21 i (by omega)]; rw [hs i (by omega) (by omega)])) ok (b := 13) (by omega) hTc lokE) gX5_fewestMoves_X2_watchesAfloat rfl (n := 1) rfl (by decide +kernel) ⟨Nat.le_of_ble_eq_true rfl, Nat.le_of_ble_eq_true rfl⟩ ⟨Nat.zero_le _, Nat.zero_le _⟩ rfl (Nat.le_of_ble_eq_true rfl) dX5_fewestMoves_58 (fun r58 F23 H locs hp58 hC => ?_)
                    obtain ⟨er, w2, hT2, hc2, hs_F23⟩ := hp58
                    subst er
                    have hfl9 := floatsV_le h (endV h w e1)
                    have g0G_F23 : F23 3 = .inr (2, [.ref (ad (4)), .ref (ad (5)), .ref (ad (6)), .ref (ad (7)), .int (nI (hn h)), .int (nI (hpu h)), .int (nI (hho h))]) := (hs_F23 _ (by omega)).trans g0G_F22
                    have q0G_F23 : F23 155 = .inr (5, [.ref (ad (3)), .ref (ad (13)), .ref (ad (157)), .ref (ad (156)), .int (nI fm)]) := (hs_F23 _ (by omega)).trans q0G_F22
                    have q1G_F23 : F23 156 = .inl (g.2.2 0, 2, .inl (fo)) := (hs_F23 _ (by omega)).trans q1G_F22
                    have r0_F23 : F23 157 = .inr (4, [.ref (ad (3)), .ref (ad (158)), .ref (ad (159)), .int (nI (rmv v1)), .int (bI (rbg v1))]) := (hs_F23 _ (by omega)).trans r0_F22
                    refine lv_iload_n B.1 B.2.1 dX5_fewestMoves_61 rfl (lv_at hl 4 rfl) ?_
                    refine lv_icmp_lt (tgt := 83) B.1 B.2.1 dX5_fewestMoves_62 (by decide) (fun c_62 => ?_) (fun c_62 => ?_)
                    · have q_62 : (floatsV h (endV h w e1)) < n := (nI_ltI (by omega) (by omega)).mp c_62
                      refine lv_iinc (v := nI (i + 1)) (lv' := [(4, .int (nI (i + 1))), (3, .int (nI 2)), (0, .ref (ad (155))), (1, .ref (ad (8))), (2, .int (nI n))]) B.1 B.2.1 dX5_fewestMoves_83 hl (k := 0) rfl (nI_1 _) (by decide) rfl (fun ls hl => ?_)
                      refine lv_goto (tgt := 19) B.1 B.2.1 dX5_fewestMoves_86 (by decide) ?_
                      exact ih2 (i + 1) es v1 w2 F23 (by rw [hrem, List.length_cons] at hlt; omega) (by omega) (RowsC.keep hR_F21 (fun i h1 h2 => by rw [hs_F23 i (by omega)]; rw [hs_F22 i (by omega)])) hI_F21 (hmv1.trans hmu) hT2 hc2 (by rw [← he, hrem, portF, if_neg (by omega)]) (fun i hi hj => by rw [hs_F23 i (by omega)]; rw [hs_F22 i (by omega)]; rw [hs_F21 i (by omega)]; rw [hs i (by omega) (by omega)]) ⟨by rw [hs_F23 _ (by omega)]; rw [hs_F22 _ (by omega)]; rw [hs_F21 _ (by omega)]; rw [hq.1], by rw [hs_F23 _ (by omega)]; rw [hs_F22 _ (by omega)]; rw [hs_F21 _ (by omega)]; rw [hq.2]⟩ _ _ ls hC (lv_sub hl [0, 1, 2, 3, 4] rfl)
                    · have q_62 : ¬ (floatsV h (endV h w e1)) < n := fun z => c_62 ((nI_ltI (by omega) (by omega)).mpr z)
                      refine lv_aload_n B.1 B.2.1 dX5_fewestMoves_65 rfl (lv_at hl 2 rfl) ?_
                      refine lv_iload_n B.1 B.2.1 dX5_fewestMoves_66 rfl (lv_at hl 1 rfl) ?_
                      refine r_cp B hC (i := 155) (by decide) q0G_F23 tyX5 tyX5_ok nmX5 (C := RX5) (T := TX5) rfl iwX5_fewestMoves_X5 4 (by decide) (index := 15) flX5_fewestMoves_15 rfl rfl (v := .int (nI 2)) (rfl) (rfl) (Nat.le_of_ble_eq_true rfl) dX5_fewestMoves_67 ?_
                      intro H locs hC
                      obtain ⟨F24, eF24⟩ : ∃ f : Nat → va_E, f = va_up F23 (155) (.inr (5, [.ref (ad (3)), .ref (ad (13)), .ref (ad (157)), .ref (ad (156)), .int (nI 2)])) := ⟨_, rfl⟩
                      have hC : Cu g lo 196 ad F24 ss ss.heap H locs := by rw [eF24]; exact hC
                      have k155_F24 : F24 155 = .inr (5, [.ref (ad (3)), .ref (ad (13)), .ref (ad (157)), .ref (ad (156)), .int (nI 2)]) := by rw [eF24]; exact va_up_self _ _ _
                      have g0G_F24 : F24 3 = .inr (2, [.ref (ad (4)), .ref (ad (5)), .ref (ad (6)), .ref (ad (7)), .int (nI (hn h)), .int (nI (hpu h)), .int (nI (hho h))]) := by rw [eF24, va_up_ne _ _ (by decide)]; exact g0G_F23
                      have q1G_F24 : F24 156 = .inl (g.2.2 0, 2, .inl (fo)) := by rw [eF24, va_up_ne _ _ (by decide)]; exact q1G_F23
                      have r0_F24 : F24 157 = .inr (4, [.ref (ad (3)), .ref (ad (158)), .ref (ad (159)), .int (nI (rmv v1)), .int (bI (rbg v1))]) := by rw [eF24, va_up_ne _ _ (by decide)]; exact r0_F23
                      refine lv_aload_n B.1 B.2.1 dX5_fewestMoves_70 rfl (lv_at hl 2 rfl) ?_
                      refine r_cg B hC (i := 155) (by decide) k155_F24 (C := RX5) (T := TX5) (n := 5) rfl iwX5_fewestMoves_X5 2 (by decide) (index := 32) flX5_fewestMoves_32 rfl (v := .ref (ad (157))) rfl dX5_fewestMoves_71 ?_
                      refine lv_aload_n B.1 B.2.1 dX5_fewestMoves_74 rfl (lv_at hl 2 rfl) ?_
                      refine r_cg B hC (i := 155) (by decide) k155_F24 (C := RX5) (T := TX5) (n := 5) rfl iwX5_fewestMoves_X5 3 (by decide) (index := 9) flX5_fewestMoves_9 rfl (v := .ref (ad (156))) rfl dX5_fewestMoves_75 ?_
                      refine r_callv B hC hl.1 (157) 4 rfl rfl (by decide) r0_F24 (As := [.ref (ad (156))]) (ctX4_copyTo l g lo ad (RowsC.keep hR_F21 (fun i h1 h2 => by rw [eF24, va_up_ne _ _ (by omega)]; rw [hs_F23 i (by omega)]; rw [hs_F22 i (by omega)])) (by omega) (fo := fo) q1G_F24) gX5_fewestMoves_X4_copyTo rfl (n := 1) rfl (by decide +kernel) ⟨Nat.le_of_ble_eq_true rfl, Nat.le_of_ble_eq_true rfl⟩ ⟨Nat.zero_le _, Nat.zero_le _⟩ rfl (Nat.le_of_ble_eq_true rfl) dX5_fewestMoves_78 (fun F25 H locs hp78 hC => ?_)
                      obtain ⟨q1_F25, hs_F25⟩ := hp78
                      have g0G_F25 : F25 3 = .inr (2, [.ref (ad (4)), .ref (ad (5)), .ref (ad (6)), .ref (ad (7)), .int (nI (hn h)), .int (nI (hpu h)), .int (nI (hho h))]) := (hs_F25 _ (by omega)).trans g0G_F24
                      have k155_F25 : F25 155 = .inr (5, [.ref (ad (3)), .ref (ad (13)), .ref (ad (157)), .ref (ad (156)), .int (nI 2)]) := (hs_F25 _ (by omega)).trans k155_F24
                      have r0_F25 : F25 157 = .inr (4, [.ref (ad (3)), .ref (ad (158)), .ref (ad (159)), .int (nI (rmv v1)), .int (bI (rbg v1))]) := (hs_F25 _ (by omega)).trans r0_F24
                      refine lv_iload_n B.1 B.2.1 dX5_fewestMoves_81 rfl (lv_at hl 1 rfl) ?_
                      exact r_eI B hC (v := nI 2) (by
      have hpv : portV h w n = some e1 := by
        have hpM : portF h w n (rowsV h w 2) = some e1 := by rw [← he, hrem, portF, if_pos (by omega)]
        simp only [portV, hp0, hp1, hpM]
      rw [hpv]
      exact ⟨(va_cpy (fun j => y1 (rro v1 j)) fo 0 0 (rmv v1)), v1, w2, by show nI 2 = oI (some e1.length); rw [hCu.1, hmv1, hmu]; rfl, ⟨by show _ = _; rw [show (Option.getD (some e1) []).length = 2 from hCu.1.trans (hmv1.trans hmu)]; exact k155_F25, q1_F25⟩, (show Fnd _ (e1.length) e1 from hCu.1.symm ▸ Fnd_of hCu hm2), (RowsC.keep hR_F21 (fun i h1 h2 => by rw [hs_F25 i (by omega)]; rw [eF24, va_up_ne _ _ (by omega)]; rw [hs_F23 i (by omega)]; rw [hs_F22 i (by omega)])), ok_F21, (hT2.at (fun i h1 h2 => by rw [hs_F25 i (by omega)]; rw [eF24, va_up_ne _ _ (by omega)])), hc2, (fun i hi hj => by rw [hs_F25 i (by omega)]; rw [eF24, va_up_ne _ _ (by omega)]; rw [hs_F23 i (by omega)]; rw [hs_F22 i (by omega)]; rw [hs_F21 i (by omega)]; rw [hs i (by omega) (by omega)])⟩) dX5_fewestMoves_82
              exact loop2 10001 0 (rowsV h w 2) (2, false, rro v1, va_up (rst v1) 0 w) wt F22 (Nat.lt_succ_of_le (rowsV_len h w 2)) (by decide) hR_F22 hI_F22 rfl (hTG.at (fun i h1 h2 => by rw [hs_F22 i (by omega)]; rw [hs_F21 i (by omega)])) hct rfl (fun i hi hj => by rw [hs_F22 i (by omega)]; rw [hs_F21 i (by omega)]; rw [hs i (by omega) (by omega)]) ⟨by rw [hs_F22 _ (by omega)]; rw [hs_F21 _ (by omega)]; rw [hq.1], by rw [hs_F22 _ (by omega)]; rw [hs_F21 _ (by omega)]; rw [hq.2]⟩ _ _ ls hC (lv_sub hl [0, 1, 2, 3, 4] rfl)
            · subst er
              obtain ⟨r0_F21, r1_F21, r2_F21, rL_F21⟩ := id hR_F21
              have ok_F21 := hI_F21.2.2.1
              have g0G_F21 : F21 3 = .inr (2, [.ref (ad (4)), .ref (ad (5)), .ref (ad (6)), .ref (ad (7)), .int (nI (hn h)), .int (nI (hpu h)), .int (nI (hho h))]) := (hs_F21 _ (by omega)).trans g0G
              have q0G_F21 : F21 155 = .inr (5, [.ref (ad (3)), .ref (ad (13)), .ref (ad (157)), .ref (ad (156)), .int (nI fm)]) := (hs_F21 _ (by omega)).trans q0G
              have q1G_F21 : F21 156 = .inl (g.2.2 0, 2, .inl (fo)) := (hs_F21 _ (by omega)).trans q1G
              refine lv_if_eq (tgt := 89) B.1 B.2.1 dX5_fewestMoves_33 (by decide) (fun z => absurd z (by decide)) (fun _ => ?_)
              refine lv_aload_n B.1 B.2.1 dX5_fewestMoves_36 rfl (lv_at hl 2 rfl) ?_
              refine r_cg B hC (i := 155) (by decide) q0G_F21 (C := RX5) (T := TX5) (n := 5) rfl iwX5_fewestMoves_X5 1 (by decide) (index := 23) flX5_fewestMoves_23 rfl (v := .ref (ad (13))) rfl dX5_fewestMoves_37 ?_
              refine lv_aload_n B.1 B.2.1 dX5_fewestMoves_40 rfl (lv_at hl 2 rfl) ?_
              refine r_cg B hC (i := 155) (by decide) q0G_F21 (C := RX5) (T := TX5) (n := 5) rfl iwX5_fewestMoves_X5 2 (by decide) (index := 32) flX5_fewestMoves_32 rfl (v := .ref (ad (157))) rfl dX5_fewestMoves_41 ?_
              have hm2 : rmv v1 ≤ 2 := by omega
              refine r_callr B hC hl.1 (157) 4 rfl rfl (by decide) r0_F21 (As := []) (ctX4_end l g lo ad hR_F21 hm2) gX5_fewestMoves_X4_end rfl (n := 0) rfl (by decide +kernel) ⟨Nat.le_of_ble_eq_true rfl, Nat.le_of_ble_eq_true rfl⟩ ⟨Nat.zero_le _, Nat.zero_le _⟩ rfl (Nat.le_of_ble_eq_true rfl) dX5_fewestMoves_44 (fun H locs hC => ?_)
              have hEn : LoadC g ad F21 (160 + 5 * rmv v1) (endV h w e1) := by have z := hR_F21.2.2.2 (rmv v1) (by omega); rw [hCu.2.2.1] at z; exact z
              have lokE := hCu.2.2.2.1
              have hTn : LoadC g ad F21 13 wt := hTG.at (fun i h1 h2 => by rw [hs_F21 i (by omega)])
              obtain ⟨t0, t1, t2, t3, t4⟩ := id hTn
              refine r_callv B hC hl.1 (13) 3 rfl rfl (by decide) t0 (As := [.ref (ad ((160 + 5 * rmv v1)))]) (ctX3_copyFrom l g lo ad (b := 13) (by omega) hTn (b2 := 160 + 5 * rmv v1) (by omega) (by omega) hEn hct lokE.can) gX5_fewestMoves_X3_copyFrom rfl (n := 1) rfl (by decide +kernel) ⟨Nat.le_of_ble_eq_true rfl, Nat.le_of_ble_eq_true rfl⟩ ⟨Nat.zero_le _, Nat.zero_le _⟩ rfl (Nat.le_of_ble_eq_true rfl) dX5_fewestMoves_47 (fun F22 H locs hp47 hC => ?_)
              obtain ⟨hTc, hs_F22⟩ := hp47
              obtain ⟨t0, t1, t2, t3, t4⟩ := id hTc
              have g0G_F22 : F22 3 = .inr (2, [.ref (ad (4)), .ref (ad (5)), .ref (ad (6)), .ref (ad (7)), .int (nI (hn h)), .int (nI (hpu h)), .int (nI (hho h))]) := (hs_F22 _ (by omega)).trans g0G_F21
              have q0G_F22 : F22 155 = .inr (5, [.ref (ad (3)), .ref (ad (13)), .ref (ad (157)), .ref (ad (156)), .int (nI fm)]) := (hs_F22 _ (by omega)).trans q0G_F21
              have q1G_F22 : F22 156 = .inl (g.2.2 0, 2, .inl (fo)) := (hs_F22 _ (by omega)).trans q1G_F21
              have r0_F22 : F22 157 = .inr (4, [.ref (ad (3)), .ref (ad (158)), .ref (ad (159)), .int (nI (rmv v1)), .int (bI (rbg v1))]) := (hs_F22 _ (by omega)).trans r0_F21
              refine lv_aload_n B.1 B.2.1 dX5_fewestMoves_50 rfl (lv_at hl 2 rfl) ?_
              refine r_cg B hC (i := 155) (by decide) q0G_F22 (C := RX5) (T := TX5) (n := 5) rfl iwX5_fewestMoves_X5 0 (by decide) (index := 19) flX5_fewestMoves_19 rfl (v := .ref (ad (3))) rfl dX5_fewestMoves_51 ?_
              refine lv_aload_n B.1 B.2.1 dX5_fewestMoves_54 rfl (lv_at hl 2 rfl) ?_
              refine r_cg B hC (i := 155) (by decide) q0G_F22 (C := RX5) (T := TX5) (n := 5) rfl iwX5_fewestMoves_X5 1 (by decide) (index := 23) flX5_fewestMoves_23 rfl (v := .ref (ad (13))) rfl dX5_fewestMoves_55 ?_
              refine r_calli B hC hl.1 (3) 2 rfl rfl (by decide) g0G_F22 (As := [.ref (ad (13))]) (ctX2_watchesAfloat l g lo ad (HullC.at hH (fun i h1 h2 => by rw [hs_F22 i (by omega)]; rw [hs_F21 i (by omega)]; rw [hs i (by omega) (by omega)])) ok (b := 13) (by omega) hTc lokE) gX5_fewestMoves_X2_watchesAfloat rfl (n := 1) rfl (by decide +kernel) ⟨Nat.le_of_ble_eq_true rfl, Nat.le_of_ble_eq_true rfl⟩ ⟨Nat.zero_le _, Nat.zero_le _⟩ rfl (Nat.le_of_ble_eq_true rfl) dX5_fewestMoves_58 (fun r58 F23 H locs hp58 hC => ?_)
              obtain ⟨er, w2, hT2, hc2, hs_F23⟩ := hp58
              subst er
              have hfl9 := floatsV_le h (endV h w e1)
              have g0G_F23 : F23 3 = .inr (2, [.ref (ad (4)), .ref (ad (5)), .ref (ad (6)), .ref (ad (7)), .int (nI (hn h)), .int (nI (hpu h)), .int (nI (hho h))]) := (hs_F23 _ (by omega)).trans g0G_F22
              have q0G_F23 : F23 155 = .inr (5, [.ref (ad (3)), .ref (ad (13)), .ref (ad (157)), .ref (ad (156)), .int (nI fm)]) := (hs_F23 _ (by omega)).trans q0G_F22
              have q1G_F23 : F23 156 = .inl (g.2.2 0, 2, .inl (fo)) := (hs_F23 _ (by omega)).trans q1G_F22
              have r0_F23 : F23 157 = .inr (4, [.ref (ad (3)), .ref (ad (158)), .ref (ad (159)), .int (nI (rmv v1)), .int (bI (rbg v1))]) := (hs_F23 _ (by omega)).trans r0_F22
              refine lv_iload_n B.1 B.2.1 dX5_fewestMoves_61 rfl (lv_at hl 4 rfl) ?_
              refine lv_icmp_lt (tgt := 83) B.1 B.2.1 dX5_fewestMoves_62 (by decide) (fun c_62 => ?_) (fun c_62 => ?_)
              · have q_62 : (floatsV h (endV h w e1)) < n := (nI_ltI (by omega) (by omega)).mp c_62
                refine lv_iinc (v := nI (i + 1)) (lv' := [(4, .int (nI (i + 1))), (3, .int (nI 1)), (0, .ref (ad (155))), (1, .ref (ad (8))), (2, .int (nI n))]) B.1 B.2.1 dX5_fewestMoves_83 hl (k := 0) rfl (nI_1 _) (by decide) rfl (fun ls hl => ?_)
                refine lv_goto (tgt := 19) B.1 B.2.1 dX5_fewestMoves_86 (by decide) ?_
                exact ih1 (i + 1) es v1 w2 F23 (by rw [hrem, List.length_cons] at hlt; omega) (by omega) (RowsC.keep hR_F21 (fun i h1 h2 => by rw [hs_F23 i (by omega)]; rw [hs_F22 i (by omega)])) hI_F21 (hmv1.trans hmu) hT2 hc2 (by rw [← he, hrem, portF, if_neg (by omega)]) (fun i hi hj => by rw [hs_F23 i (by omega)]; rw [hs_F22 i (by omega)]; rw [hs_F21 i (by omega)]; rw [hs i (by omega) (by omega)]) ⟨by rw [hs_F23 _ (by omega)]; rw [hs_F22 _ (by omega)]; rw [hs_F21 _ (by omega)]; rw [hq.1], by rw [hs_F23 _ (by omega)]; rw [hs_F22 _ (by omega)]; rw [hs_F21 _ (by omega)]; rw [hq.2]⟩ _ _ ls hC (lv_sub hl [0, 1, 2, 3, 4] rfl)
              · have q_62 : ¬ (floatsV h (endV h w e1)) < n := fun z => c_62 ((nI_ltI (by omega) (by omega)).mpr z)
                refine lv_aload_n B.1 B.2.1 dX5_fewestMoves_65 rfl (lv_at hl 2 rfl) ?_
                refine lv_iload_n B.1 B.2.1 dX5_fewestMoves_66 rfl (lv_at hl 1 rfl) ?_
                refine r_cp B hC (i := 155) (by decide) q0G_F23 tyX5 tyX5_ok nmX5 (C := RX5) (T := TX5) rfl iwX5_fewestMoves_X5 4 (by decide) (index := 15) flX5_fewestMoves_15 rfl rfl (v := .int (nI 1)) (rfl) (rfl) (Nat.le_of_ble_eq_true rfl) dX5_fewestMoves_67 ?_
                intro H locs hC
                obtain ⟨F24, eF24⟩ : ∃ f : Nat → va_E, f = va_up F23 (155) (.inr (5, [.ref (ad (3)), .ref (ad (13)), .ref (ad (157)), .ref (ad (156)), .int (nI 1)])) := ⟨_, rfl⟩
                have hC : Cu g lo 196 ad F24 ss ss.heap H locs := by rw [eF24]; exact hC
                have k155_F24 : F24 155 = .inr (5, [.ref (ad (3)), .ref (ad (13)), .ref (ad (157)), .ref (ad (156)), .int (nI 1)]) := by rw [eF24]; exact va_up_self _ _ _
                have g0G_F24 : F24 3 = .inr (2, [.ref (ad (4)), .ref (ad (5)), .ref (ad (6)), .ref (ad (7)), .int (nI (hn h)), .int (nI (hpu h)), .int (nI (hho h))]) := by rw [eF24, va_up_ne _ _ (by decide)]; exact g0G_F23
                have q1G_F24 : F24 156 = .inl (g.2.2 0, 2, .inl (fo)) := by rw [eF24, va_up_ne _ _ (by decide)]; exact q1G_F23
                have r0_F24 : F24 157 = .inr (4, [.ref (ad (3)), .ref (ad (158)), .ref (ad (159)), .int (nI (rmv v1)), .int (bI (rbg v1))]) := by rw [eF24, va_up_ne _ _ (by decide)]; exact r0_F23
                refine lv_aload_n B.1 B.2.1 dX5_fewestMoves_70 rfl (lv_at hl 2 rfl) ?_
                refine r_cg B hC (i := 155) (by decide) k155_F24 (C := RX5) (T := TX5) (n := 5) rfl iwX5_fewestMoves_X5 2 (by decide) (index := 32) flX5_fewestMoves_32 rfl (v := .ref (ad (157))) rfl dX5_fewestMoves_71 ?_
                refine lv_aload_n B.1 B.2.1 dX5_fewestMoves_74 rfl (lv_at hl 2 rfl) ?_
                refine r_cg B hC (i := 155) (by decide) k155_F24 (C := RX5) (T := TX5) (n := 5) rfl iwX5_fewestMoves_X5 3 (by decide) (index := 9) flX5_fewestMoves_9 rfl (v := .ref (ad (156))) rfl dX5_fewestMoves_75 ?_
                refine r_callv B hC hl.1 (157) 4 rfl rfl (by decide) r0_F24 (As := [.ref (ad (156))]) (ctX4_copyTo l g lo ad (RowsC.keep hR_F21 (fun i h1 h2 => by rw [eF24, va_up_ne _ _ (by omega)]; rw [hs_F23 i (by omega)]; rw [hs_F22 i (by omega)])) (by omega) (fo := fo) q1G_F24) gX5_fewestMoves_X4_copyTo rfl (n := 1) rfl (by decide +kernel) ⟨Nat.le_of_ble_eq_true rfl, Nat.le_of_ble_eq_true rfl⟩ ⟨Nat.zero_le _, Nat.zero_le _⟩ rfl (Nat.le_of_ble_eq_true rfl) dX5_fewestMoves_78 (fun F25 H locs hp78 hC => ?_)
                obtain ⟨q1_F25, hs_F25⟩ := hp78
                have g0G_F25 : F25 3 = .inr (2, [.ref (ad (4)), .ref (ad (5)), .ref (ad (6)), .ref (ad (7)), .int (nI (hn h)), .int (nI (hpu h)), .int (nI (hho h))]) := (hs_F25 _ (by omega)).trans g0G_F24
                have k155_F25 : F25 155 = .inr (5, [.ref (ad (3)), .ref (ad (13)), .ref (ad (157)), .ref (ad (156)), .int (nI 1)]) := (hs_F25 _ (by omega)).trans k155_F24
                have r0_F25 : F25 157 = .inr (4, [.ref (ad (3)), .ref (ad (158)), .ref (ad (159)), .int (nI (rmv v1)), .int (bI (rbg v1))]) := (hs_F25 _ (by omega)).trans r0_F24
                refine lv_iload_n B.1 B.2.1 dX5_fewestMoves_81 rfl (lv_at hl 1 rfl) ?_
                exact r_eI B hC (v := nI 1) (by
      have hpv : portV h w n = some e1 := by
        have hpM : portF h w n (rowsV h w 1) = some e1 := by rw [← he, hrem, portF, if_pos (by omega)]
        simp only [portV, hp0, hpM]
      rw [hpv]
      exact ⟨(va_cpy (fun j => y1 (rro v1 j)) fo 0 0 (rmv v1)), v1, w2, by show nI 1 = oI (some e1.length); rw [hCu.1, hmv1, hmu]; rfl, ⟨by show _ = _; rw [show (Option.getD (some e1) []).length = 1 from hCu.1.trans (hmv1.trans hmu)]; exact k155_F25, q1_F25⟩, (show Fnd _ (e1.length) e1 from hCu.1.symm ▸ Fnd_of hCu hm2), (RowsC.keep hR_F21 (fun i h1 h2 => by rw [hs_F25 i (by omega)]; rw [eF24, va_up_ne _ _ (by omega)]; rw [hs_F23 i (by omega)]; rw [hs_F22 i (by omega)])), ok_F21, (hT2.at (fun i h1 h2 => by rw [hs_F25 i (by omega)]; rw [eF24, va_up_ne _ _ (by omega)])), hc2, (fun i hi hj => by rw [hs_F25 i (by omega)]; rw [eF24, va_up_ne _ _ (by omega)]; rw [hs_F23 i (by omega)]; rw [hs_F22 i (by omega)]; rw [hs_F21 i (by omega)]; rw [hs i (by omega) (by omega)])⟩) dX5_fewestMoves_82
        exact loop1 10001 0 (rowsV h w 1) (1, false, rro v1, va_up (rst v1) 0 w) wt F22 (Nat.lt_succ_of_le (rowsV_len h w 1)) (by decide) hR_F22 hI_F22 rfl (hTG.at (fun i h1 h2 => by rw [hs_F22 i (by omega)]; rw [hs_F21 i (by omega)])) hct rfl (fun i hi hj => by rw [hs_F22 i (by omega)]; rw [hs_F21 i (by omega)]; rw [hs i (by omega) (by omega)]) ⟨by rw [hs_F22 _ (by omega)]; rw [hs_F21 _ (by omega)]; rw [hq.1], by rw [hs_F22 _ (by omega)]; rw [hs_F21 _ (by omega)]; rw [hq.2]⟩ _ _ ls hC (lv_sub hl [0, 1, 2, 3, 4] rfl)
      · subst er
        obtain ⟨r0_F21, r1_F21, r2_F21, rL_F21⟩ := id hR_F21
        have ok_F21 := hI_F21.2.2.1
        have g0G_F21 : F21 3 = .inr (2, [.ref (ad (4)), .ref (ad (5)), .ref (ad (6)), .ref (ad (7)), .int (nI (hn h)), .int (nI (hpu h)), .int (nI (hho h))]) := (hs_F21 _ (by omega)).trans g0G
        have q0G_F21 : F21 155 = .inr (5, [.ref (ad (3)), .ref (ad (13)), .ref (ad (157)), .ref (ad (156)), .int (nI fm)]) := (hs_F21 _ (by omega)).trans q0G
        have q1G_F21 : F21 156 = .inl (g.2.2 0, 2, .inl (fo)) := (hs_F21 _ (by omega)).trans q1G
        refine lv_if_eq (tgt := 89) B.1 B.2.1 dX5_fewestMoves_33 (by decide) (fun z => absurd z (by decide)) (fun _ => ?_)
        refine lv_aload_n B.1 B.2.1 dX5_fewestMoves_36 rfl (lv_at hl 2 rfl) ?_
        refine r_cg B hC (i := 155) (by decide) q0G_F21 (C := RX5) (T := TX5) (n := 5) rfl iwX5_fewestMoves_X5 1 (by decide) (index := 23) flX5_fewestMoves_23 rfl (v := .ref (ad (13))) rfl dX5_fewestMoves_37 ?_
        refine lv_aload_n B.1 B.2.1 dX5_fewestMoves_40 rfl (lv_at hl 2 rfl) ?_
        refine r_cg B hC (i := 155) (by decide) q0G_F21 (C := RX5) (T := TX5) (n := 5) rfl iwX5_fewestMoves_X5 2 (by decide) (index := 32) flX5_fewestMoves_32 rfl (v := .ref (ad (157))) rfl dX5_fewestMoves_41 ?_
        have hm2 : rmv v1 ≤ 2 := by omega
        refine r_callr B hC hl.1 (157) 4 rfl rfl (by decide) r0_F21 (As := []) (ctX4_end l g lo ad hR_F21 hm2) gX5_fewestMoves_X4_end rfl (n := 0) rfl (by decide +kernel) ⟨Nat.le_of_ble_eq_true rfl, Nat.le_of_ble_eq_true rfl⟩ ⟨Nat.zero_le _, Nat.zero_le _⟩ rfl (Nat.le_of_ble_eq_true rfl) dX5_fewestMoves_44 (fun H locs hC => ?_)
        have hEn : LoadC g ad F21 (160 + 5 * rmv v1) (endV h w e1) := by have z := hR_F21.2.2.2 (rmv v1) (by omega); rw [hCu.2.2.1] at z; exact z
        have lokE := hCu.2.2.2.1
        have hTn : LoadC g ad F21 13 wt := hTG.at (fun i h1 h2 => by rw [hs_F21 i (by omega)])
        obtain ⟨t0, t1, t2, t3, t4⟩ := id hTn
        refine r_callv B hC hl.1 (13) 3 rfl rfl (by decide) t0 (As := [.ref (ad ((160 + 5 * rmv v1)))]) (ctX3_copyFrom l g lo ad (b := 13) (by omega) hTn (b2 := 160 + 5 * rmv v1) (by omega) (by omega) hEn hct lokE.can) gX5_fewestMoves_X3_copyFrom rfl (n := 1) rfl (by decide +kernel) ⟨Nat.le_of_ble_eq_true rfl, Nat.le_of_ble_eq_true rfl⟩ ⟨Nat.zero_le _, Nat.zero_le _⟩ rfl (Nat.le_of_ble_eq_true rfl) dX5_fewestMoves_47 (fun F22 H locs hp47 hC => ?_)
        obtain ⟨hTc, hs_F22⟩ := hp47
        obtain ⟨t0, t1, t2, t3, t4⟩ := id hTc
        have g0G_F22 : F22 3 = .inr (2, [.ref (ad (4)), .ref (ad (5)), .ref (ad (6)), .ref (ad (7)), .int (nI (hn h)), .int (nI (hpu h)), .int (nI (hho h))]) := (hs_F22 _ (by omega)).trans g0G_F21
        have q0G_F22 : F22 155 = .inr (5, [.ref (ad (3)), .ref (ad (13)), .ref (ad (157)), .ref (ad (156)), .int (nI fm)]) := (hs_F22 _ (by omega)).trans q0G_F21
        have q1G_F22 : F22 156 = .inl (g.2.2 0, 2, .inl (fo)) := (hs_F22 _ (by omega)).trans q1G_F21
        have r0_F22 : F22 157 = .inr (4, [.ref (ad (3)), .ref (ad (158)), .ref (ad (159)), .int (nI (rmv v1)), .int (bI (rbg v1))]) := (hs_F22 _ (by omega)).trans r0_F21
        refine lv_aload_n B.1 B.2.1 dX5_fewestMoves_50 rfl (lv_at hl 2 rfl) ?_
        refine r_cg B hC (i := 155) (by decide) q0G_F22 (C := RX5) (T := TX5) (n := 5) rfl iwX5_fewestMoves_X5 0 (by decide) (index := 19) flX5_fewestMoves_19 rfl (v := .ref (ad (3))) rfl dX5_fewestMoves_51 ?_
        refine lv_aload_n B.1 B.2.1 dX5_fewestMoves_54 rfl (lv_at hl 2 rfl) ?_
        refine r_cg B hC (i := 155) (by decide) q0G_F22 (C := RX5) (T := TX5) (n := 5) rfl iwX5_fewestMoves_X5 1 (by decide) (index := 23) flX5_fewestMoves_23 rfl (v := .ref (ad (13))) rfl dX5_fewestMoves_55 ?_
        refine r_calli B hC hl.1 (3) 2 rfl rfl (by decide) g0G_F22 (As := [.ref (ad (13))]) (ctX2_watchesAfloat l g lo ad (HullC.at hH (fun i h1 h2 => by rw [hs_F22 i (by omega)]; rw [hs_F21 i (by omega)]; rw [hs i (by omega) (by omega)])) ok (b := 13) (by omega) hTc lokE) gX5_fewestMoves_X2_watchesAfloat rfl (n := 1) rfl (by decide +kernel) ⟨Nat.le_of_ble_eq_true rfl, Nat.le_of_ble_eq_true rfl⟩ ⟨Nat.zero_le _, Nat.zero_le _⟩ rfl (Nat.le_of_ble_eq_true rfl) dX5_fewestMoves_58 (fun r58 F23 H locs hp58 hC => ?_)
        obtain ⟨er, w2, hT2, hc2, hs_F23⟩ := hp58
        subst er
        have hfl9 := floatsV_le h (endV h w e1)
        have g0G_F23 : F23 3 = .inr (2, [.ref (ad (4)), .ref (ad (5)), .ref (ad (6)), .ref (ad (7)), .int (nI (hn h)), .int (nI (hpu h)), .int (nI (hho h))]) := (hs_F23 _ (by omega)).trans g0G_F22
        have q0G_F23 : F23 155 = .inr (5, [.ref (ad (3)), .ref (ad (13)), .ref (ad (157)), .ref (ad (156)), .int (nI fm)]) := (hs_F23 _ (by omega)).trans q0G_F22
        have q1G_F23 : F23 156 = .inl (g.2.2 0, 2, .inl (fo)) := (hs_F23 _ (by omega)).trans q1G_F22
        have r0_F23 : F23 157 = .inr (4, [.ref (ad (3)), .ref (ad (158)), .ref (ad (159)), .int (nI (rmv v1)), .int (bI (rbg v1))]) := (hs_F23 _ (by omega)).trans r0_F22
        refine lv_iload_n B.1 B.2.1 dX5_fewestMoves_61 rfl (lv_at hl 4 rfl) ?_
        refine lv_icmp_lt (tgt := 83) B.1 B.2.1 dX5_fewestMoves_62 (by decide) (fun c_62 => ?_) (fun c_62 => ?_)
        · have q_62 : (floatsV h (endV h w e1)) < n := (nI_ltI (by omega) (by omega)).mp c_62
          refine lv_iinc (v := nI (i + 1)) (lv' := [(4, .int (nI (i + 1))), (3, .int (nI 0)), (0, .ref (ad (155))), (1, .ref (ad (8))), (2, .int (nI n))]) B.1 B.2.1 dX5_fewestMoves_83 hl (k := 0) rfl (nI_1 _) (by decide) rfl (fun ls hl => ?_)
          refine lv_goto (tgt := 19) B.1 B.2.1 dX5_fewestMoves_86 (by decide) ?_
          exact ih0 (i + 1) es v1 w2 F23 (by rw [hrem, List.length_cons] at hlt; omega) (by omega) (RowsC.keep hR_F21 (fun i h1 h2 => by rw [hs_F23 i (by omega)]; rw [hs_F22 i (by omega)])) hI_F21 (hmv1.trans hmu) hT2 hc2 (by rw [← he, hrem, portF, if_neg (by omega)]) (fun i hi hj => by rw [hs_F23 i (by omega)]; rw [hs_F22 i (by omega)]; rw [hs_F21 i (by omega)]; rw [hs i (by omega) (by omega)]) ⟨by rw [hs_F23 _ (by omega)]; rw [hs_F22 _ (by omega)]; rw [hs_F21 _ (by omega)]; rw [hq.1], by rw [hs_F23 _ (by omega)]; rw [hs_F22 _ (by omega)]; rw [hs_F21 _ (by omega)]; rw [hq.2]⟩ _ _ ls hC (lv_sub hl [0, 1, 2, 3, 4] rfl)
        · have q_62 : ¬ (floatsV h (endV h w e1)) < n := fun z => c_62 ((nI_ltI (by omega) (by omega)).mpr z)
          refine lv_aload_n B.1 B.2.1 dX5_fewestMoves_65 rfl (lv_at hl 2 rfl) ?_
          refine lv_iload_n B.1 B.2.1 dX5_fewestMoves_66 rfl (lv_at hl 1 rfl) ?_
          refine r_cp B hC (i := 155) (by decide) q0G_F23 tyX5 tyX5_ok nmX5 (C := RX5) (T := TX5) rfl iwX5_fewestMoves_X5 4 (by decide) (index := 15) flX5_fewestMoves_15 rfl rfl (v := .int (nI 0)) (rfl) (rfl) (Nat.le_of_ble_eq_true rfl) dX5_fewestMoves_67 ?_
          intro H locs hC
          obtain ⟨F24, eF24⟩ : ∃ f : Nat → va_E, f = va_up F23 (155) (.inr (5, [.ref (ad (3)), .ref (ad (13)), .ref (ad (157)), .ref (ad (156)), .int (nI 0)])) := ⟨_, rfl⟩
          have hC : Cu g lo 196 ad F24 ss ss.heap H locs := by rw [eF24]; exact hC
          have k155_F24 : F24 155 = .inr (5, [.ref (ad (3)), .ref (ad (13)), .ref (ad (157)), .ref (ad (156)), .int (nI 0)]) := by rw [eF24]; exact va_up_self _ _ _
          have g0G_F24 : F24 3 = .inr (2, [.ref (ad (4)), .ref (ad (5)), .ref (ad (6)), .ref (ad (7)), .int (nI (hn h)), .int (nI (hpu h)), .int (nI (hho h))]) := by rw [eF24, va_up_ne _ _ (by decide)]; exact g0G_F23
          have q1G_F24 : F24 156 = .inl (g.2.2 0, 2, .inl (fo)) := by rw [eF24, va_up_ne _ _ (by decide)]; exact q1G_F23
          have r0_F24 : F24 157 = .inr (4, [.ref (ad (3)), .ref (ad (158)), .ref (ad (159)), .int (nI (rmv v1)), .int (bI (rbg v1))]) := by rw [eF24, va_up_ne _ _ (by decide)]; exact r0_F23
          refine lv_aload_n B.1 B.2.1 dX5_fewestMoves_70 rfl (lv_at hl 2 rfl) ?_
          refine r_cg B hC (i := 155) (by decide) k155_F24 (C := RX5) (T := TX5) (n := 5) rfl iwX5_fewestMoves_X5 2 (by decide) (index := 32) flX5_fewestMoves_32 rfl (v := .ref (ad (157))) rfl dX5_fewestMoves_71 ?_
          refine lv_aload_n B.1 B.2.1 dX5_fewestMoves_74 rfl (lv_at hl 2 rfl) ?_
          refine r_cg B hC (i := 155) (by decide) k155_F24 (C := RX5) (T := TX5) (n := 5) rfl iwX5_fewestMoves_X5 3 (by decide) (index := 9) flX5_fewestMoves_9 rfl (v := .ref (ad (156))) rfl dX5_fewestMoves_75 ?_
          refine r_callv B hC hl.1 (157) 4 rfl rfl (by decide) r0_F24 (As := [.ref (ad (156))]) (ctX4_copyTo l g lo ad (RowsC.keep hR_F21 (fun i h1 h2 => by rw [eF24, va_up_ne _ _ (by omega)]; rw [hs_F23 i (by omega)]; rw [hs_F22 i (by omega)])) (by omega) (fo := fo) q1G_F24) gX5_fewestMoves_X4_copyTo rfl (n := 1) rfl (by decide +kernel) ⟨Nat.le_of_ble_eq_true rfl, Nat.le_of_ble_eq_true rfl⟩ ⟨Nat.zero_le _, Nat.zero_le _⟩ rfl (Nat.le_of_ble_eq_true rfl) dX5_fewestMoves_78 (fun F25 H locs hp78 hC => ?_)
          obtain ⟨q1_F25, hs_F25⟩ := hp78
          have g0G_F25 : F25 3 = .inr (2, [.ref (ad (4)), .ref (ad (5)), .ref (ad (6)), .ref (ad (7)), .int (nI (hn h)), .int (nI (hpu h)), .int (nI (hho h))]) := (hs_F25 _ (by omega)).trans g0G_F24
          have k155_F25 : F25 155 = .inr (5, [.ref (ad (3)), .ref (ad (13)), .ref (ad (157)), .ref (ad (156)), .int (nI 0)]) := (hs_F25 _ (by omega)).trans k155_F24
          have r0_F25 : F25 157 = .inr (4, [.ref (ad (3)), .ref (ad (158)), .ref (ad (159)), .int (nI (rmv v1)), .int (bI (rbg v1))]) := (hs_F25 _ (by omega)).trans r0_F24
          refine lv_iload_n B.1 B.2.1 dX5_fewestMoves_81 rfl (lv_at hl 1 rfl) ?_
          exact r_eI B hC (v := nI 0) (by
      have hpv : portV h w n = some e1 := by
        have hpM : portF h w n (rowsV h w 0) = some e1 := by rw [← he, hrem, portF, if_pos (by omega)]
        simp only [portV, hpM]
      rw [hpv]
      exact ⟨(va_cpy (fun j => y1 (rro v1 j)) fo 0 0 (rmv v1)), v1, w2, by show nI 0 = oI (some e1.length); rw [hCu.1, hmv1, hmu]; rfl, ⟨by show _ = _; rw [show (Option.getD (some e1) []).length = 0 from hCu.1.trans (hmv1.trans hmu)]; exact k155_F25, q1_F25⟩, (show Fnd _ (e1.length) e1 from hCu.1.symm ▸ Fnd_of hCu hm2), (RowsC.keep hR_F21 (fun i h1 h2 => by rw [hs_F25 i (by omega)]; rw [eF24, va_up_ne _ _ (by omega)]; rw [hs_F23 i (by omega)]; rw [hs_F22 i (by omega)])), ok_F21, (hT2.at (fun i h1 h2 => by rw [hs_F25 i (by omega)]; rw [eF24, va_up_ne _ _ (by omega)])), hc2, (fun i hi hj => by rw [hs_F25 i (by omega)]; rw [eF24, va_up_ne _ _ (by omega)]; rw [hs_F23 i (by omega)]; rw [hs_F22 i (by omega)]; rw [hs_F21 i (by omega)]; rw [hs i (by omega) (by omega)])⟩) dX5_fewestMoves_82
  exact loop0 10001 0 (rowsV h w 0) (0, false, rro v, va_up (rst v) 0 w) wt F1 (Nat.lt_succ_of_le (rowsV_len h w 0)) (by decide) hR_F1 hI_F1 rfl (hT.at (fun i h1 h2 => by rw [hs_F1 i (by omega)])) hct rfl (fun i hi hj => by rw [hs_F1 i (by omega)]) ⟨by rw [hs_F1 _ (by omega)], by rw [hs_F1 _ (by omega)]⟩ _ _ ls hC (lv_sub hl [0, 1, 2, 3, 4] rfl)
