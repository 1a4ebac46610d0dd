/-! ROWS: begin, end, copyTo, next -/
theorem max0_nI {c : Nat} (hc : c < 2 ^ 30) : (if nI 0 < nI c then nI c else nI 0) = nI c := by
  by_cases h : 0 < c
  · rw [if_pos (nI_lt h (by omega))]
  · rw [if_neg (nI_nlt (by omega) (by omega)), show c = 0 by omega]
theorem iwX4_begin_X4 : ∀ w ∈ u_ws RX4 TX4 5, w ∈ wsX4_begin := by decide +kernel
theorem flX4_begin_11 : Cond.fieldLink RX4 11 RX4 (TX4 1).2.1 (TX4 1).2.2.1 ∈ wsX4_begin := by decide +kernel
theorem flX4_begin_21 : Cond.fieldLink RX4 21 RX4 (TX4 3).2.1 (TX4 3).2.2.1 ∈ wsX4_begin := by decide +kernel
theorem flX4_begin_25 : Cond.fieldLink RX4 25 RX4 (TX4 4).2.1 (TX4 4).2.2.1 ∈ wsX4_begin := by decide +kernel
theorem mwX4_begin_38_0 : Cond.methodLink RX4 38 Lib.Math.min.name ∈ wsX4_begin := by decide +kernel
theorem mwX4_begin_38_1 : Cond.static Lib.Math.min.name ∈ wsX4_begin := by decide +kernel
theorem mwX4_begin_38_2 : Cond.initialized "java/lang/Math" ∈ wsX4_begin := by decide +kernel
theorem mwX4_begin_38_3 : Cond.code Lib.Math.min.name Lib.Math.min.code 2 (some .int) ∈ wsX4_begin := by decide +kernel
theorem mwX4_begin_44_0 : Cond.methodLink RX4 44 Lib.Math.max.name ∈ wsX4_begin := by decide +kernel
theorem mwX4_begin_44_1 : Cond.static Lib.Math.max.name ∈ wsX4_begin := by decide +kernel
theorem mwX4_begin_44_2 : Cond.initialized "java/lang/Math" ∈ wsX4_begin := by decide +kernel
theorem mwX4_begin_44_3 : Cond.code Lib.Math.max.name Lib.Math.max.code 2 (some .int) ∈ wsX4_begin := by decide +kernel
set_option maxHeartbeats 4000000 in
set_option maxRecDepth 100000 in
theorem ctX4_begin (l : Launch) (g : Gx) (lo : Nat) (ad : Nat → Nat) {F : Nat → va_E} {v : RV} (hR : RowsC g ad F v) (okR : ROK v) {w : LV} (hL : LoadC g ad F 8 w) (hc : CAN w) {e : Nat} (he : e ≤ 2) : MV l g lo 196 ad yX4_begin wsX4_begin 2 61 [.ref (ad (157)), .ref (ad (8)), .int (nI e)] F (fun F' => RowsC g ad F' (e, false, rro v, va_up (rst v) 0 w) ∧ Same 157 175 F F') := by
  obtain ⟨r0, r1, r2, rL⟩ := id hR
  refine enter (cc := cX4_begin) (maxL := 3) (ret := none) (own := RX4) (by decide +kernel) rfl rfl (Nat.le_of_ble_eq_true rfl) ?_
  intro pp ee ss mm below meth cc B hini hC ls hl
  have hl : lv_has ls 3 [(0, .ref (ad (157))), (1, .ref (ad (8))), (2, .int (nI e))] := hl
  refine lv_aload_n B.1 B.2.1 dX4_begin_0 rfl (lv_at hl 0 rfl) ?_
  refine r_cg B hC (i := 157) (by decide) r0 (C := RX4) (T := TX4) (n := 5) rfl iwX4_begin_X4 1 (by decide) (index := 11) flX4_begin_11 rfl (v := .ref (ad (158))) rfl dX4_begin_1 ?_
  refine lv_iconst (v := nI 0) B.1 B.2.1 dX4_begin_4 (by decide) ?_
  refine r_cqald B hC (i := 158) (by decide) r1 (j := 0) (by omega) (by decide) (t := ad (160 + 5 * 0)) (rfl) dX4_begin_5 ?_
  refine lv_aload_n B.1 B.2.1 dX4_begin_6 rfl (lv_at hl 1 rfl) ?_
  have rLb : LoadC g ad F (160 + 5 * 0) (rst v 0) := rL 0 (by omega)
  obtain ⟨m0, m1, m2, m3, m4⟩ := id rLb
  refine r_callv B hC hl.1 (160 + 5 * 0) 3 rfl rfl (by omega) m0 (As := [.ref (ad (8))]) (ctX3_copyFrom l g lo ad (b := 160 + 5 * 0) (by omega) rLb (b2 := 8) (by omega) (by omega) hL (okR 0 (by omega)) hc) gX4_begin_X3_copyFrom rfl (n := 1) rfl (by decide +kernel) ⟨Nat.le_of_ble_eq_true rfl, Nat.le_of_ble_eq_true rfl⟩ ⟨Nat.zero_le _, Nat.zero_le _⟩ rfl (Nat.le_of_ble_eq_true rfl) dX4_begin_7 (fun F1 H locs hp7 hC => ?_)
  obtain ⟨hLj, hs_F1⟩ := hp7
  have r0_F1 : F1 157 = .inr (4, [.ref (ad (3)), .ref (ad (158)), .ref (ad (159)), .int (nI (rmv v)), .int (bI (rbg v))]) := (hs_F1 _ (by omega)).trans r0
  have r1_F1 : F1 158 = .inl (g.2.2 4, 3, .inr (.inr (.inr (.inr (fun k => some (ad (160 + 5 * k))))))) := (hs_F1 _ (by omega)).trans r1
  have r2_F1 : F1 159 = .inl (g.2.2 0, 2, .inl (fun j => y1 (rro v j))) := (hs_F1 _ (by omega)).trans r2
  refine lv_aload_n B.1 B.2.1 dX4_begin_10 rfl (lv_at hl 0 rfl) ?_
  refine lv_iconst (v := nI 0) B.1 B.2.1 dX4_begin_11 (by decide) ?_
  refine lv_iload_n B.1 B.2.1 dX4_begin_12 rfl (lv_at hl 2 rfl) ?_
  refine lv_iconst (v := nI 2) B.1 B.2.1 dX4_begin_13 (by decide) ?_
  refine r_min B hl.1 mwX4_begin_38_0 mwX4_begin_38_1 mwX4_begin_38_2 mwX4_begin_38_3 (Nat.le_of_ble_eq_true rfl) (Nat.le_of_ble_eq_true rfl) (Nat.zero_le _) (Nat.zero_le _) dX4_begin_14 ?_
  refine r_tI (y := nI (min e 2)) (min_nI (by omega) (by omega)) ?_
  refine r_max B hl.1 mwX4_begin_44_0 mwX4_begin_44_1 mwX4_begin_44_2 mwX4_begin_44_3 (Nat.le_of_ble_eq_true rfl) (Nat.le_of_ble_eq_true rfl) (Nat.zero_le _) (Nat.zero_le _) dX4_begin_17 ?_
  refine r_tI (y := nI (min e 2)) (max0_nI (by omega)) ?_
  refine r_cp B hC (i := 157) (by decide) r0_F1 tyX4 tyX4_ok nmX4 (C := RX4) (T := TX4) rfl iwX4_begin_X4 3 (by decide) (index := 21) flX4_begin_21 rfl rfl (v := .int (nI (min e 2))) (rfl) (rfl) (Nat.le_of_ble_eq_true rfl) dX4_begin_20 ?_
  intro H locs hC
  obtain ⟨F2, eF2⟩ : ∃ f : Nat → va_E, f = va_up F1 (157) (.inr (4, [.ref (ad (3)), .ref (ad (158)), .ref (ad (159)), .int (nI (min e 2)), .int (bI (rbg v))])) := ⟨_, rfl⟩
  have hC : Cu g lo 196 ad F2 ss ss.heap H locs := by rw [eF2]; exact hC
  have k157_F2 : F2 157 = .inr (4, [.ref (ad (3)), .ref (ad (158)), .ref (ad (159)), .int (nI (min e 2)), .int (bI (rbg v))]) := by rw [eF2]; exact va_up_self _ _ _
  have r1_F2 : F2 158 = .inl (g.2.2 4, 3, .inr (.inr (.inr (.inr (fun k => some (ad (160 + 5 * k))))))) := by rw [eF2, va_up_ne _ _ (by decide)]; exact r1_F1
  have r2_F2 : F2 159 = .inl (g.2.2 0, 2, .inl (fun j => y1 (rro v j))) := by rw [eF2, va_up_ne _ _ (by decide)]; exact r2_F1
  refine lv_aload_n B.1 B.2.1 dX4_begin_23 rfl (lv_at hl 0 rfl) ?_
  refine lv_iconst (v := nI 0) B.1 B.2.1 dX4_begin_24 (by decide) ?_
  refine r_tI (y := bI false) (by decide) ?_
  refine r_cp B hC (i := 157) (by decide) k157_F2 tyX4 tyX4_ok nmX4 (C := RX4) (T := TX4) rfl iwX4_begin_X4 4 (by decide) (index := 25) flX4_begin_25 rfl rfl (v := .int (bI false)) (nar_b _) (fit_b _) (Nat.le_of_ble_eq_true rfl) dX4_begin_25 ?_
  intro H locs hC
  obtain ⟨F3, eF3⟩ : ∃ f : Nat → va_E, f = va_up F2 (157) (.inr (4, [.ref (ad (3)), .ref (ad (158)), .ref (ad (159)), .int (nI (min e 2)), .int (bI false)])) := ⟨_, rfl⟩
  have hC : Cu g lo 196 ad F3 ss ss.heap H locs := by rw [eF3]; exact hC
  have k157_F3 : F3 157 = .inr (4, [.ref (ad (3)), .ref (ad (158)), .ref (ad (159)), .int (nI (min e 2)), .int (bI false)]) := by rw [eF3]; exact va_up_self _ _ _
  have r1_F3 : F3 158 = .inl (g.2.2 4, 3, .inr (.inr (.inr (.inr (fun k => some (ad (160 + 5 * k))))))) := by rw [eF3, va_up_ne _ _ (by decide)]; exact r1_F2
  have r2_F3 : F3 159 = .inl (g.2.2 0, 2, .inl (fun j => y1 (rro v j))) := by rw [eF3, va_up_ne _ _ (by decide)]; exact r2_F2
  exact r_eV B hC (⟨by rw [show (e, false, rro v, va_up (rst v) 0 w) = (min e 2, false, rro v, va_up (rst v) 0 w) by rw [Nat.min_eq_left he]]; exact ⟨k157_F3, r1_F3, r2_F3, steps_upd (j := 0) rL (hLj.at (fun i h1 h2 => by rw [eF3, va_up_ne _ _ (by omega)]; rw [eF2, va_up_ne _ _ (by omega)])) (fun i h1 h2 h3 => by rw [eF3, va_up_ne _ _ (by omega)]; rw [eF2, va_up_ne _ _ (by omega)]; rw [hs_F1 i (by omega)])⟩, fun i h1 => by rw [eF3, va_up_ne _ _ (by omega)]; rw [eF2, va_up_ne _ _ (by omega)]; rw [hs_F1 i (by omega)]⟩) dX4_begin_28
theorem iwX4_end_X4 : ∀ w ∈ u_ws RX4 TX4 5, w ∈ wsX4_end := by decide +kernel
theorem flX4_end_11 : Cond.fieldLink RX4 11 RX4 (TX4 1).2.1 (TX4 1).2.2.1 ∈ wsX4_end := by decide +kernel
theorem flX4_end_21 : Cond.fieldLink RX4 21 RX4 (TX4 3).2.1 (TX4 3).2.2.1 ∈ wsX4_end := by decide +kernel
set_option maxHeartbeats 4000000 in
set_option maxRecDepth 100000 in
theorem ctX4_end (l : Launch) (g : Gx) (lo : Nat) (ad : Nat → Nat) {F : Nat → va_E} {v : RV} (hR : RowsC g ad F v) (hm : rmv v ≤ 2) : MR l g lo 196 ad yX4_end wsX4_end 0 0 [.ref (ad (157))] F (160 + 5 * rmv v) := by
  obtain ⟨r0, r1, r2, rL⟩ := id hR
  refine enter (cc := cX4_end) (maxL := 1) (ret := some (.object "ShipFromItself$Load")) (own := RX4) (by decide +kernel) rfl rfl (Nat.le_of_ble_eq_true rfl) ?_
  intro pp ee ss mm below meth cc B hini hC ls hl
  have hl : lv_has ls 1 [(0, .ref (ad (157)))] := hl
  refine lv_aload_n B.1 B.2.1 dX4_end_0 rfl (lv_at hl 0 rfl) ?_
  refine r_cg B hC (i := 157) (by decide) r0 (C := RX4) (T := TX4) (n := 5) rfl iwX4_end_X4 3 (by decide) (index := 21) flX4_end_21 rfl (v := .int (nI (rmv v))) rfl dX4_end_1 ?_
  refine lv_if_lt (tgt := 31) B.1 B.2.1 dX4_end_4 (by decide) (fun z => absurd z (nI_pos (by omega))) (fun _ => ?_)
  refine lv_aload_n B.1 B.2.1 dX4_end_7 rfl (lv_at hl 0 rfl) ?_
  refine r_cg B hC (i := 157) (by decide) r0 (C := RX4) (T := TX4) (n := 5) rfl iwX4_end_X4 3 (by decide) (index := 21) flX4_end_21 rfl (v := .int (nI (rmv v))) rfl dX4_end_8 ?_
  refine lv_aload_n B.1 B.2.1 dX4_end_11 rfl (lv_at hl 0 rfl) ?_
  refine r_cg B hC (i := 157) (by decide) r0 (C := RX4) (T := TX4) (n := 5) rfl iwX4_end_X4 1 (by decide) (index := 11) flX4_end_11 rfl (v := .ref (ad (158))) rfl dX4_end_12 ?_
  refine r_calen B hC (i := 158) (by decide) r1 4 rfl (n := 3) rfl dX4_end_15 ?_
  refine lv_icmp_ge (tgt := 31) B.1 B.2.1 dX4_end_16 (by decide) (fun z => absurd z (nI_ge (by omega) (by omega))) (fun _ => ?_)
  refine lv_aload_n B.1 B.2.1 dX4_end_19 rfl (lv_at hl 0 rfl) ?_
  refine r_cg B hC (i := 157) (by decide) r0 (C := RX4) (T := TX4) (n := 5) rfl iwX4_end_X4 1 (by decide) (index := 11) flX4_end_11 rfl (v := .ref (ad (158))) rfl dX4_end_20 ?_
  refine lv_aload_n B.1 B.2.1 dX4_end_23 rfl (lv_at hl 0 rfl) ?_
  refine r_cg B hC (i := 157) (by decide) r0 (C := RX4) (T := TX4) (n := 5) rfl iwX4_end_X4 3 (by decide) (index := 21) flX4_end_21 rfl (v := .int (nI (rmv v))) rfl dX4_end_24 ?_
  refine r_cqald B hC (i := 158) (by decide) r1 (j := (rmv v)) (by omega) (by decide) (t := ad (160 + 5 * (rmv v))) (rfl) dX4_end_27 ?_
  refine lv_goto (tgt := 37) B.1 B.2.1 dX4_end_28 (by decide) ?_
  exact r_eR B hC (Or.inl ⟨_, rfl⟩) (i := 160 + 5 * (rmv v)) dX4_end_37
theorem iwX4_copyTo_X4 : ∀ w ∈ u_ws RX4 TX4 5, w ∈ wsX4_copyTo := by decide +kernel
theorem flX4_copyTo_17 : Cond.fieldLink RX4 17 RX4 (TX4 2).2.1 (TX4 2).2.2.1 ∈ wsX4_copyTo := by decide +kernel
theorem flX4_copyTo_21 : Cond.fieldLink RX4 21 RX4 (TX4 3).2.1 (TX4 3).2.2.1 ∈ wsX4_copyTo := by decide +kernel
theorem mwX4_copyTo_38_0 : Cond.methodLink RX4 38 Lib.Math.min.name ∈ wsX4_copyTo := by decide +kernel
theorem mwX4_copyTo_38_1 : Cond.static Lib.Math.min.name ∈ wsX4_copyTo := by decide +kernel
theorem mwX4_copyTo_38_2 : Cond.initialized "java/lang/Math" ∈ wsX4_copyTo := by decide +kernel
theorem mwX4_copyTo_38_3 : Cond.code Lib.Math.min.name Lib.Math.min.code 2 (some .int) ∈ wsX4_copyTo := by decide +kernel
theorem cwX4_copyTo_47_0 : Cond.methodLink RX4 47 arraycopyName ∈ wsX4_copyTo := by decide +kernel
theorem cwX4_copyTo_47_1 : Cond.native arraycopyName ∈ wsX4_copyTo := by decide +kernel
theorem cwX4_copyTo_47_2 : Cond.static arraycopyName ∈ wsX4_copyTo := by decide +kernel
theorem cwX4_copyTo_47_3 : Cond.initialized "java/lang/System" ∈ wsX4_copyTo := by decide +kernel
set_option maxHeartbeats 4000000 in
set_option maxRecDepth 100000 in
theorem ctX4_copyTo (l : Launch) (g : Gx) (lo : Nat) (ad : Nat → Nat) {F : Nat → va_E} {v : RV} (hR : RowsC g ad F v) (hm : rmv v ≤ 2) {fo : Nat → Int32} (f0 : F 156 = .inl (g.2.2 0, 2, .inl fo)) : MV l g lo 196 ad yX4_copyTo wsX4_copyTo 1 40 [.ref (ad (157)), .ref (ad (156))] F (fun F' => F' 156 = .inl (g.2.2 0, 2, .inl (va_cpy (fun j => y1 (rro v j)) fo 0 0 (rmv v))) ∧ Same 156 157 F F') := by
  obtain ⟨r0, r1, r2, rL⟩ := id hR
  refine enter (cc := cX4_copyTo) (maxL := 2) (ret := none) (own := RX4) (by decide +kernel) rfl rfl (Nat.le_of_ble_eq_true rfl) ?_
  intro pp ee ss mm below meth cc B hini hC ls hl
  have hl : lv_has ls 2 [(0, .ref (ad (157))), (1, .ref (ad (156)))] := hl
  refine lv_aload_n B.1 B.2.1 dX4_copyTo_0 rfl (lv_at hl 0 rfl) ?_
  refine r_cg B hC (i := 157) (by decide) r0 (C := RX4) (T := TX4) (n := 5) rfl iwX4_copyTo_X4 2 (by decide) (index := 17) flX4_copyTo_17 rfl (v := .ref (ad (159))) rfl dX4_copyTo_1 ?_
  refine lv_iconst (v := nI 0) B.1 B.2.1 dX4_copyTo_4 (by decide) ?_
  refine lv_aload_n B.1 B.2.1 dX4_copyTo_5 rfl (lv_at hl 1 rfl) ?_
  refine lv_iconst (v := nI 0) B.1 B.2.1 dX4_copyTo_6 (by decide) ?_
  refine lv_aload_n B.1 B.2.1 dX4_copyTo_7 rfl (lv_at hl 0 rfl) ?_
  refine r_cg B hC (i := 157) (by decide) r0 (C := RX4) (T := TX4) (n := 5) rfl iwX4_copyTo_X4 3 (by decide) (index := 21) flX4_copyTo_21 rfl (v := .int (nI (rmv v))) rfl dX4_copyTo_8 ?_
  refine lv_aload_n B.1 B.2.1 dX4_copyTo_11 rfl (lv_at hl 1 rfl) ?_
  refine r_calen B hC (i := 156) (by decide) f0 0 rfl (n := 2) rfl dX4_copyTo_12 ?_
  refine r_min B hl.1 mwX4_copyTo_38_0 mwX4_copyTo_38_1 mwX4_copyTo_38_2 mwX4_copyTo_38_3 (Nat.le_of_ble_eq_true rfl) (Nat.le_of_ble_eq_true rfl) (Nat.zero_le _) (Nat.zero_le _) dX4_copyTo_13 ?_
  refine r_tI (y := nI (min (rmv v) 2)) (min_nI (by omega) (by omega)) ?_
  refine r_copyi B hC hl.1 (i := 159) (j := 156) (by decide) (by decide) r2 f0 (k := min (rmv v) 2) (by omega) (by omega) (by omega) cwX4_copyTo_47_0 cwX4_copyTo_47_1 cwX4_copyTo_47_2 cwX4_copyTo_47_3 (Nat.le_of_ble_eq_true rfl) (by decide) dX4_copyTo_16 ?_
  intro H locs hC
  obtain ⟨F1, eF1⟩ : ∃ f : Nat → va_E, f = va_up F (156) (.inl (g.2.2 0, 2, .inl (va_cpy (fun j => y1 (rro v j)) fo 0 0 (min (rmv v) 2)))) := ⟨_, rfl⟩
  have hC : Cu g lo 196 ad F1 ss ss.heap H locs := by rw [eF1]; exact hC
  have k156_F1 : F1 156 = .inl (g.2.2 0, 2, .inl (va_cpy (fun j => y1 (rro v j)) fo 0 0 (min (rmv v) 2))) := by rw [eF1]; exact va_up_self _ _ _
  have r0_F1 : F1 157 = .inr (4, [.ref (ad (3)), .ref (ad (158)), .ref (ad (159)), .int (nI (rmv v)), .int (bI (rbg v))]) := by rw [eF1, va_up_ne _ _ (by decide)]; exact r0
  have r1_F1 : F1 158 = .inl (g.2.2 4, 3, .inr (.inr (.inr (.inr (fun k => some (ad (160 + 5 * k))))))) := by rw [eF1, va_up_ne _ _ (by decide)]; exact r1
  have r2_F1 : F1 159 = .inl (g.2.2 0, 2, .inl (fun j => y1 (rro v j))) := by rw [eF1, va_up_ne _ _ (by decide)]; exact r2
  exact r_eV B hC (⟨(show min (rmv v) 2 = rmv v by omega) ▸ k156_F1, (by rw [eF1]; exact Same.up Same.rf (by omega) (by omega))⟩) dX4_copyTo_19
theorem iwX4_next_X4 : ∀ w ∈ u_ws RX4 TX4 5, w ∈ wsX4_next := by decide +kernel
theorem flX4_next_21 : Cond.fieldLink RX4 21 RX4 (TX4 3).2.1 (TX4 3).2.2.1 ∈ wsX4_next := by decide +kernel
theorem flX4_next_25 : Cond.fieldLink RX4 25 RX4 (TX4 4).2.1 (TX4 4).2.2.1 ∈ wsX4_next := by decide +kernel
set_option maxHeartbeats 4000000 in
set_option maxRecDepth 100000 in
theorem ctX4_next0f (l : Launch) (g : Gx) (lo : Nat) (ad : Nat → Nat) {F : Nat → va_E} {h : HV} (hH : HullC g ad F h) (ok : HOK h) {ro : Nat → Option Nat} {st : Nat → LV} (hR : RowsC g ad F (0, false, ro, st)) (okR : ROK (0, false, ro, st)) (hw : LOK h (st 0)) {rem : List (List Nat)} (hrem : rem = [[]]) : MI l g lo 196 ad yX4_next wsX4_next 4 93 [.ref (ad (157))] F (fun r F' => Same 157 175 F F' ∧ ((r = bI false ∧ rem = [] ∧ ∃ v', RowsC g ad F' v' ∧ ROK v' ∧ rmv v' = 0 ∧ rst v' 0 = st 0) ∨ ∃ e es v', r = bI true ∧ rem = e :: es ∧ RowsC g ad F' v' ∧ RIt h (st 0) v' es ∧ Cur h (st 0) v' e ∧ rmv v' = 0)) := by
  obtain ⟨g0, g1, g2, g3, g4⟩ := id hH
  obtain ⟨r0, r1, r2, rL⟩ := id hR
  refine enter (cc := cX4_next) (maxL := 4) (ret := some .boolean) (own := RX4) (by decide +kernel) rfl rfl (Nat.le_of_ble_eq_true rfl) ?_
  intro pp ee ss mm below meth cc B hini hC ls hl
  have hl : lv_has ls 4 [(0, .ref (ad (157)))] := hl
  refine lv_aload_n B.1 B.2.1 dX4_next_0 rfl (lv_at hl 0 rfl) ?_
  refine r_cg B hC (i := 157) (by decide) r0 (C := RX4) (T := TX4) (n := 5) rfl iwX4_next_X4 4 (by decide) (index := 25) flX4_next_25 rfl (v := .int (bI false)) rfl dX4_next_1 ?_
  refine lv_if_ne (tgt := 11) B.1 B.2.1 dX4_next_4 (by decide) (fun z => absurd (by decide) z) (fun _ => ?_)
  refine lv_iconst (v := nI 1) B.1 B.2.1 dX4_next_7 (by decide) ?_
  refine lv_goto (tgt := 12) B.1 B.2.1 dX4_next_8 (by decide) ?_
  refine lv_istore_n (lv' := [(1, .int (nI 1)), (0, .ref (ad (157)))]) B.1 B.2.1 dX4_next_12 rfl hl (by decide) rfl (fun ls hl => ?_)
  refine lv_aload_n B.1 B.2.1 dX4_next_13 rfl (lv_at hl 1 rfl) ?_
  refine lv_iconst (v := nI 1) B.1 B.2.1 dX4_next_14 (by decide) ?_
  refine r_tI (y := bI true) (by decide) ?_
  refine r_cp B hC (i := 157) (by decide) r0 tyX4 tyX4_ok nmX4 (C := RX4) (T := TX4) rfl iwX4_next_X4 4 (by decide) (index := 25) flX4_next_25 rfl rfl (v := .int (bI true)) (nar_b _) (fit_b _) (Nat.le_of_ble_eq_true rfl) dX4_next_15 ?_
  intro H locs hC
  obtain ⟨F1, eF1⟩ : ∃ f : Nat → va_E, f = va_up F (157) (.inr (4, [.ref (ad (3)), .ref (ad (158)), .ref (ad (159)), .int (nI 0), .int (bI true)])) := ⟨_, rfl⟩
  have hC : Cu g lo 196 ad F1 ss ss.heap H locs := by rw [eF1]; exact hC
  have k157_F1 : F1 157 = .inr (4, [.ref (ad (3)), .ref (ad (158)), .ref (ad (159)), .int (nI 0), .int (bI true)]) := by rw [eF1]; exact va_up_self _ _ _
  have r1_F1 : F1 158 = .inl (g.2.2 4, 3, .inr (.inr (.inr (.inr (fun k => some (ad (160 + 5 * k))))))) := by rw [eF1, va_up_ne _ _ (by decide)]; exact r1
  have r2_F1 : F1 159 = .inl (g.2.2 0, 2, .inl (fun j => y1 (ro j))) := by rw [eF1, va_up_ne _ _ (by decide)]; exact r2
  have g0_F1 : F1 3 = .inr (2, [.ref (ad (4)), .ref (ad (5)), .ref (ad (6)), .ref (ad (7)), .int (nI (hn h)), .int (nI (hpu h)), .int (nI (hho h))]) := by rw [eF1, va_up_ne _ _ (by decide)]; exact g0
  refine lv_aload_n B.1 B.2.1 dX4_next_18 rfl (lv_at hl 1 rfl) ?_
  refine r_cg B hC (i := 157) (by decide) k157_F1 (C := RX4) (T := TX4) (n := 5) rfl iwX4_next_X4 3 (by decide) (index := 21) flX4_next_21 rfl (v := .int (nI 0)) rfl dX4_next_19 ?_
  refine lv_if_ne (tgt := 27) B.1 B.2.1 dX4_next_22 (by decide) (fun z => absurd (nI_eq0 (by omega)) z) (fun _ => ?_)
  refine lv_iload_n B.1 B.2.1 dX4_next_25 rfl (lv_at hl 0 rfl) ?_
  exact r_eZ B hC (v := nI 1) (rfl) (⟨fun i hi => by rw [eF1, va_up_ne _ _ (by omega)], Or.inr ⟨[], [], (0, true, ro, st), by decide, hrem, (show RowsC g ad F1 (0, true, ro, st) from ⟨k157_F1, r1_F1, r2_F1, fun k hk => (rL k hk).at (fun i h1 h2 => by rw [eF1, va_up_ne _ _ (by omega)])⟩), ⟨hw, rfl, okR, Nat.zero_le _, Or.inr ⟨rfl, Or.inl ⟨rfl, rfl⟩⟩⟩, ⟨rfl, fun j hj => absurd hj (Nat.not_lt_zero _), rfl, hw, fun x hx => by cases hx⟩, rfl⟩⟩) dX4_next_26
set_option maxHeartbeats 4000000 in
set_option maxRecDepth 100000 in
theorem ctX4_next0t (l : Launch) (g : Gx) (lo : Nat) (ad : Nat → Nat) {F : Nat → va_E} {h : HV} (hH : HullC g ad F h) (ok : HOK h) {ro : Nat → Option Nat} {st : Nat → LV} (hR : RowsC g ad F (0, true, ro, st)) (okR : ROK (0, true, ro, st)) (hw : LOK h (st 0)) {rem : List (List Nat)} (hrem : rem = []) : MI l g lo 196 ad yX4_next wsX4_next 4 93 [.ref (ad (157))] F (fun r F' => Same 157 175 F F' ∧ ((r = bI false ∧ rem = [] ∧ ∃ v', RowsC g ad F' v' ∧ ROK v' ∧ rmv v' = 0 ∧ rst v' 0 = st 0) ∨ ∃ e es v', r = bI true ∧ rem = e :: es ∧ RowsC g ad F' v' ∧ RIt h (st 0) v' es ∧ Cur h (st 0) v' e ∧ rmv v' = 0)) := by
  obtain ⟨g0, g1, g2, g3, g4⟩ := id hH
  obtain ⟨r0, r1, r2, rL⟩ := id hR
  refine enter (cc := cX4_next) (maxL := 4) (ret := some .boolean) (own := RX4) (by decide +kernel) rfl rfl (Nat.le_of_ble_eq_true rfl) ?_
  intro pp ee ss mm below meth cc B hini hC ls hl
  have hl : lv_has ls 4 [(0, .ref (ad (157)))] := hl
  refine lv_aload_n B.1 B.2.1 dX4_next_0 rfl (lv_at hl 0 rfl) ?_
  refine r_cg B hC (i := 157) (by decide) r0 (C := RX4) (T := TX4) (n := 5) rfl iwX4_next_X4 4 (by decide) (index := 25) flX4_next_25 rfl (v := .int (bI true)) rfl dX4_next_1 ?_
  refine lv_if_ne (tgt := 11) B.1 B.2.1 dX4_next_4 (by decide) (fun _ => ?_) (fun z => absurd z (by decide))
  refine lv_iconst (v := nI 0) B.1 B.2.1 dX4_next_11 (by decide) ?_
  refine lv_istore_n (lv' := [(1, .int (nI 0)), (0, .ref (ad (157)))]) B.1 B.2.1 dX4_next_12 rfl hl (by decide) rfl (fun ls hl => ?_)
  refine lv_aload_n B.1 B.2.1 dX4_next_13 rfl (lv_at hl 1 rfl) ?_
  refine lv_iconst (v := nI 1) B.1 B.2.1 dX4_next_14 (by decide) ?_
  refine r_tI (y := bI true) (by decide) ?_
  refine r_cp B hC (i := 157) (by decide) r0 tyX4 tyX4_ok nmX4 (C := RX4) (T := TX4) rfl iwX4_next_X4 4 (by decide) (index := 25) flX4_next_25 rfl rfl (v := .int (bI true)) (nar_b _) (fit_b _) (Nat.le_of_ble_eq_true rfl) dX4_next_15 ?_
  intro H locs hC
  obtain ⟨F1, eF1⟩ : ∃ f : Nat → va_E, f = va_up F (157) (.inr (4, [.ref (ad (3)), .ref (ad (158)), .ref (ad (159)), .int (nI 0), .int (bI true)])) := ⟨_, rfl⟩
  have hC : Cu g lo 196 ad F1 ss ss.heap H locs := by rw [eF1]; exact hC
  have k157_F1 : F1 157 = .inr (4, [.ref (ad (3)), .ref (ad (158)), .ref (ad (159)), .int (nI 0), .int (bI true)]) := by rw [eF1]; exact va_up_self _ _ _
  have r1_F1 : F1 158 = .inl (g.2.2 4, 3, .inr (.inr (.inr (.inr (fun k => some (ad (160 + 5 * k))))))) := by rw [eF1, va_up_ne _ _ (by decide)]; exact r1
  have r2_F1 : F1 159 = .inl (g.2.2 0, 2, .inl (fun j => y1 (ro j))) := by rw [eF1, va_up_ne _ _ (by decide)]; exact r2
  have g0_F1 : F1 3 = .inr (2, [.ref (ad (4)), .ref (ad (5)), .ref (ad (6)), .ref (ad (7)), .int (nI (hn h)), .int (nI (hpu h)), .int (nI (hho h))]) := by rw [eF1, va_up_ne _ _ (by decide)]; exact g0
  refine lv_aload_n B.1 B.2.1 dX4_next_18 rfl (lv_at hl 1 rfl) ?_
  refine r_cg B hC (i := 157) (by decide) k157_F1 (C := RX4) (T := TX4) (n := 5) rfl iwX4_next_X4 3 (by decide) (index := 21) flX4_next_21 rfl (v := .int (nI 0)) rfl dX4_next_19 ?_
  refine lv_if_ne (tgt := 27) B.1 B.2.1 dX4_next_22 (by decide) (fun z => absurd (nI_eq0 (by omega)) z) (fun _ => ?_)
  refine lv_iload_n B.1 B.2.1 dX4_next_25 rfl (lv_at hl 0 rfl) ?_
  exact r_eZ B hC (v := nI 0) (rfl) (⟨fun i hi => by rw [eF1, va_up_ne _ _ (by omega)], Or.inl ⟨by decide, hrem, (0, true, ro, st), (show RowsC g ad F1 (0, true, ro, st) from ⟨k157_F1, r1_F1, r2_F1, fun k hk => (rL k hk).at (fun i h1 h2 => by rw [eF1, va_up_ne _ _ (by omega)])⟩), okR, rfl, rfl⟩⟩) dX4_next_26
theorem flX4_next_17 : Cond.fieldLink RX4 17 RX4 (TX4 2).2.1 (TX4 2).2.2.1 ∈ wsX4_next := by decide +kernel
set_option maxHeartbeats 4000000 in
set_option maxRecDepth 100000 in
theorem ctX4_next1f (l : Launch) (g : Gx) (lo : Nat) (ad : Nat → Nat) {F : Nat → va_E} {h : HV} (hH : HullC g ad F h) (ok : HOK h) {ro : Nat → Option Nat} {st : Nat → LV} (hR : RowsC g ad F (1, false, ro, st)) (okR : ROK (1, false, ro, st)) (hw : LOK h (st 0)) {rem : List (List Nat)} (hrem : rem = (L1 h (st 0) 0).map (fun y => [y])) : MI l g lo 196 ad yX4_next wsX4_next 4 93 [.ref (ad (157))] F (fun r F' => Same 157 175 F F' ∧ ((r = bI false ∧ rem = [] ∧ ∃ v', RowsC g ad F' v' ∧ ROK v' ∧ rmv v' = 1 ∧ rst v' 0 = st 0) ∨ ∃ e es v', r = bI true ∧ rem = e :: es ∧ RowsC g ad F' v' ∧ RIt h (st 0) v' es ∧ Cur h (st 0) v' e ∧ rmv v' = 1)) := by
  obtain ⟨g0, g1, g2, g3, g4⟩ := id hH
  obtain ⟨r0, r1, r2, rL⟩ := id hR
  refine enter (cc := cX4_next) (maxL := 4) (ret := some .boolean) (own := RX4) (by decide +kernel) rfl rfl (Nat.le_of_ble_eq_true rfl) ?_
  intro pp ee ss mm below meth cc B hini hC ls hl
  have hl : lv_has ls 4 [(0, .ref (ad (157)))] := hl
  refine lv_aload_n B.1 B.2.1 dX4_next_0 rfl (lv_at hl 0 rfl) ?_
  refine r_cg B hC (i := 157) (by decide) r0 (C := RX4) (T := TX4) (n := 5) rfl iwX4_next_X4 4 (by decide) (index := 25) flX4_next_25 rfl (v := .int (bI false)) rfl dX4_next_1 ?_
  refine lv_if_ne (tgt := 11) B.1 B.2.1 dX4_next_4 (by decide) (fun z => absurd (by decide) z) (fun _ => ?_)
  refine lv_iconst (v := nI 1) B.1 B.2.1 dX4_next_7 (by decide) ?_
  refine lv_goto (tgt := 12) B.1 B.2.1 dX4_next_8 (by decide) ?_
  refine lv_istore_n (lv' := [(1, .int (nI 1)), (0, .ref (ad (157)))]) B.1 B.2.1 dX4_next_12 rfl hl (by decide) rfl (fun ls hl => ?_)
  refine lv_aload_n B.1 B.2.1 dX4_next_13 rfl (lv_at hl 1 rfl) ?_
  refine lv_iconst (v := nI 1) B.1 B.2.1 dX4_next_14 (by decide) ?_
  refine r_tI (y := bI true) (by decide) ?_
  refine r_cp B hC (i := 157) (by decide) r0 tyX4 tyX4_ok nmX4 (C := RX4) (T := TX4) rfl iwX4_next_X4 4 (by decide) (index := 25) flX4_next_25 rfl rfl (v := .int (bI true)) (nar_b _) (fit_b _) (Nat.le_of_ble_eq_true rfl) dX4_next_15 ?_
  intro H locs hC
  obtain ⟨F1, eF1⟩ : ∃ f : Nat → va_E, f = va_up F (157) (.inr (4, [.ref (ad (3)), .ref (ad (158)), .ref (ad (159)), .int (nI 1), .int (bI true)])) := ⟨_, rfl⟩
  have hC : Cu g lo 196 ad F1 ss ss.heap H locs := by rw [eF1]; exact hC
  have k157_F1 : F1 157 = .inr (4, [.ref (ad (3)), .ref (ad (158)), .ref (ad (159)), .int (nI 1), .int (bI true)]) := by rw [eF1]; exact va_up_self _ _ _
  have r1_F1 : F1 158 = .inl (g.2.2 4, 3, .inr (.inr (.inr (.inr (fun k => some (ad (160 + 5 * k))))))) := by rw [eF1, va_up_ne _ _ (by decide)]; exact r1
  have r2_F1 : F1 159 = .inl (g.2.2 0, 2, .inl (fun j => y1 (ro j))) := by rw [eF1, va_up_ne _ _ (by decide)]; exact r2
  have g0_F1 : F1 3 = .inr (2, [.ref (ad (4)), .ref (ad (5)), .ref (ad (6)), .ref (ad (7)), .int (nI (hn h)), .int (nI (hpu h)), .int (nI (hho h))]) := by rw [eF1, va_up_ne _ _ (by decide)]; exact g0
  refine lv_aload_n B.1 B.2.1 dX4_next_18 rfl (lv_at hl 1 rfl) ?_
  refine r_cg B hC (i := 157) (by decide) k157_F1 (C := RX4) (T := TX4) (n := 5) rfl iwX4_next_X4 3 (by decide) (index := 21) flX4_next_21 rfl (v := .int (nI 1)) rfl dX4_next_19 ?_
  refine lv_if_ne (tgt := 27) B.1 B.2.1 dX4_next_22 (by decide) (fun _ => ?_) (fun z => absurd z (nI_ne0 (by omega) (by omega)))
  refine lv_iload_n B.1 B.2.1 dX4_next_27 rfl (lv_at hl 0 rfl) ?_
  refine lv_if_eq (tgt := 35) B.1 B.2.1 dX4_next_28 (by decide) (fun z => absurd z (nI_ne0 (by omega) (by omega))) (fun _ => ?_)
  refine lv_iconst (v := nI 0) B.1 B.2.1 dX4_next_31 (by decide) ?_
  refine lv_goto (tgt := 41) B.1 B.2.1 dX4_next_32 (by decide) ?_
  refine lv_istore_n (lv' := [(2, .int (nI 0)), (1, .int (nI 1)), (0, .ref (ad (157)))]) B.1 B.2.1 dX4_next_41 rfl hl (by decide) rfl (fun ls hl => ?_)
  refine lv_iload_n B.1 B.2.1 dX4_next_42 rfl (lv_at hl 1 rfl) ?_
  refine lv_if_eq (tgt := 53) B.1 B.2.1 dX4_next_43 (by decide) (fun z => absurd z (nI_ne0 (by omega) (by omega))) (fun _ => ?_)
  refine lv_aload_n B.1 B.2.1 dX4_next_46 rfl (lv_at hl 2 rfl) ?_
  refine r_cg B hC (i := 157) (by decide) k157_F1 (C := RX4) (T := TX4) (n := 5) rfl iwX4_next_X4 2 (by decide) (index := 17) flX4_next_17 rfl (v := .ref (ad (159))) rfl dX4_next_47 ?_
  refine lv_iconst (v := nI 0) B.1 B.2.1 dX4_next_50 (by decide) ?_
  refine lv_iconst (v := (-1)) B.1 B.2.1 dX4_next_51 (by decide) ?_
  refine r_cast B hC (i := 159) (by decide) r2_F1 (j := 0) (by omega) (by decide) dX4_next_52 ?_
  intro H locs hC
  obtain ⟨F2, eF2⟩ : ∃ f : Nat → va_E, f = va_up F1 (159) (.inl (g.2.2 0, 2, .inl (fun j => y1 ((va_up ro 0 none) j)))) := ⟨_, rfl⟩
  have hC : Cu g lo 196 ad F2 ss ss.heap H locs := by rw [eF2]; exact (by rw [← upd_y1 ro 0 none]; exact hC)
  have k159_F2 : F2 159 = .inl (g.2.2 0, 2, .inl (fun j => y1 ((va_up ro 0 none) j))) := by rw [eF2]; exact va_up_self _ _ _
  have r1_F2 : F2 158 = .inl (g.2.2 4, 3, .inr (.inr (.inr (.inr (fun k => some (ad (160 + 5 * k))))))) := by rw [eF2, va_up_ne _ _ (by decide)]; exact r1_F1
  have g0_F2 : F2 3 = .inr (2, [.ref (ad (4)), .ref (ad (5)), .ref (ad (6)), .ref (ad (7)), .int (nI (hn h)), .int (nI (hpu h)), .int (nI (hho h))]) := by rw [eF2, va_up_ne _ _ (by decide)]; exact g0_F1
  have k157_F2 : F2 157 = .inr (4, [.ref (ad (3)), .ref (ad (158)), .ref (ad (159)), .int (nI 1), .int (bI true)]) := by rw [eF2, va_up_ne _ _ (by decide)]; exact k157_F1
  refine lv_iconst (v := nI 0) B.1 B.2.1 dX4_next_53 (by decide) ?_
  refine lv_istore_n (lv' := [(3, .int (nI 0)), (2, .int (nI 0)), (1, .int (nI 1)), (0, .ref (ad (157)))]) B.1 B.2.1 dX4_next_54 rfl hl (by decide) rfl (fun ls hl => ?_)
  refine lv_iload_n B.1 B.2.1 dX4_next_55 rfl (lv_at hl 0 rfl) ?_
  refine lv_ldc (own := RX4) (v := nI 1000000) B.1 B.2.1 B.2.2.2.1 (B.2.2.2.2.1 (.constant RX4 53 (1000000)) (by decide +kernel)) dX4_next_56 ?_
  refine lv_icmp_ge (tgt := 115) B.1 B.2.1 dX4_next_58 (by decide) (fun z => absurd z (nI_ge (by omega) (by omega))) (fun _ => ?_)
  refine lv_iload_n B.1 B.2.1 dX4_next_61 rfl (lv_at hl 1 rfl) ?_
  refine lv_if_lt (tgt := 115) B.1 B.2.1 dX4_next_62 (by decide) (fun z => absurd z (nI_pos (by omega))) (fun _ => ?_)
  refine lv_iload_n B.1 B.2.1 dX4_next_65 rfl (lv_at hl 1 rfl) ?_
  refine lv_aload_n B.1 B.2.1 dX4_next_66 rfl (lv_at hl 3 rfl) ?_
  refine r_cg B hC (i := 157) (by decide) k157_F2 (C := RX4) (T := TX4) (n := 5) rfl iwX4_next_X4 3 (by decide) (index := 21) flX4_next_21 rfl (v := .int (nI 1)) rfl dX4_next_67 ?_
  refine lv_icmp_ge (tgt := 115) B.1 B.2.1 dX4_next_70 (by decide) (fun z => absurd z (nI_ge (by omega) (by omega))) (fun _ => ?_)
  refine lv_aload_n B.1 B.2.1 dX4_next_73 rfl (lv_at hl 3 rfl) ?_
  refine lv_iload_n B.1 B.2.1 dX4_next_74 rfl (lv_at hl 1 rfl) ?_
  have hRn2_0 : RowsC g ad F2 (1, true, (va_up ro 0 none), st) := (show RowsC g ad F2 (1, true, (va_up ro 0 none), st) from ⟨k157_F2, r1_F2, k159_F2, fun k hk => (rL k hk).at (fun i h1 h2 => by rw [eF2, va_up_ne _ _ (by omega)]; rw [eF1, va_up_ne _ _ (by omega)])⟩)
  have okn2_0 : ROK (1, true, (va_up ro 0 none), st) := okR
  refine r_calli B hC hl.1 (157) 4 rfl rfl (by decide) k157_F2 (As := [.int (nI 0)]) (ctX4_makeNextMove l g lo ad (HullC.keep hH (x := 157) (y := 175) (fun i hi => by rw [eF2, va_up_ne _ _ (by omega)]; rw [eF1, va_up_ne _ _ (by omega)]) (by decide)) ok hRn2_0 okn2_0 (a := 0) (by decide) (show LOK h (st 0) by rw [show st 0 = st 0 from rfl]; exact hw) (by rw [show nx (rro (1, true, (va_up ro 0 none), st) 0) = 0 from (show nx (va_up ro 0 none 0) = 0 by rw [va_up_self]; rfl)]; omega)) gX4_next_X4_makeNextMove rfl (n := 1) rfl (by decide +kernel) ⟨Nat.le_of_ble_eq_true rfl, Nat.le_of_ble_eq_true rfl⟩ ⟨Nat.zero_le _, Nat.zero_le _⟩ rfl (Nat.le_of_ble_eq_true rfl) dX4_next_75 (fun r75 F3 H locs hp75 hC => ?_)
  rcases hp75 with ⟨er, hM, eF⟩ | ⟨m0, er, hge0, hlt0, hM, hmay0, hR_F3, hs_F3⟩
  · subst er
    rw [eF] at hC
    have hN0 : L1 h (st 0) (0) = [] := by rw [show nx (rro (1, true, (va_up ro 0 none), st) 0) = 0 from (show nx (va_up ro 0 none 0) = 0 by rw [va_up_self]; rfl), show rst (1, true, (va_up ro 0 none), st) 0 = st 0 from (rfl : st 0 = st 0)] at hM; exact hM
    refine lv_if_ne (tgt := 87) B.1 B.2.1 dX4_next_78 (by decide) (fun z => absurd (by decide) z) (fun _ => ?_)
    refine lv_iinc (v := (-1)) (lv' := [(2, .int ((-1))), (3, .int (nI 0)), (1, .int (nI 1)), (0, .ref (ad (157)))]) B.1 B.2.1 dX4_next_81 hl (k := 1) rfl (by decide) (by decide) rfl (fun ls hl => ?_)
    refine lv_goto (tgt := 109) B.1 B.2.1 dX4_next_84 (by decide) ?_
    refine lv_iinc (v := nI (0 + 1)) (lv' := [(3, .int (nI (0 + 1))), (2, .int ((-1))), (1, .int (nI 1)), (0, .ref (ad (157)))]) B.1 B.2.1 dX4_next_109 hl (k := 1) rfl (nI_1 _) (by decide) rfl (fun ls hl => ?_)
    refine lv_goto (tgt := 55) B.1 B.2.1 dX4_next_112 (by decide) ?_
    refine lv_iload_n B.1 B.2.1 dX4_next_55 rfl (lv_at hl 0 rfl) ?_
    refine lv_ldc (own := RX4) (v := nI 1000000) B.1 B.2.1 B.2.2.2.1 (B.2.2.2.2.1 (.constant RX4 53 (1000000)) (by decide +kernel)) dX4_next_56 ?_
    refine lv_icmp_ge (tgt := 115) B.1 B.2.1 dX4_next_58 (by decide) (fun z => absurd z (nI_ge (by omega) (by omega))) (fun _ => ?_)
    refine lv_iload_n B.1 B.2.1 dX4_next_61 rfl (lv_at hl 1 rfl) ?_
    refine lv_if_lt (tgt := 115) B.1 B.2.1 dX4_next_62 (by decide) (fun _ => ?_) (fun z => absurd (by decide) z)
    refine lv_iconst (v := nI 0) B.1 B.2.1 dX4_next_115 (by decide) ?_
    exact r_eZ B hC (v := nI 0) (rfl) (⟨fun i hi => by rw [eF2, va_up_ne _ _ (by omega)]; rw [eF1, va_up_ne _ _ (by omega)], Or.inl ⟨by decide, by rw [hrem, hN0]; rfl, (1, true, (va_up ro 0 none), st), (show RowsC g ad F2 (1, true, (va_up ro 0 none), st) from ⟨k157_F2, r1_F2, k159_F2, fun k hk => (rL k hk).at (fun i h1 h2 => by rw [eF2, va_up_ne _ _ (by omega)]; rw [eF1, va_up_ne _ _ (by omega)])⟩), okR, rfl, rfl⟩⟩) dX4_next_116
  · subst er
    rw [show nx (rro (1, true, (va_up ro 0 none), st) 0) = 0 from (show nx (va_up ro 0 none 0) = 0 by rw [va_up_self]; rfl)] at hge0
    have hY0 : L1 h (st 0) (0) = m0 :: L1 h (st 0) (m0 + 1) := by rw [show nx (rro (1, true, (va_up ro 0 none), st) 0) = 0 from (show nx (va_up ro 0 none 0) = 0 by rw [va_up_self]; rfl), show rst (1, true, (va_up ro 0 none), st) 0 = st 0 from (rfl : st 0 = st 0)] at hM; exact hM
    have hmy0 : mayM h (st 0) m0 = true := by rw [show rst (1, true, (va_up ro 0 none), st) 0 = st 0 from (rfl : st 0 = st 0)] at hmay0; exact hmay0
    have hR_F3 : RowsC g ad F3 (1, true, (va_up (va_up ro 0 none) 0 (some m0)), (va_up st 1 (stepV h (st 0) m0))) := by rw [show rst (1, true, (va_up ro 0 none), st) 0 = st 0 from (rfl : st 0 = st 0)] at hR_F3; exact hR_F3
    obtain ⟨r0_F3, r1_F3, r2_F3, rL_F3⟩ := id hR_F3
    have lok1_F3 : LOK h (stepV h (st 0) m0) := LOK_step ok (hw) hlt0 hmy0
    have g0_F3 : F3 3 = .inr (2, [.ref (ad (4)), .ref (ad (5)), .ref (ad (6)), .ref (ad (7)), .int (nI (hn h)), .int (nI (hpu h)), .int (nI (hho h))]) := (hs_F3 _ (by omega)).trans g0_F2
    refine lv_if_ne (tgt := 87) B.1 B.2.1 dX4_next_78 (by decide) (fun _ => ?_) (fun z => absurd z (by decide))
    refine lv_iload_n B.1 B.2.1 dX4_next_87 rfl (lv_at hl 1 rfl) ?_
    refine lv_aload_n B.1 B.2.1 dX4_next_88 rfl (lv_at hl 3 rfl) ?_
    refine r_cg B hC (i := 157) (by decide) r0_F3 (C := RX4) (T := TX4) (n := 5) rfl iwX4_next_X4 3 (by decide) (index := 21) flX4_next_21 rfl (v := .int (nI 1)) rfl dX4_next_89 ?_
    refine lv_iconst (v := nI 1) B.1 B.2.1 dX4_next_92 (by decide) ?_
    refine lv_isub B.1 B.2.1 dX4_next_93 ?_
    refine r_tI (y := nI 0) (by decide) ?_
    refine lv_icmp_ne (tgt := 99) B.1 B.2.1 dX4_next_94 (by decide) (fun z => absurd ((nI_eq (by omega) (by omega)).mpr (by omega)) z) (fun _ => ?_)
    refine lv_iconst (v := nI 1) B.1 B.2.1 dX4_next_97 (by decide) ?_
    exact r_eZ B hC (v := nI 1) (rfl) (⟨fun i hi => by rw [hs_F3 i (by omega)]; rw [eF2, va_up_ne _ _ (by omega)]; rw [eF1, va_up_ne _ _ (by omega)], Or.inr ⟨[m0], (L1 h (st 0) (m0 + 1)).map (fun y => [y]), (1, true, (va_up (va_up ro 0 none) 0 (some m0)), (va_up st 1 (stepV h (st 0) m0))), by decide, by rw [hrem, hY0]; rfl, (show RowsC g ad F3 (1, true, (va_up (va_up ro 0 none) 0 (some m0)), (va_up st 1 (stepV h (st 0) m0))) from ⟨r0_F3, r1_F3, r2_F3, fun k hk => (rL_F3 k hk).at (fun i h1 h2 => by rfl)⟩), ⟨hw, (show (va_up st 1 (stepV h (st 0) m0)) 0 = st 0 from (va_up_ne _ _ (by decide)).trans ((rfl : st 0 = st 0))), ROK_up (a := 0) (b := true) (r := ro) (okn2_0) rfl (lok1_F3).can _ _ _, by show 1 ≤ 2; decide, Or.inr ⟨rfl, Or.inr (Or.inl ⟨rfl, m0, (show (va_up (va_up ro 0 none) 0 (some m0)) 0 = some m0 from va_up_self _ _ _), hlt0, rfl⟩)⟩⟩, ⟨rfl, fun j hj => by rw [show j = 0 by have z : j < 1 := hj; omega]; exact (show (va_up (va_up ro 0 none) 0 (some m0)) 0 = some m0 from va_up_self _ _ _), (show (va_up st 1 (stepV h (st 0) m0)) 1 = stepV h (st 0) m0 from va_up_self _ _ _), lok1_F3, fun x hx => by rw [List.mem_singleton.mp hx]; exact hlt0⟩, rfl⟩⟩) dX4_next_98
set_option maxHeartbeats 4000000 in
set_option maxRecDepth 100000 in
theorem ctX4_next1t (l : Launch) (g : Gx) (lo : Nat) (ad : Nat → Nat) {F : Nat → va_E} {h : HV} (hH : HullC g ad F h) (ok : HOK h) {ro : Nat → Option Nat} {st : Nat → LV} (hR : RowsC g ad F (1, true, ro, st)) (okR : ROK (1, true, ro, st)) (hw : LOK h (st 0)) {rem : List (List Nat)} {x : Nat} (hx0 : ro 0 = some x) (hx : x < 100) (hrem : rem = (L1 h (st 0) (x + 1)).map (fun y => [y])) : MI l g lo 196 ad yX4_next wsX4_next 4 93 [.ref (ad (157))] F (fun r F' => Same 157 175 F F' ∧ ((r = bI false ∧ rem = [] ∧ ∃ v', RowsC g ad F' v' ∧ ROK v' ∧ rmv v' = 1 ∧ rst v' 0 = st 0) ∨ ∃ e es v', r = bI true ∧ rem = e :: es ∧ RowsC g ad F' v' ∧ RIt h (st 0) v' es ∧ Cur h (st 0) v' e ∧ rmv v' = 1)) := by
  obtain ⟨g0, g1, g2, g3, g4⟩ := id hH
  obtain ⟨r0, r1, r2, rL⟩ := id hR
  refine enter (cc := cX4_next) (maxL := 4) (ret := some .boolean) (own := RX4) (by decide +kernel) rfl rfl (Nat.le_of_ble_eq_true rfl) ?_
  intro pp ee ss mm below meth cc B hini hC ls hl
  have hl : lv_has ls 4 [(0, .ref (ad (157)))] := hl
  refine lv_aload_n B.1 B.2.1 dX4_next_0 rfl (lv_at hl 0 rfl) ?_
  refine r_cg B hC (i := 157) (by decide) r0 (C := RX4) (T := TX4) (n := 5) rfl iwX4_next_X4 4 (by decide) (index := 25) flX4_next_25 rfl (v := .int (bI true)) rfl dX4_next_1 ?_
  refine lv_if_ne (tgt := 11) B.1 B.2.1 dX4_next_4 (by decide) (fun _ => ?_) (fun z => absurd z (by decide))
  refine lv_iconst (v := nI 0) B.1 B.2.1 dX4_next_11 (by decide) ?_
  refine lv_istore_n (lv' := [(1, .int (nI 0)), (0, .ref (ad (157)))]) B.1 B.2.1 dX4_next_12 rfl hl (by decide) rfl (fun ls hl => ?_)
  refine lv_aload_n B.1 B.2.1 dX4_next_13 rfl (lv_at hl 1 rfl) ?_
  refine lv_iconst (v := nI 1) B.1 B.2.1 dX4_next_14 (by decide) ?_
  refine r_tI (y := bI true) (by decide) ?_
  refine r_cp B hC (i := 157) (by decide) r0 tyX4 tyX4_ok nmX4 (C := RX4) (T := TX4) rfl iwX4_next_X4 4 (by decide) (index := 25) flX4_next_25 rfl rfl (v := .int (bI true)) (nar_b _) (fit_b _) (Nat.le_of_ble_eq_true rfl) dX4_next_15 ?_
  intro H locs hC
  obtain ⟨F1, eF1⟩ : ∃ f : Nat → va_E, f = va_up F (157) (.inr (4, [.ref (ad (3)), .ref (ad (158)), .ref (ad (159)), .int (nI 1), .int (bI true)])) := ⟨_, rfl⟩
  have hC : Cu g lo 196 ad F1 ss ss.heap H locs := by rw [eF1]; exact hC
  have k157_F1 : F1 157 = .inr (4, [.ref (ad (3)), .ref (ad (158)), .ref (ad (159)), .int (nI 1), .int (bI true)]) := by rw [eF1]; exact va_up_self _ _ _
  have r1_F1 : F1 158 = .inl (g.2.2 4, 3, .inr (.inr (.inr (.inr (fun k => some (ad (160 + 5 * k))))))) := by rw [eF1, va_up_ne _ _ (by decide)]; exact r1
  have r2_F1 : F1 159 = .inl (g.2.2 0, 2, .inl (fun j => y1 (ro j))) := by rw [eF1, va_up_ne _ _ (by decide)]; exact r2
  have g0_F1 : F1 3 = .inr (2, [.ref (ad (4)), .ref (ad (5)), .ref (ad (6)), .ref (ad (7)), .int (nI (hn h)), .int (nI (hpu h)), .int (nI (hho h))]) := by rw [eF1, va_up_ne _ _ (by decide)]; exact g0
  refine lv_aload_n B.1 B.2.1 dX4_next_18 rfl (lv_at hl 1 rfl) ?_
  refine r_cg B hC (i := 157) (by decide) k157_F1 (C := RX4) (T := TX4) (n := 5) rfl iwX4_next_X4 3 (by decide) (index := 21) flX4_next_21 rfl (v := .int (nI 1)) rfl dX4_next_19 ?_
  refine lv_if_ne (tgt := 27) B.1 B.2.1 dX4_next_22 (by decide) (fun _ => ?_) (fun z => absurd z (nI_ne0 (by omega) (by omega)))
  refine lv_iload_n B.1 B.2.1 dX4_next_27 rfl (lv_at hl 0 rfl) ?_
  refine lv_if_eq (tgt := 35) B.1 B.2.1 dX4_next_28 (by decide) (fun _ => ?_) (fun z => absurd (nI_eq0 (by omega)) z)
  refine lv_aload_n B.1 B.2.1 dX4_next_35 rfl (lv_at hl 1 rfl) ?_
  refine r_cg B hC (i := 157) (by decide) k157_F1 (C := RX4) (T := TX4) (n := 5) rfl iwX4_next_X4 3 (by decide) (index := 21) flX4_next_21 rfl (v := .int (nI 1)) rfl dX4_next_36 ?_
  refine lv_iconst (v := nI 1) B.1 B.2.1 dX4_next_39 (by decide) ?_
  refine lv_isub B.1 B.2.1 dX4_next_40 ?_
  refine r_tI (y := nI 0) (by decide) ?_
  refine lv_istore_n (lv' := [(2, .int (nI 0)), (1, .int (nI 0)), (0, .ref (ad (157)))]) B.1 B.2.1 dX4_next_41 rfl hl (by decide) rfl (fun ls hl => ?_)
  refine lv_iload_n B.1 B.2.1 dX4_next_42 rfl (lv_at hl 1 rfl) ?_
  refine lv_if_eq (tgt := 53) B.1 B.2.1 dX4_next_43 (by decide) (fun _ => ?_) (fun z => absurd (nI_eq0 (by omega)) z)
  refine lv_iconst (v := nI 0) B.1 B.2.1 dX4_next_53 (by decide) ?_
  refine lv_istore_n (lv' := [(3, .int (nI 0)), (2, .int (nI 0)), (1, .int (nI 0)), (0, .ref (ad (157)))]) B.1 B.2.1 dX4_next_54 rfl hl (by decide) rfl (fun ls hl => ?_)
  refine lv_iload_n B.1 B.2.1 dX4_next_55 rfl (lv_at hl 0 rfl) ?_
  refine lv_ldc (own := RX4) (v := nI 1000000) B.1 B.2.1 B.2.2.2.1 (B.2.2.2.2.1 (.constant RX4 53 (1000000)) (by decide +kernel)) dX4_next_56 ?_
  refine lv_icmp_ge (tgt := 115) B.1 B.2.1 dX4_next_58 (by decide) (fun z => absurd z (nI_ge (by omega) (by omega))) (fun _ => ?_)
  refine lv_iload_n B.1 B.2.1 dX4_next_61 rfl (lv_at hl 1 rfl) ?_
  refine lv_if_lt (tgt := 115) B.1 B.2.1 dX4_next_62 (by decide) (fun z => absurd z (nI_pos (by omega))) (fun _ => ?_)
  refine lv_iload_n B.1 B.2.1 dX4_next_65 rfl (lv_at hl 1 rfl) ?_
  refine lv_aload_n B.1 B.2.1 dX4_next_66 rfl (lv_at hl 3 rfl) ?_
  refine r_cg B hC (i := 157) (by decide) k157_F1 (C := RX4) (T := TX4) (n := 5) rfl iwX4_next_X4 3 (by decide) (index := 21) flX4_next_21 rfl (v := .int (nI 1)) rfl dX4_next_67 ?_
  refine lv_icmp_ge (tgt := 115) B.1 B.2.1 dX4_next_70 (by decide) (fun z => absurd z (nI_ge (by omega) (by omega))) (fun _ => ?_)
  refine lv_aload_n B.1 B.2.1 dX4_next_73 rfl (lv_at hl 3 rfl) ?_
  refine lv_iload_n B.1 B.2.1 dX4_next_74 rfl (lv_at hl 1 rfl) ?_
  have hRn1_0 : RowsC g ad F1 (1, true, ro, st) := (show RowsC g ad F1 (1, true, ro, st) from ⟨k157_F1, r1_F1, r2_F1, fun k hk => (rL k hk).at (fun i h1 h2 => by rw [eF1, va_up_ne _ _ (by omega)])⟩)
  have okn1_0 : ROK (1, true, ro, st) := okR
  refine r_calli B hC hl.1 (157) 4 rfl rfl (by decide) k157_F1 (As := [.int (nI 0)]) (ctX4_makeNextMove l g lo ad (HullC.keep hH (x := 157) (y := 175) (fun i hi => by rw [eF1, va_up_ne _ _ (by omega)]) (by decide)) ok hRn1_0 okn1_0 (a := 0) (by decide) (show LOK h (st 0) by rw [show st 0 = st 0 from rfl]; exact hw) (by rw [show nx (rro (1, true, ro, st) 0) = x + 1 from (show nx (ro 0) = x + 1 by rw [hx0]; rfl)]; omega)) gX4_next_X4_makeNextMove rfl (n := 1) rfl (by decide +kernel) ⟨Nat.le_of_ble_eq_true rfl, Nat.le_of_ble_eq_true rfl⟩ ⟨Nat.zero_le _, Nat.zero_le _⟩ rfl (Nat.le_of_ble_eq_true rfl) dX4_next_75 (fun r75 F2 H locs hp75 hC => ?_)
  rcases hp75 with ⟨er, hM, eF⟩ | ⟨m0, er, hge0, hlt0, hM, hmay0, hR_F2, hs_F2⟩
  · subst er
    rw [eF] at hC
    have hN0 : L1 h (st 0) (x + 1) = [] := by rw [show nx (rro (1, true, ro, st) 0) = x + 1 from (show nx (ro 0) = x + 1 by rw [hx0]; rfl), show rst (1, true, ro, st) 0 = st 0 from (rfl : st 0 = st 0)] at hM; exact hM
    refine lv_if_ne (tgt := 87) B.1 B.2.1 dX4_next_78 (by decide) (fun z => absurd (by decide) z) (fun _ => ?_)
    refine lv_iinc (v := (-1)) (lv' := [(2, .int ((-1))), (3, .int (nI 0)), (1, .int (nI 0)), (0, .ref (ad (157)))]) B.1 B.2.1 dX4_next_81 hl (k := 1) rfl (by decide) (by decide) rfl (fun ls hl => ?_)
    refine lv_goto (tgt := 109) B.1 B.2.1 dX4_next_84 (by decide) ?_
    refine lv_iinc (v := nI (0 + 1)) (lv' := [(3, .int (nI (0 + 1))), (2, .int ((-1))), (1, .int (nI 0)), (0, .ref (ad (157)))]) B.1 B.2.1 dX4_next_109 hl (k := 1) rfl (nI_1 _) (by decide) rfl (fun ls hl => ?_)
    refine lv_goto (tgt := 55) B.1 B.2.1 dX4_next_112 (by decide) ?_
    refine lv_iload_n B.1 B.2.1 dX4_next_55 rfl (lv_at hl 0 rfl) ?_
    refine lv_ldc (own := RX4) (v := nI 1000000) B.1 B.2.1 B.2.2.2.1 (B.2.2.2.2.1 (.constant RX4 53 (1000000)) (by decide +kernel)) dX4_next_56 ?_
    refine lv_icmp_ge (tgt := 115) B.1 B.2.1 dX4_next_58 (by decide) (fun z => absurd z (nI_ge (by omega) (by omega))) (fun _ => ?_)
    refine lv_iload_n B.1 B.2.1 dX4_next_61 rfl (lv_at hl 1 rfl) ?_
    refine lv_if_lt (tgt := 115) B.1 B.2.1 dX4_next_62 (by decide) (fun _ => ?_) (fun z => absurd (by decide) z)
    refine lv_iconst (v := nI 0) B.1 B.2.1 dX4_next_115 (by decide) ?_
    exact r_eZ B hC (v := nI 0) (rfl) (⟨fun i hi => by rw [eF1, va_up_ne _ _ (by omega)], Or.inl ⟨by decide, by rw [hrem, hN0]; rfl, (1, true, ro, st), (show RowsC g ad F1 (1, true, ro, st) from ⟨k157_F1, r1_F1, r2_F1, fun k hk => (rL k hk).at (fun i h1 h2 => by rw [eF1, va_up_ne _ _ (by omega)])⟩), okR, rfl, rfl⟩⟩) dX4_next_116
  · subst er
    rw [show nx (rro (1, true, ro, st) 0) = x + 1 from (show nx (ro 0) = x + 1 by rw [hx0]; rfl)] at hge0
    have hY0 : L1 h (st 0) (x + 1) = m0 :: L1 h (st 0) (m0 + 1) := by rw [show nx (rro (1, true, ro, st) 0) = x + 1 from (show nx (ro 0) = x + 1 by rw [hx0]; rfl), show rst (1, true, ro, st) 0 = st 0 from (rfl : st 0 = st 0)] at hM; exact hM
    have hmy0 : mayM h (st 0) m0 = true := by rw [show rst (1, true, ro, st) 0 = st 0 from (rfl : st 0 = st 0)] at hmay0; exact hmay0
    have hR_F2 : RowsC g ad F2 (1, true, (va_up ro 0 (some m0)), (va_up st 1 (stepV h (st 0) m0))) := by rw [show rst (1, true, ro, st) 0 = st 0 from (rfl : st 0 = st 0)] at hR_F2; exact hR_F2
    obtain ⟨r0_F2, r1_F2, r2_F2, rL_F2⟩ := id hR_F2
    have lok1_F2 : LOK h (stepV h (st 0) m0) := LOK_step ok (hw) hlt0 hmy0
    have g0_F2 : F2 3 = .inr (2, [.ref (ad (4)), .ref (ad (5)), .ref (ad (6)), .ref (ad (7)), .int (nI (hn h)), .int (nI (hpu h)), .int (nI (hho h))]) := (hs_F2 _ (by omega)).trans g0_F1
    refine lv_if_ne (tgt := 87) B.1 B.2.1 dX4_next_78 (by decide) (fun _ => ?_) (fun z => absurd z (by decide))
    refine lv_iload_n B.1 B.2.1 dX4_next_87 rfl (lv_at hl 1 rfl) ?_
    refine lv_aload_n B.1 B.2.1 dX4_next_88 rfl (lv_at hl 3 rfl) ?_
    refine r_cg B hC (i := 157) (by decide) r0_F2 (C := RX4) (T := TX4) (n := 5) rfl iwX4_next_X4 3 (by decide) (index := 21) flX4_next_21 rfl (v := .int (nI 1)) rfl dX4_next_89 ?_
    refine lv_iconst (v := nI 1) B.1 B.2.1 dX4_next_92 (by decide) ?_
    refine lv_isub B.1 B.2.1 dX4_next_93 ?_
    refine r_tI (y := nI 0) (by decide) ?_
    refine lv_icmp_ne (tgt := 99) B.1 B.2.1 dX4_next_94 (by decide) (fun z => absurd ((nI_eq (by omega) (by omega)).mpr (by omega)) z) (fun _ => ?_)
    refine lv_iconst (v := nI 1) B.1 B.2.1 dX4_next_97 (by decide) ?_
    exact r_eZ B hC (v := nI 1) (rfl) (⟨fun i hi => by rw [hs_F2 i (by omega)]; rw [eF1, va_up_ne _ _ (by omega)], Or.inr ⟨[m0], (L1 h (st 0) (m0 + 1)).map (fun y => [y]), (1, true, (va_up ro 0 (some m0)), (va_up st 1 (stepV h (st 0) m0))), by decide, by rw [hrem, hY0]; rfl, (show RowsC g ad F2 (1, true, (va_up ro 0 (some m0)), (va_up st 1 (stepV h (st 0) m0))) from ⟨r0_F2, r1_F2, r2_F2, fun k hk => (rL_F2 k hk).at (fun i h1 h2 => by rfl)⟩), ⟨hw, (show (va_up st 1 (stepV h (st 0) m0)) 0 = st 0 from (va_up_ne _ _ (by decide)).trans ((rfl : st 0 = st 0))), ROK_up (a := 0) (b := true) (r := ro) (okn1_0) rfl (lok1_F2).can _ _ _, by show 1 ≤ 2; decide, Or.inr ⟨rfl, Or.inr (Or.inl ⟨rfl, m0, (show (va_up ro 0 (some m0)) 0 = some m0 from va_up_self _ _ _), hlt0, rfl⟩)⟩⟩, ⟨rfl, fun j hj => by rw [show j = 0 by have z : j < 1 := hj; omega]; exact (show (va_up ro 0 (some m0)) 0 = some m0 from va_up_self _ _ _), (show (va_up st 1 (stepV h (st 0) m0)) 1 = stepV h (st 0) m0 from va_up_self _ _ _), lok1_F2, fun x hx => by rw [List.mem_singleton.mp hx]; exact hlt0⟩, rfl⟩⟩) dX4_next_98
set_option maxHeartbeats 4000000 in
set_option maxRecDepth 100000 in
theorem ctX4_next2f (l : Launch) (g : Gx) (lo : Nat) (ad : Nat → Nat) {F : Nat → va_E} {h : HV} (hH : HullC g ad F h) (ok : HOK h) {ro : Nat → Option Nat} {st : Nat → LV} (hR : RowsC g ad F (2, false, ro, st)) (okR : ROK (2, false, ro, st)) (hw : LOK h (st 0)) {rem : List (List Nat)} (hrem : rem = L2 h (st 0) 0) : MI l g lo 196 ad yX4_next wsX4_next 4 93 [.ref (ad (157))] F (fun r F' => Same 157 175 F F' ∧ ((r = bI false ∧ rem = [] ∧ ∃ v', RowsC g ad F' v' ∧ ROK v' ∧ rmv v' = 2 ∧ rst v' 0 = st 0) ∨ ∃ e es v', r = bI true ∧ rem = e :: es ∧ RowsC g ad F' v' ∧ RIt h (st 0) v' es ∧ Cur h (st 0) v' e ∧ rmv v' = 2)) := by
  obtain ⟨g0, g1, g2, g3, g4⟩ := id hH
  obtain ⟨r0, r1, r2, rL⟩ := id hR
  refine enter (cc := cX4_next) (maxL := 4) (ret := some .boolean) (own := RX4) (by decide +kernel) rfl rfl (Nat.le_of_ble_eq_true rfl) ?_
  intro pp ee ss mm below meth cc B hini hC ls hl
  have hl : lv_has ls 4 [(0, .ref (ad (157)))] := hl
  refine lv_aload_n B.1 B.2.1 dX4_next_0 rfl (lv_at hl 0 rfl) ?_
  refine r_cg B hC (i := 157) (by decide) r0 (C := RX4) (T := TX4) (n := 5) rfl iwX4_next_X4 4 (by decide) (index := 25) flX4_next_25 rfl (v := .int (bI false)) rfl dX4_next_1 ?_
  refine lv_if_ne (tgt := 11) B.1 B.2.1 dX4_next_4 (by decide) (fun z => absurd (by decide) z) (fun _ => ?_)
  refine lv_iconst (v := nI 1) B.1 B.2.1 dX4_next_7 (by decide) ?_
  refine lv_goto (tgt := 12) B.1 B.2.1 dX4_next_8 (by decide) ?_
  refine lv_istore_n (lv' := [(1, .int (nI 1)), (0, .ref (ad (157)))]) B.1 B.2.1 dX4_next_12 rfl hl (by decide) rfl (fun ls hl => ?_)
  refine lv_aload_n B.1 B.2.1 dX4_next_13 rfl (lv_at hl 1 rfl) ?_
  refine lv_iconst (v := nI 1) B.1 B.2.1 dX4_next_14 (by decide) ?_
  refine r_tI (y := bI true) (by decide) ?_
  refine r_cp B hC (i := 157) (by decide) r0 tyX4 tyX4_ok nmX4 (C := RX4) (T := TX4) rfl iwX4_next_X4 4 (by decide) (index := 25) flX4_next_25 rfl rfl (v := .int (bI true)) (nar_b _) (fit_b _) (Nat.le_of_ble_eq_true rfl) dX4_next_15 ?_
  intro H locs hC
  obtain ⟨F1, eF1⟩ : ∃ f : Nat → va_E, f = va_up F (157) (.inr (4, [.ref (ad (3)), .ref (ad (158)), .ref (ad (159)), .int (nI 2), .int (bI true)])) := ⟨_, rfl⟩
  have hC : Cu g lo 196 ad F1 ss ss.heap H locs := by rw [eF1]; exact hC
  have k157_F1 : F1 157 = .inr (4, [.ref (ad (3)), .ref (ad (158)), .ref (ad (159)), .int (nI 2), .int (bI true)]) := by rw [eF1]; exact va_up_self _ _ _
  have r1_F1 : F1 158 = .inl (g.2.2 4, 3, .inr (.inr (.inr (.inr (fun k => some (ad (160 + 5 * k))))))) := by rw [eF1, va_up_ne _ _ (by decide)]; exact r1
  have r2_F1 : F1 159 = .inl (g.2.2 0, 2, .inl (fun j => y1 (ro j))) := by rw [eF1, va_up_ne _ _ (by decide)]; exact r2
  have g0_F1 : F1 3 = .inr (2, [.ref (ad (4)), .ref (ad (5)), .ref (ad (6)), .ref (ad (7)), .int (nI (hn h)), .int (nI (hpu h)), .int (nI (hho h))]) := by rw [eF1, va_up_ne _ _ (by decide)]; exact g0
  refine lv_aload_n B.1 B.2.1 dX4_next_18 rfl (lv_at hl 1 rfl) ?_
  refine r_cg B hC (i := 157) (by decide) k157_F1 (C := RX4) (T := TX4) (n := 5) rfl iwX4_next_X4 3 (by decide) (index := 21) flX4_next_21 rfl (v := .int (nI 2)) rfl dX4_next_19 ?_
  refine lv_if_ne (tgt := 27) B.1 B.2.1 dX4_next_22 (by decide) (fun _ => ?_) (fun z => absurd z (nI_ne0 (by omega) (by omega)))
  refine lv_iload_n B.1 B.2.1 dX4_next_27 rfl (lv_at hl 0 rfl) ?_
  refine lv_if_eq (tgt := 35) B.1 B.2.1 dX4_next_28 (by decide) (fun z => absurd z (nI_ne0 (by omega) (by omega))) (fun _ => ?_)
  refine lv_iconst (v := nI 0) B.1 B.2.1 dX4_next_31 (by decide) ?_
  refine lv_goto (tgt := 41) B.1 B.2.1 dX4_next_32 (by decide) ?_
  refine lv_istore_n (lv' := [(2, .int (nI 0)), (1, .int (nI 1)), (0, .ref (ad (157)))]) B.1 B.2.1 dX4_next_41 rfl hl (by decide) rfl (fun ls hl => ?_)
  refine lv_iload_n B.1 B.2.1 dX4_next_42 rfl (lv_at hl 1 rfl) ?_
  refine lv_if_eq (tgt := 53) B.1 B.2.1 dX4_next_43 (by decide) (fun z => absurd z (nI_ne0 (by omega) (by omega))) (fun _ => ?_)
  refine lv_aload_n B.1 B.2.1 dX4_next_46 rfl (lv_at hl 2 rfl) ?_
  refine r_cg B hC (i := 157) (by decide) k157_F1 (C := RX4) (T := TX4) (n := 5) rfl iwX4_next_X4 2 (by decide) (index := 17) flX4_next_17 rfl (v := .ref (ad (159))) rfl dX4_next_47 ?_
  refine lv_iconst (v := nI 0) B.1 B.2.1 dX4_next_50 (by decide) ?_
  refine lv_iconst (v := (-1)) B.1 B.2.1 dX4_next_51 (by decide) ?_
  refine r_cast B hC (i := 159) (by decide) r2_F1 (j := 0) (by omega) (by decide) dX4_next_52 ?_
  intro H locs hC
  obtain ⟨F2, eF2⟩ : ∃ f : Nat → va_E, f = va_up F1 (159) (.inl (g.2.2 0, 2, .inl (fun j => y1 ((va_up ro 0 none) j)))) := ⟨_, rfl⟩
  have hC : Cu g lo 196 ad F2 ss ss.heap H locs := by rw [eF2]; exact (by rw [← upd_y1 ro 0 none]; exact hC)
  have k159_F2 : F2 159 = .inl (g.2.2 0, 2, .inl (fun j => y1 ((va_up ro 0 none) j))) := by rw [eF2]; exact va_up_self _ _ _
  have r1_F2 : F2 158 = .inl (g.2.2 4, 3, .inr (.inr (.inr (.inr (fun k => some (ad (160 + 5 * k))))))) := by rw [eF2, va_up_ne _ _ (by decide)]; exact r1_F1
  have g0_F2 : F2 3 = .inr (2, [.ref (ad (4)), .ref (ad (5)), .ref (ad (6)), .ref (ad (7)), .int (nI (hn h)), .int (nI (hpu h)), .int (nI (hho h))]) := by rw [eF2, va_up_ne _ _ (by decide)]; exact g0_F1
  have k157_F2 : F2 157 = .inr (4, [.ref (ad (3)), .ref (ad (158)), .ref (ad (159)), .int (nI 2), .int (bI true)]) := by rw [eF2, va_up_ne _ _ (by decide)]; exact k157_F1
  refine lv_iconst (v := nI 0) B.1 B.2.1 dX4_next_53 (by decide) ?_
  refine lv_istore_n (lv' := [(3, .int (nI 0)), (2, .int (nI 0)), (1, .int (nI 1)), (0, .ref (ad (157)))]) B.1 B.2.1 dX4_next_54 rfl hl (by decide) rfl (fun ls hl => ?_)
  refine lv_iload_n B.1 B.2.1 dX4_next_55 rfl (lv_at hl 0 rfl) ?_
  refine lv_ldc (own := RX4) (v := nI 1000000) B.1 B.2.1 B.2.2.2.1 (B.2.2.2.2.1 (.constant RX4 53 (1000000)) (by decide +kernel)) dX4_next_56 ?_
  refine lv_icmp_ge (tgt := 115) B.1 B.2.1 dX4_next_58 (by decide) (fun z => absurd z (nI_ge (by omega) (by omega))) (fun _ => ?_)
  refine lv_iload_n B.1 B.2.1 dX4_next_61 rfl (lv_at hl 1 rfl) ?_
  refine lv_if_lt (tgt := 115) B.1 B.2.1 dX4_next_62 (by decide) (fun z => absurd z (nI_pos (by omega))) (fun _ => ?_)
  refine lv_iload_n B.1 B.2.1 dX4_next_65 rfl (lv_at hl 1 rfl) ?_
  refine lv_aload_n B.1 B.2.1 dX4_next_66 rfl (lv_at hl 3 rfl) ?_
  refine r_cg B hC (i := 157) (by decide) k157_F2 (C := RX4) (T := TX4) (n := 5) rfl iwX4_next_X4 3 (by decide) (index := 21) flX4_next_21 rfl (v := .int (nI 2)) rfl dX4_next_67 ?_
  refine lv_icmp_ge (tgt := 115) B.1 B.2.1 dX4_next_70 (by decide) (fun z => absurd z (nI_ge (by omega) (by omega))) (fun _ => ?_)
  refine lv_aload_n B.1 B.2.1 dX4_next_73 rfl (lv_at hl 3 rfl) ?_
  refine lv_iload_n B.1 B.2.1 dX4_next_74 rfl (lv_at hl 1 rfl) ?_
  have hRn2_0 : RowsC g ad F2 (2, true, (va_up ro 0 none), st) := (show RowsC g ad F2 (2, true, (va_up ro 0 none), st) from ⟨k157_F2, r1_F2, k159_F2, fun k hk => (rL k hk).at (fun i h1 h2 => by rw [eF2, va_up_ne _ _ (by omega)]; rw [eF1, va_up_ne _ _ (by omega)])⟩)
  have okn2_0 : ROK (2, true, (va_up ro 0 none), st) := okR
  refine r_calli B hC hl.1 (157) 4 rfl rfl (by decide) k157_F2 (As := [.int (nI 0)]) (ctX4_makeNextMove l g lo ad (HullC.keep hH (x := 157) (y := 175) (fun i hi => by rw [eF2, va_up_ne _ _ (by omega)]; rw [eF1, va_up_ne _ _ (by omega)]) (by decide)) ok hRn2_0 okn2_0 (a := 0) (by decide) (show LOK h (st 0) by rw [show st 0 = st 0 from rfl]; exact hw) (by rw [show nx (rro (2, true, (va_up ro 0 none), st) 0) = 0 from (show nx (va_up ro 0 none 0) = 0 by rw [va_up_self]; rfl)]; omega)) gX4_next_X4_makeNextMove rfl (n := 1) rfl (by decide +kernel) ⟨Nat.le_of_ble_eq_true rfl, Nat.le_of_ble_eq_true rfl⟩ ⟨Nat.zero_le _, Nat.zero_le _⟩ rfl (Nat.le_of_ble_eq_true rfl) dX4_next_75 (fun r75 F3 H locs hp75 hC => ?_)
  rcases hp75 with ⟨er, hM, eF⟩ | ⟨m0, er, hge0, hlt0, hM, hmay0, hR_F3, hs_F3⟩
  · subst er
    rw [eF] at hC
    have hN0 : L1 h (st 0) (0) = [] := by rw [show nx (rro (2, true, (va_up ro 0 none), st) 0) = 0 from (show nx (va_up ro 0 none 0) = 0 by rw [va_up_self]; rfl), show rst (2, true, (va_up ro 0 none), st) 0 = st 0 from (rfl : st 0 = st 0)] at hM; exact hM
    refine lv_if_ne (tgt := 87) B.1 B.2.1 dX4_next_78 (by decide) (fun z => absurd (by decide) z) (fun _ => ?_)
    refine lv_iinc (v := (-1)) (lv' := [(2, .int ((-1))), (3, .int (nI 0)), (1, .int (nI 1)), (0, .ref (ad (157)))]) B.1 B.2.1 dX4_next_81 hl (k := 1) rfl (by decide) (by decide) rfl (fun ls hl => ?_)
    refine lv_goto (tgt := 109) B.1 B.2.1 dX4_next_84 (by decide) ?_
    refine lv_iinc (v := nI (0 + 1)) (lv' := [(3, .int (nI (0 + 1))), (2, .int ((-1))), (1, .int (nI 1)), (0, .ref (ad (157)))]) B.1 B.2.1 dX4_next_109 hl (k := 1) rfl (nI_1 _) (by decide) rfl (fun ls hl => ?_)
    refine lv_goto (tgt := 55) B.1 B.2.1 dX4_next_112 (by decide) ?_
    refine lv_iload_n B.1 B.2.1 dX4_next_55 rfl (lv_at hl 0 rfl) ?_
    refine lv_ldc (own := RX4) (v := nI 1000000) B.1 B.2.1 B.2.2.2.1 (B.2.2.2.2.1 (.constant RX4 53 (1000000)) (by decide +kernel)) dX4_next_56 ?_
    refine lv_icmp_ge (tgt := 115) B.1 B.2.1 dX4_next_58 (by decide) (fun z => absurd z (nI_ge (by omega) (by omega))) (fun _ => ?_)
    refine lv_iload_n B.1 B.2.1 dX4_next_61 rfl (lv_at hl 1 rfl) ?_
    refine lv_if_lt (tgt := 115) B.1 B.2.1 dX4_next_62 (by decide) (fun _ => ?_) (fun z => absurd (by decide) z)
    refine lv_iconst (v := nI 0) B.1 B.2.1 dX4_next_115 (by decide) ?_
    exact r_eZ B hC (v := nI 0) (rfl) (⟨fun i hi => by rw [eF2, va_up_ne _ _ (by omega)]; rw [eF1, va_up_ne _ _ (by omega)], Or.inl ⟨by decide, by rw [hrem, L2_nil hN0], (2, true, (va_up ro 0 none), st), (show RowsC g ad F2 (2, true, (va_up ro 0 none), st) from ⟨k157_F2, r1_F2, k159_F2, fun k hk => (rL k hk).at (fun i h1 h2 => by rw [eF2, va_up_ne _ _ (by omega)]; rw [eF1, va_up_ne _ _ (by omega)])⟩), okR, rfl, rfl⟩⟩) dX4_next_116
  · subst er
    rw [show nx (rro (2, true, (va_up ro 0 none), st) 0) = 0 from (show nx (va_up ro 0 none 0) = 0 by rw [va_up_self]; rfl)] at hge0
    have hY0 : L1 h (st 0) (0) = m0 :: L1 h (st 0) (m0 + 1) := by rw [show nx (rro (2, true, (va_up ro 0 none), st) 0) = 0 from (show nx (va_up ro 0 none 0) = 0 by rw [va_up_self]; rfl), show rst (2, true, (va_up ro 0 none), st) 0 = st 0 from (rfl : st 0 = st 0)] at hM; exact hM
    have hmy0 : mayM h (st 0) m0 = true := by rw [show rst (2, true, (va_up ro 0 none), st) 0 = st 0 from (rfl : st 0 = st 0)] at hmay0; exact hmay0
    have hR_F3 : RowsC g ad F3 (2, true, (va_up (va_up ro 0 none) 0 (some m0)), (va_up st 1 (stepV h (st 0) m0))) := by rw [show rst (2, true, (va_up ro 0 none), st) 0 = st 0 from (rfl : st 0 = st 0)] at hR_F3; exact hR_F3
    obtain ⟨r0_F3, r1_F3, r2_F3, rL_F3⟩ := id hR_F3
    have lok1_F3 : LOK h (stepV h (st 0) m0) := LOK_step ok (hw) hlt0 hmy0
    have g0_F3 : F3 3 = .inr (2, [.ref (ad (4)), .ref (ad (5)), .ref (ad (6)), .ref (ad (7)), .int (nI (hn h)), .int (nI (hpu h)), .int (nI (hho h))]) := (hs_F3 _ (by omega)).trans g0_F2
    refine lv_if_ne (tgt := 87) B.1 B.2.1 dX4_next_78 (by decide) (fun _ => ?_) (fun z => absurd z (by decide))
    refine lv_iload_n B.1 B.2.1 dX4_next_87 rfl (lv_at hl 1 rfl) ?_
    refine lv_aload_n B.1 B.2.1 dX4_next_88 rfl (lv_at hl 3 rfl) ?_
    refine r_cg B hC (i := 157) (by decide) r0_F3 (C := RX4) (T := TX4) (n := 5) rfl iwX4_next_X4 3 (by decide) (index := 21) flX4_next_21 rfl (v := .int (nI 2)) rfl dX4_next_89 ?_
    refine lv_iconst (v := nI 1) B.1 B.2.1 dX4_next_92 (by decide) ?_
    refine lv_isub B.1 B.2.1 dX4_next_93 ?_
    refine r_tI (y := nI 1) (by decide) ?_
    refine lv_icmp_ne (tgt := 99) B.1 B.2.1 dX4_next_94 (by decide) (fun _ => ?_) (fun z => absurd z (fun z => absurd ((nI_eq (by omega) (by omega)).mp z) (by omega)))
    refine lv_iinc (v := nI 1) (lv' := [(2, .int (nI 1)), (3, .int (nI 0)), (1, .int (nI 1)), (0, .ref (ad (157)))]) B.1 B.2.1 dX4_next_99 hl (k := 1) rfl (by decide) (by decide) rfl (fun ls hl => ?_)
    refine lv_aload_n B.1 B.2.1 dX4_next_102 rfl (lv_at hl 3 rfl) ?_
    refine r_cg B hC (i := 157) (by decide) r0_F3 (C := RX4) (T := TX4) (n := 5) rfl iwX4_next_X4 2 (by decide) (index := 17) flX4_next_17 rfl (v := .ref (ad (159))) rfl dX4_next_103 ?_
    refine lv_iload_n B.1 B.2.1 dX4_next_106 rfl (lv_at hl 0 rfl) ?_
    refine lv_iconst (v := (-1)) B.1 B.2.1 dX4_next_107 (by decide) ?_
    refine r_cast B hC (i := 159) (by decide) r2_F3 (j := 1) (by omega) (by decide) dX4_next_108 ?_
    intro H locs hC
    obtain ⟨F4, eF4⟩ : ∃ f : Nat → va_E, f = va_up F3 (159) (.inl (g.2.2 0, 2, .inl (fun j => y1 ((va_up (va_up (va_up ro 0 none) 0 (some m0)) 1 none) j)))) := ⟨_, rfl⟩
    have hC : Cu g lo 196 ad F4 ss ss.heap H locs := by rw [eF4]; exact (by rw [← upd_y1 (va_up (va_up ro 0 none) 0 (some m0)) 1 none]; exact hC)
    have k159_F4 : F4 159 = .inl (g.2.2 0, 2, .inl (fun j => y1 ((va_up (va_up (va_up ro 0 none) 0 (some m0)) 1 none) j))) := by rw [eF4]; exact va_up_self _ _ _
    have r0_F4 : F4 157 = .inr (4, [.ref (ad (3)), .ref (ad (158)), .ref (ad (159)), .int (nI 2), .int (bI true)]) := by rw [eF4, va_up_ne _ _ (by decide)]; exact r0_F3
    have r1_F4 : F4 158 = .inl (g.2.2 4, 3, .inr (.inr (.inr (.inr (fun k => some (ad (160 + 5 * k))))))) := by rw [eF4, va_up_ne _ _ (by decide)]; exact r1_F3
    have g0_F4 : F4 3 = .inr (2, [.ref (ad (4)), .ref (ad (5)), .ref (ad (6)), .ref (ad (7)), .int (nI (hn h)), .int (nI (hpu h)), .int (nI (hho h))]) := by rw [eF4, va_up_ne _ _ (by decide)]; exact g0_F3
    refine lv_iinc (v := nI (0 + 1)) (lv' := [(3, .int (nI (0 + 1))), (2, .int (nI 1)), (1, .int (nI 1)), (0, .ref (ad (157)))]) B.1 B.2.1 dX4_next_109 hl (k := 1) rfl (nI_1 _) (by decide) rfl (fun ls hl => ?_)
    refine lv_goto (tgt := 55) B.1 B.2.1 dX4_next_112 (by decide) ?_
    have loop55 : ∀ (k : Nat) (t : Nat) (ro2 : Nat → Option Nat) (rs : Nat → LV) (x : Nat) (G : Nat → va_E), (100 ≤ x + 1 + k) → (t + 2 * k ≤ 300) → (RowsC g ad G (2, true, ro2, rs)) → (ROK (2, true, ro2, rs)) → (rs 0 = st 0) → (rs 1 = stepV h (st 0) x) → (ro2 0 = some x) → (x < 100) → (mayM h (st 0) x = true) → (nx (ro2 1) ≤ 100) → (rem = (L1 h (stepV h (st 0) x) (nx (ro2 1))).map (fun z => [x, z]) ++ L2 h (st 0) (x + 1)) → (Same 157 175 F G) → ∀ (H : Heap) (locs : List Loc) (ls : Array Slot), Cu g lo 196 ad G ss ss.heap H locs → lv_has ls 4 [(3, .int (nI t)), (2, .int (nI 1)), (0, .ref (ad (157)))] → W pp l ee { frames := 4, cells := 0, slots := 0, locals := 93 } ss mm ([.ref (ad (157))] : List Value).toArray below meth cc H locs 0 0 (MQ below (va_Qi (fun r F' => Same 157 175 F F' ∧ ((r = bI false ∧ rem = [] ∧ ∃ v', RowsC g ad F' v' ∧ ROK v' ∧ rmv v' = 2 ∧ rst v' 0 = st 0) ∨ ∃ e es v', r = bI true ∧ rem = e :: es ∧ RowsC g ad F' v' ∧ RIt h (st 0) v' es ∧ Cur h (st 0) v' e ∧ rmv v' = 2)) (fun F' t => Wd g lo 196 ad F' t) (fun q => lo ≤ q)) ([.ref (ad (157))] : List Value).toArray ss 0 0 (fun q => lo ≤ q)) (F0 mm 55 ls []) := by
      intro k
      induction k with
      | zero =>
        intro t ro2 rs x G hk ht hRG okG hrs0 hrs1 hro0 hx hmx hn1 hrem2 hs H locs ls hC hl
        obtain ⟨r0, r1, r2, rL⟩ := id hRG
        have g0G : G 3 = .inr (2, [.ref (ad (4)), .ref (ad (5)), .ref (ad (6)), .ref (ad (7)), .int (nI (hn h)), .int (nI (hpu h)), .int (nI (hho h))]) := (hs 3 (by omega)).trans g0
        refine lv_iload_n B.1 B.2.1 dX4_next_55 rfl (lv_at hl 0 rfl) ?_
        refine lv_ldc (own := RX4) (v := nI 1000000) B.1 B.2.1 B.2.2.2.1 (B.2.2.2.2.1 (.constant RX4 53 (1000000)) (by decide +kernel)) dX4_next_56 ?_
        refine lv_icmp_ge (tgt := 115) B.1 B.2.1 dX4_next_58 (by decide) (fun z => absurd z (nI_ge (by omega) (by omega))) (fun _ => ?_)
        refine lv_iload_n B.1 B.2.1 dX4_next_61 rfl (lv_at hl 1 rfl) ?_
        refine lv_if_lt (tgt := 115) B.1 B.2.1 dX4_next_62 (by decide) (fun z => absurd z (nI_pos (by omega))) (fun _ => ?_)
        refine lv_iload_n B.1 B.2.1 dX4_next_65 rfl (lv_at hl 1 rfl) ?_
        refine lv_aload_n B.1 B.2.1 dX4_next_66 rfl (lv_at hl 2 rfl) ?_
        refine r_cg B hC (i := 157) (by decide) r0 (C := RX4) (T := TX4) (n := 5) rfl iwX4_next_X4 3 (by decide) (index := 21) flX4_next_21 rfl (v := .int (nI 2)) rfl dX4_next_67 ?_
        refine lv_icmp_ge (tgt := 115) B.1 B.2.1 dX4_next_70 (by decide) (fun z => absurd z (nI_ge (by omega) (by omega))) (fun _ => ?_)
        refine lv_aload_n B.1 B.2.1 dX4_next_73 rfl (lv_at hl 2 rfl) ?_
        refine lv_iload_n B.1 B.2.1 dX4_next_74 rfl (lv_at hl 1 rfl) ?_
        have hRn1_1 : RowsC g ad G (2, true, ro2, rs) := (show RowsC g ad G (2, true, ro2, rs) from ⟨r0, r1, r2, fun k hk => (rL k hk).at (fun i h1 h2 => by rfl)⟩)
        have okn1_1 : ROK (2, true, ro2, rs) := okG
        refine r_calli B hC hl.1 (157) 4 rfl rfl (by decide) r0 (As := [.int (nI 1)]) (ctX4_makeNextMove l g lo ad (HullC.keep hH (x := 157) (y := 175) (fun i hi => by rw [hs i (by omega)]) (by decide)) ok hRn1_1 okn1_1 (a := 1) (by decide) (show LOK h (rs 1) by rw [show rs 1 = stepV h (st 0) x from hrs1]; exact LOK_step ok hw hx hmx) (by rw [show nx (rro (2, true, ro2, rs) 1) = nx (ro2 1) from rfl]; omega)) gX4_next_X4_makeNextMove rfl (n := 1) rfl (by decide +kernel) ⟨Nat.le_of_ble_eq_true rfl, Nat.le_of_ble_eq_true rfl⟩ ⟨Nat.zero_le _, Nat.zero_le _⟩ rfl (Nat.le_of_ble_eq_true rfl) dX4_next_75 (fun r75 F21 H locs hp75 hC => ?_)
        rcases hp75 with ⟨er, hM, eF⟩ | ⟨m1, er, hge1, hlt1, hM, hmay1, hR_F21, hs_F21⟩
        · subst er
          rw [eF] at hC
          have hN1 : L1 h (stepV h (st 0) x) (nx (ro2 1)) = [] := by rw [show nx (rro (2, true, ro2, rs) 1) = nx (ro2 1) from rfl, show rst (2, true, ro2, rs) 1 = stepV h (st 0) x from (show rs 1 = stepV h (st 0) x from hrs1)] at hM; exact hM
          refine lv_if_ne (tgt := 87) B.1 B.2.1 dX4_next_78 (by decide) (fun z => absurd (by decide) z) (fun _ => ?_)
          refine lv_iinc (v := nI 0) (lv' := [(2, .int (nI 0)), (3, .int (nI t)), (0, .ref (ad (157)))]) B.1 B.2.1 dX4_next_81 hl (k := 1) rfl (by decide) (by decide) rfl (fun ls hl => ?_)
          refine lv_goto (tgt := 109) B.1 B.2.1 dX4_next_84 (by decide) ?_
          refine lv_iinc (v := nI (t + 1)) (lv' := [(3, .int (nI (t + 1))), (2, .int (nI 0)), (0, .ref (ad (157)))]) B.1 B.2.1 dX4_next_109 hl (k := 1) rfl (nI_1 _) (by decide) rfl (fun ls hl => ?_)
          refine lv_goto (tgt := 55) B.1 B.2.1 dX4_next_112 (by decide) ?_
          refine lv_iload_n B.1 B.2.1 dX4_next_55 rfl (lv_at hl 0 rfl) ?_
          refine lv_ldc (own := RX4) (v := nI 1000000) B.1 B.2.1 B.2.2.2.1 (B.2.2.2.2.1 (.constant RX4 53 (1000000)) (by decide +kernel)) dX4_next_56 ?_
          refine lv_icmp_ge (tgt := 115) B.1 B.2.1 dX4_next_58 (by decide) (fun z => absurd z (nI_ge (by omega) (by omega))) (fun _ => ?_)
          refine lv_iload_n B.1 B.2.1 dX4_next_61 rfl (lv_at hl 1 rfl) ?_
          refine lv_if_lt (tgt := 115) B.1 B.2.1 dX4_next_62 (by decide) (fun z => absurd z (nI_pos (by omega))) (fun _ => ?_)
          refine lv_iload_n B.1 B.2.1 dX4_next_65 rfl (lv_at hl 1 rfl) ?_
          refine lv_aload_n B.1 B.2.1 dX4_next_66 rfl (lv_at hl 2 rfl) ?_
          refine r_cg B hC (i := 157) (by decide) r0 (C := RX4) (T := TX4) (n := 5) rfl iwX4_next_X4 3 (by decide) (index := 21) flX4_next_21 rfl (v := .int (nI 2)) rfl dX4_next_67 ?_
          refine lv_icmp_ge (tgt := 115) B.1 B.2.1 dX4_next_70 (by decide) (fun z => absurd z (nI_ge (by omega) (by omega))) (fun _ => ?_)
          refine lv_aload_n B.1 B.2.1 dX4_next_73 rfl (lv_at hl 2 rfl) ?_
          refine lv_iload_n B.1 B.2.1 dX4_next_74 rfl (lv_at hl 1 rfl) ?_
          have hRn1_0 : RowsC g ad G (2, true, ro2, rs) := (show RowsC g ad G (2, true, ro2, rs) from ⟨r0, r1, r2, fun k hk => (rL k hk).at (fun i h1 h2 => by rfl)⟩)
          have okn1_0 : ROK (2, true, ro2, rs) := okG
          refine r_calli B hC hl.1 (157) 4 rfl rfl (by decide) r0 (As := [.int (nI 0)]) (ctX4_makeNextMove l g lo ad (HullC.keep hH (x := 157) (y := 175) (fun i hi => by rw [hs i (by omega)]) (by decide)) ok hRn1_0 okn1_0 (a := 0) (by decide) (show LOK h (rs 0) by rw [show rs 0 = st 0 from hrs0]; exact hw) (by rw [show nx (rro (2, true, ro2, rs) 0) = x + 1 from (show nx (ro2 0) = x + 1 by rw [hro0]; rfl)]; omega)) gX4_next_X4_makeNextMove rfl (n := 1) rfl (by decide +kernel) ⟨Nat.le_of_ble_eq_true rfl, Nat.le_of_ble_eq_true rfl⟩ ⟨Nat.zero_le _, Nat.zero_le _⟩ rfl (Nat.le_of_ble_eq_true rfl) dX4_next_75 (fun r75 F21 H locs hp75 hC => ?_)
          rcases hp75 with ⟨er, hM, eF⟩ | ⟨m0, er, hge0, hlt0, hM, hmay0, hR_F21, hs_F21⟩
          · subst er
            rw [eF] at hC
            have hN0 : L1 h (st 0) (x + 1) = [] := by rw [show nx (rro (2, true, ro2, rs) 0) = x + 1 from (show nx (ro2 0) = x + 1 by rw [hro0]; rfl), show rst (2, true, ro2, rs) 0 = st 0 from (show rs 0 = st 0 from hrs0)] at hM; exact hM
            refine lv_if_ne (tgt := 87) B.1 B.2.1 dX4_next_78 (by decide) (fun z => absurd (by decide) z) (fun _ => ?_)
            refine lv_iinc (v := (-1)) (lv' := [(2, .int ((-1))), (3, .int (nI (t + 1))), (0, .ref (ad (157)))]) B.1 B.2.1 dX4_next_81 hl (k := 1) rfl (by decide) (by decide) rfl (fun ls hl => ?_)
            refine lv_goto (tgt := 109) B.1 B.2.1 dX4_next_84 (by decide) ?_
            refine lv_iinc (v := nI ((t + 1) + 1)) (lv' := [(3, .int (nI ((t + 1) + 1))), (2, .int ((-1))), (0, .ref (ad (157)))]) B.1 B.2.1 dX4_next_109 hl (k := 1) rfl (nI_1 _) (by decide) rfl (fun ls hl => ?_)
            refine lv_goto (tgt := 55) B.1 B.2.1 dX4_next_112 (by decide) ?_
            refine lv_iload_n B.1 B.2.1 dX4_next_55 rfl (lv_at hl 0 rfl) ?_
            refine lv_ldc (own := RX4) (v := nI 1000000) B.1 B.2.1 B.2.2.2.1 (B.2.2.2.2.1 (.constant RX4 53 (1000000)) (by decide +kernel)) dX4_next_56 ?_
            refine lv_icmp_ge (tgt := 115) B.1 B.2.1 dX4_next_58 (by decide) (fun z => absurd z (nI_ge (by omega) (by omega))) (fun _ => ?_)
            refine lv_iload_n B.1 B.2.1 dX4_next_61 rfl (lv_at hl 1 rfl) ?_
            refine lv_if_lt (tgt := 115) B.1 B.2.1 dX4_next_62 (by decide) (fun _ => ?_) (fun z => absurd (by decide) z)
            refine lv_iconst (v := nI 0) B.1 B.2.1 dX4_next_115 (by decide) ?_
            exact r_eZ B hC (v := nI 0) (rfl) (⟨fun i hi => by rw [hs i (by omega)], Or.inl ⟨by decide, by rw [hrem2, hN1, L2_nil hN0]; rfl, (2, true, ro2, rs), (show RowsC g ad G (2, true, ro2, rs) from ⟨r0, r1, r2, fun k hk => (rL k hk).at (fun i h1 h2 => by rfl)⟩), okG, rfl, (show rs 0 = st 0 from hrs0)⟩⟩) dX4_next_116
          · subst er
            rw [show nx (rro (2, true, ro2, rs) 0) = x + 1 from (show nx (ro2 0) = x + 1 by rw [hro0]; rfl)] at hge0
            have hY0 : L1 h (st 0) (x + 1) = m0 :: L1 h (st 0) (m0 + 1) := by rw [show nx (rro (2, true, ro2, rs) 0) = x + 1 from (show nx (ro2 0) = x + 1 by rw [hro0]; rfl), show rst (2, true, ro2, rs) 0 = st 0 from (show rs 0 = st 0 from hrs0)] at hM; exact hM
            have hmy0 : mayM h (st 0) m0 = true := by rw [show rst (2, true, ro2, rs) 0 = st 0 from (show rs 0 = st 0 from hrs0)] at hmay0; exact hmay0
            have hR_F21 : RowsC g ad F21 (2, true, (va_up ro2 0 (some m0)), (va_up rs 1 (stepV h (st 0) m0))) := by rw [show rst (2, true, ro2, rs) 0 = st 0 from (show rs 0 = st 0 from hrs0)] at hR_F21; exact hR_F21
            obtain ⟨r0_F21, r1_F21, r2_F21, rL_F21⟩ := id hR_F21
            have lok1_F21 : LOK h (stepV h (st 0) m0) := LOK_step ok (hw) hlt0 hmy0
            have g0_F21 : F21 3 = .inr (2, [.ref (ad (4)), .ref (ad (5)), .ref (ad (6)), .ref (ad (7)), .int (nI (hn h)), .int (nI (hpu h)), .int (nI (hho h))]) := (hs_F21 _ (by omega)).trans g0G
            refine lv_if_ne (tgt := 87) B.1 B.2.1 dX4_next_78 (by decide) (fun _ => ?_) (fun z => absurd z (by decide))
            refine lv_iload_n B.1 B.2.1 dX4_next_87 rfl (lv_at hl 1 rfl) ?_
            refine lv_aload_n B.1 B.2.1 dX4_next_88 rfl (lv_at hl 2 rfl) ?_
            refine r_cg B hC (i := 157) (by decide) r0_F21 (C := RX4) (T := TX4) (n := 5) rfl iwX4_next_X4 3 (by decide) (index := 21) flX4_next_21 rfl (v := .int (nI 2)) rfl dX4_next_89 ?_
            refine lv_iconst (v := nI 1) B.1 B.2.1 dX4_next_92 (by decide) ?_
            refine lv_isub B.1 B.2.1 dX4_next_93 ?_
            refine r_tI (y := nI 1) (by decide) ?_
            refine lv_icmp_ne (tgt := 99) B.1 B.2.1 dX4_next_94 (by decide) (fun _ => ?_) (fun z => absurd z (fun z => absurd ((nI_eq (by omega) (by omega)).mp z) (by omega)))
            refine lv_iinc (v := nI 1) (lv' := [(2, .int (nI 1)), (3, .int (nI (t + 1))), (0, .ref (ad (157)))]) B.1 B.2.1 dX4_next_99 hl (k := 1) rfl (by decide) (by decide) rfl (fun ls hl => ?_)
            refine lv_aload_n B.1 B.2.1 dX4_next_102 rfl (lv_at hl 2 rfl) ?_
            refine r_cg B hC (i := 157) (by decide) r0_F21 (C := RX4) (T := TX4) (n := 5) rfl iwX4_next_X4 2 (by decide) (index := 17) flX4_next_17 rfl (v := .ref (ad (159))) rfl dX4_next_103 ?_
            refine lv_iload_n B.1 B.2.1 dX4_next_106 rfl (lv_at hl 0 rfl) ?_
            refine lv_iconst (v := (-1)) B.1 B.2.1 dX4_next_107 (by decide) ?_
            refine r_cast B hC (i := 159) (by decide) r2_F21 (j := 1) (by omega) (by decide) dX4_next_108 ?_
            intro H locs hC
            obtain ⟨F22, eF22⟩ : ∃ f : Nat → va_E, f = va_up F21 (159) (.inl (g.2.2 0, 2, .inl (fun j => y1 ((va_up (va_up ro2 0 (some m0)) 1 none) j)))) := ⟨_, rfl⟩
            have hC : Cu g lo 196 ad F22 ss ss.heap H locs := by rw [eF22]; exact (by rw [← upd_y1 (va_up ro2 0 (some m0)) 1 none]; exact hC)
            have k159_F22 : F22 159 = .inl (g.2.2 0, 2, .inl (fun j => y1 ((va_up (va_up ro2 0 (some m0)) 1 none) j))) := by rw [eF22]; exact va_up_self _ _ _
            have r0_F22 : F22 157 = .inr (4, [.ref (ad (3)), .ref (ad (158)), .ref (ad (159)), .int (nI 2), .int (bI true)]) := by rw [eF22, va_up_ne _ _ (by decide)]; exact r0_F21
            have r1_F22 : F22 158 = .inl (g.2.2 4, 3, .inr (.inr (.inr (.inr (fun k => some (ad (160 + 5 * k))))))) := by rw [eF22, va_up_ne _ _ (by decide)]; exact r1_F21
            have g0_F22 : F22 3 = .inr (2, [.ref (ad (4)), .ref (ad (5)), .ref (ad (6)), .ref (ad (7)), .int (nI (hn h)), .int (nI (hpu h)), .int (nI (hho h))]) := by rw [eF22, va_up_ne _ _ (by decide)]; exact g0_F21
            refine lv_iinc (v := nI ((t + 1) + 1)) (lv' := [(3, .int (nI ((t + 1) + 1))), (2, .int (nI 1)), (0, .ref (ad (157)))]) B.1 B.2.1 dX4_next_109 hl (k := 1) rfl (nI_1 _) (by decide) rfl (fun ls hl => ?_)
            refine lv_goto (tgt := 55) B.1 B.2.1 dX4_next_112 (by decide) ?_
            exact absurd hlt0 (by omega)
        · subst er
          rw [show nx (rro (2, true, ro2, rs) 1) = nx (ro2 1) from rfl] at hge1
          have hY1 : L1 h (stepV h (st 0) x) (nx (ro2 1)) = m1 :: L1 h (stepV h (st 0) x) (m1 + 1) := by rw [show nx (rro (2, true, ro2, rs) 1) = nx (ro2 1) from rfl, show rst (2, true, ro2, rs) 1 = stepV h (st 0) x from (show rs 1 = stepV h (st 0) x from hrs1)] at hM; exact hM
          have hmy1 : mayM h (stepV h (st 0) x) m1 = true := by rw [show rst (2, true, ro2, rs) 1 = stepV h (st 0) x from (show rs 1 = stepV h (st 0) x from hrs1)] at hmay1; exact hmay1
          have hR_F21 : RowsC g ad F21 (2, true, (va_up ro2 1 (some m1)), (va_up rs 2 (stepV h (stepV h (st 0) x) m1))) := by rw [show rst (2, true, ro2, rs) 1 = stepV h (st 0) x from (show rs 1 = stepV h (st 0) x from hrs1)] at hR_F21; exact hR_F21
          obtain ⟨r0_F21, r1_F21, r2_F21, rL_F21⟩ := id hR_F21
          have lok2_F21 : LOK h (stepV h (stepV h (st 0) x) m1) := LOK_step ok (LOK_step ok hw hx hmx) hlt1 hmy1
          have g0_F21 : F21 3 = .inr (2, [.ref (ad (4)), .ref (ad (5)), .ref (ad (6)), .ref (ad (7)), .int (nI (hn h)), .int (nI (hpu h)), .int (nI (hho h))]) := (hs_F21 _ (by omega)).trans g0G
          refine lv_if_ne (tgt := 87) B.1 B.2.1 dX4_next_78 (by decide) (fun _ => ?_) (fun z => absurd z (by decide))
          refine lv_iload_n B.1 B.2.1 dX4_next_87 rfl (lv_at hl 1 rfl) ?_
          refine lv_aload_n B.1 B.2.1 dX4_next_88 rfl (lv_at hl 2 rfl) ?_
          refine r_cg B hC (i := 157) (by decide) r0_F21 (C := RX4) (T := TX4) (n := 5) rfl iwX4_next_X4 3 (by decide) (index := 21) flX4_next_21 rfl (v := .int (nI 2)) rfl dX4_next_89 ?_
          refine lv_iconst (v := nI 1) B.1 B.2.1 dX4_next_92 (by decide) ?_
          refine lv_isub B.1 B.2.1 dX4_next_93 ?_
          refine r_tI (y := nI 1) (by decide) ?_
          refine lv_icmp_ne (tgt := 99) B.1 B.2.1 dX4_next_94 (by decide) (fun z => absurd ((nI_eq (by omega) (by omega)).mpr (by omega)) z) (fun _ => ?_)
          refine lv_iconst (v := nI 1) B.1 B.2.1 dX4_next_97 (by decide) ?_
          exact r_eZ B hC (v := nI 1) (rfl) (⟨fun i hi => by rw [hs_F21 i (by omega)]; rw [hs i (by omega)], Or.inr ⟨[x, m1], (L1 h (stepV h (st 0) x) (m1 + 1)).map (fun z => [x, z]) ++ L2 h (st 0) (x + 1), (2, true, (va_up ro2 1 (some m1)), (va_up rs 2 (stepV h (stepV h (st 0) x) m1))), by decide, by rw [hrem2, hY1]; rfl, (show RowsC g ad F21 (2, true, (va_up ro2 1 (some m1)), (va_up rs 2 (stepV h (stepV h (st 0) x) m1))) from ⟨r0_F21, r1_F21, r2_F21, fun k hk => (rL_F21 k hk).at (fun i h1 h2 => by rfl)⟩), ⟨hw, (show (va_up rs 2 (stepV h (stepV h (st 0) x) m1)) 0 = st 0 from (va_up_ne _ _ (by decide)).trans ((show rs 0 = st 0 from hrs0))), ROK_up (a := 0) (b := true) (r := ro) (okn1_1) rfl (lok2_F21).can _ _ _, by show 2 ≤ 2; decide, Or.inr ⟨rfl, Or.inr (Or.inr ⟨rfl, x, m1, show va_up ro2 1 (some m1) 0 = some x from (va_up_ne _ _ (by decide)).trans hro0, hx, hmx, (show (va_up rs 2 (stepV h (stepV h (st 0) x) m1)) 1 = stepV h (st 0) x from (va_up_ne _ _ (by decide)).trans hrs1), show va_up ro2 1 (some m1) 1 = some m1 from va_up_self _ _ _, hlt1, rfl⟩)⟩⟩, ⟨rfl, fun j hj => by
          have z : j < 2 := hj
          rcases (show j = 0 ∨ j = 1 by omega) with rfl | rfl
          · exact (show va_up ro2 1 (some m1) 0 = some x from (va_up_ne _ _ (by decide)).trans hro0)
          · exact (show va_up ro2 1 (some m1) 1 = some m1 from va_up_self _ _ _), show va_up rs 2 (stepV h (stepV h (st 0) x) m1) 2 = _ from va_up_self _ _ _, lok2_F21, fun y hy => by
          rcases List.mem_cons.mp hy with rfl | hy
          · exact hx
          · rw [List.mem_singleton.mp hy]; exact hlt1⟩, rfl⟩⟩) dX4_next_98
      | succ k ih55 =>
        intro t ro2 rs x G hk ht hRG okG hrs0 hrs1 hro0 hx hmx hn1 hrem2 hs H locs ls hC hl
        obtain ⟨r0, r1, r2, rL⟩ := id hRG
        have g0G : G 3 = .inr (2, [.ref (ad (4)), .ref (ad (5)), .ref (ad (6)), .ref (ad (7)), .int (nI (hn h)), .int (nI (hpu h)), .int (nI (hho h))]) := (hs 3 (by omega)).trans g0
        refine lv_iload_n B.1 B.2.1 dX4_next_55 rfl (lv_at hl 0 rfl) ?_
        refine lv_ldc (own := RX4) (v := nI 1000000) B.1 B.2.1 B.2.2.2.1 (B.2.2.2.2.1 (.constant RX4 53 (1000000)) (by decide +kernel)) dX4_next_56 ?_
        refine lv_icmp_ge (tgt := 115) B.1 B.2.1 dX4_next_58 (by decide) (fun z => absurd z (nI_ge (by omega) (by omega))) (fun _ => ?_)
        refine lv_iload_n B.1 B.2.1 dX4_next_61 rfl (lv_at hl 1 rfl) ?_
        refine lv_if_lt (tgt := 115) B.1 B.2.1 dX4_next_62 (by decide) (fun z => absurd z (nI_pos (by omega))) (fun _ => ?_)
        refine lv_iload_n B.1 B.2.1 dX4_next_65 rfl (lv_at hl 1 rfl) ?_
        refine lv_aload_n B.1 B.2.1 dX4_next_66 rfl (lv_at hl 2 rfl) ?_
        refine r_cg B hC (i := 157) (by decide) r0 (C := RX4) (T := TX4) (n := 5) rfl iwX4_next_X4 3 (by decide) (index := 21) flX4_next_21 rfl (v := .int (nI 2)) rfl dX4_next_67 ?_
        refine lv_icmp_ge (tgt := 115) B.1 B.2.1 dX4_next_70 (by decide) (fun z => absurd z (nI_ge (by omega) (by omega))) (fun _ => ?_)
        refine lv_aload_n B.1 B.2.1 dX4_next_73 rfl (lv_at hl 2 rfl) ?_
        refine lv_iload_n B.1 B.2.1 dX4_next_74 rfl (lv_at hl 1 rfl) ?_
        have hRn1_1 : RowsC g ad G (2, true, ro2, rs) := (show RowsC g ad G (2, true, ro2, rs) from ⟨r0, r1, r2, fun k hk => (rL k hk).at (fun i h1 h2 => by rfl)⟩)
        have okn1_1 : ROK (2, true, ro2, rs) := okG
        refine r_calli B hC hl.1 (157) 4 rfl rfl (by decide) r0 (As := [.int (nI 1)]) (ctX4_makeNextMove l g lo ad (HullC.keep hH (x := 157) (y := 175) (fun i hi => by rw [hs i (by omega)]) (by decide)) ok hRn1_1 okn1_1 (a := 1) (by decide) (show LOK h (rs 1) by rw [show rs 1 = stepV h (st 0) x from hrs1]; exact LOK_step ok hw hx hmx) (by rw [show nx (rro (2, true, ro2, rs) 1) = nx (ro2 1) from rfl]; omega)) gX4_next_X4_makeNextMove rfl (n := 1) rfl (by decide +kernel) ⟨Nat.le_of_ble_eq_true rfl, Nat.le_of_ble_eq_true rfl⟩ ⟨Nat.zero_le _, Nat.zero_le _⟩ rfl (Nat.le_of_ble_eq_true rfl) dX4_next_75 (fun r75 F21 H locs hp75 hC => ?_)
        rcases hp75 with ⟨er, hM, eF⟩ | ⟨m1, er, hge1, hlt1, hM, hmay1, hR_F21, hs_F21⟩
        · subst er
          rw [eF] at hC
          have hN1 : L1 h (stepV h (st 0) x) (nx (ro2 1)) = [] := by rw [show nx (rro (2, true, ro2, rs) 1) = nx (ro2 1) from rfl, show rst (2, true, ro2, rs) 1 = stepV h (st 0) x from (show rs 1 = stepV h (st 0) x from hrs1)] at hM; exact hM
          refine lv_if_ne (tgt := 87) B.1 B.2.1 dX4_next_78 (by decide) (fun z => absurd (by decide) z) (fun _ => ?_)
          refine lv_iinc (v := nI 0) (lv' := [(2, .int (nI 0)), (3, .int (nI t)), (0, .ref (ad (157)))]) B.1 B.2.1 dX4_next_81 hl (k := 1) rfl (by decide) (by decide) rfl (fun ls hl => ?_)
          refine lv_goto (tgt := 109) B.1 B.2.1 dX4_next_84 (by decide) ?_
          refine lv_iinc (v := nI (t + 1)) (lv' := [(3, .int (nI (t + 1))), (2, .int (nI 0)), (0, .ref (ad (157)))]) B.1 B.2.1 dX4_next_109 hl (k := 1) rfl (nI_1 _) (by decide) rfl (fun ls hl => ?_)
          refine lv_goto (tgt := 55) B.1 B.2.1 dX4_next_112 (by decide) ?_
          refine lv_iload_n B.1 B.2.1 dX4_next_55 rfl (lv_at hl 0 rfl) ?_
          refine lv_ldc (own := RX4) (v := nI 1000000) B.1 B.2.1 B.2.2.2.1 (B.2.2.2.2.1 (.constant RX4 53 (1000000)) (by decide +kernel)) dX4_next_56 ?_
          refine lv_icmp_ge (tgt := 115) B.1 B.2.1 dX4_next_58 (by decide) (fun z => absurd z (nI_ge (by omega) (by omega))) (fun _ => ?_)
          refine lv_iload_n B.1 B.2.1 dX4_next_61 rfl (lv_at hl 1 rfl) ?_
          refine lv_if_lt (tgt := 115) B.1 B.2.1 dX4_next_62 (by decide) (fun z => absurd z (nI_pos (by omega))) (fun _ => ?_)
          refine lv_iload_n B.1 B.2.1 dX4_next_65 rfl (lv_at hl 1 rfl) ?_
          refine lv_aload_n B.1 B.2.1 dX4_next_66 rfl (lv_at hl 2 rfl) ?_
          refine r_cg B hC (i := 157) (by decide) r0 (C := RX4) (T := TX4) (n := 5) rfl iwX4_next_X4 3 (by decide) (index := 21) flX4_next_21 rfl (v := .int (nI 2)) rfl dX4_next_67 ?_
          refine lv_icmp_ge (tgt := 115) B.1 B.2.1 dX4_next_70 (by decide) (fun z => absurd z (nI_ge (by omega) (by omega))) (fun _ => ?_)
          refine lv_aload_n B.1 B.2.1 dX4_next_73 rfl (lv_at hl 2 rfl) ?_
          refine lv_iload_n B.1 B.2.1 dX4_next_74 rfl (lv_at hl 1 rfl) ?_
          have hRn1_0 : RowsC g ad G (2, true, ro2, rs) := (show RowsC g ad G (2, true, ro2, rs) from ⟨r0, r1, r2, fun k hk => (rL k hk).at (fun i h1 h2 => by rfl)⟩)
          have okn1_0 : ROK (2, true, ro2, rs) := okG
          refine r_calli B hC hl.1 (157) 4 rfl rfl (by decide) r0 (As := [.int (nI 0)]) (ctX4_makeNextMove l g lo ad (HullC.keep hH (x := 157) (y := 175) (fun i hi => by rw [hs i (by omega)]) (by decide)) ok hRn1_0 okn1_0 (a := 0) (by decide) (show LOK h (rs 0) by rw [show rs 0 = st 0 from hrs0]; exact hw) (by rw [show nx (rro (2, true, ro2, rs) 0) = x + 1 from (show nx (ro2 0) = x + 1 by rw [hro0]; rfl)]; omega)) gX4_next_X4_makeNextMove rfl (n := 1) rfl (by decide +kernel) ⟨Nat.le_of_ble_eq_true rfl, Nat.le_of_ble_eq_true rfl⟩ ⟨Nat.zero_le _, Nat.zero_le _⟩ rfl (Nat.le_of_ble_eq_true rfl) dX4_next_75 (fun r75 F21 H locs hp75 hC => ?_)
          rcases hp75 with ⟨er, hM, eF⟩ | ⟨m0, er, hge0, hlt0, hM, hmay0, hR_F21, hs_F21⟩
          · subst er
            rw [eF] at hC
            have hN0 : L1 h (st 0) (x + 1) = [] := by rw [show nx (rro (2, true, ro2, rs) 0) = x + 1 from (show nx (ro2 0) = x + 1 by rw [hro0]; rfl), show rst (2, true, ro2, rs) 0 = st 0 from (show rs 0 = st 0 from hrs0)] at hM; exact hM
            refine lv_if_ne (tgt := 87) B.1 B.2.1 dX4_next_78 (by decide) (fun z => absurd (by decide) z) (fun _ => ?_)
            refine lv_iinc (v := (-1)) (lv' := [(2, .int ((-1))), (3, .int (nI (t + 1))), (0, .ref (ad (157)))]) B.1 B.2.1 dX4_next_81 hl (k := 1) rfl (by decide) (by decide) rfl (fun ls hl => ?_)
            refine lv_goto (tgt := 109) B.1 B.2.1 dX4_next_84 (by decide) ?_
            refine lv_iinc (v := nI ((t + 1) + 1)) (lv' := [(3, .int (nI ((t + 1) + 1))), (2, .int ((-1))), (0, .ref (ad (157)))]) B.1 B.2.1 dX4_next_109 hl (k := 1) rfl (nI_1 _) (by decide) rfl (fun ls hl => ?_)
            refine lv_goto (tgt := 55) B.1 B.2.1 dX4_next_112 (by decide) ?_
            refine lv_iload_n B.1 B.2.1 dX4_next_55 rfl (lv_at hl 0 rfl) ?_
            refine lv_ldc (own := RX4) (v := nI 1000000) B.1 B.2.1 B.2.2.2.1 (B.2.2.2.2.1 (.constant RX4 53 (1000000)) (by decide +kernel)) dX4_next_56 ?_
            refine lv_icmp_ge (tgt := 115) B.1 B.2.1 dX4_next_58 (by decide) (fun z => absurd z (nI_ge (by omega) (by omega))) (fun _ => ?_)
            refine lv_iload_n B.1 B.2.1 dX4_next_61 rfl (lv_at hl 1 rfl) ?_
            refine lv_if_lt (tgt := 115) B.1 B.2.1 dX4_next_62 (by decide) (fun _ => ?_) (fun z => absurd (by decide) z)
            refine lv_iconst (v := nI 0) B.1 B.2.1 dX4_next_115 (by decide) ?_
            exact r_eZ B hC (v := nI 0) (rfl) (⟨fun i hi => by rw [hs i (by omega)], Or.inl ⟨by decide, by rw [hrem2, hN1, L2_nil hN0]; rfl, (2, true, ro2, rs), (show RowsC g ad G (2, true, ro2, rs) from ⟨r0, r1, r2, fun k hk => (rL k hk).at (fun i h1 h2 => by rfl)⟩), okG, rfl, (show rs 0 = st 0 from hrs0)⟩⟩) dX4_next_116
          · subst er
            rw [show nx (rro (2, true, ro2, rs) 0) = x + 1 from (show nx (ro2 0) = x + 1 by rw [hro0]; rfl)] at hge0
            have hY0 : L1 h (st 0) (x + 1) = m0 :: L1 h (st 0) (m0 + 1) := by rw [show nx (rro (2, true, ro2, rs) 0) = x + 1 from (show nx (ro2 0) = x + 1 by rw [hro0]; rfl), show rst (2, true, ro2, rs) 0 = st 0 from (show rs 0 = st 0 from hrs0)] at hM; exact hM
            have hmy0 : mayM h (st 0) m0 = true := by rw [show rst (2, true, ro2, rs) 0 = st 0 from (show rs 0 = st 0 from hrs0)] at hmay0; exact hmay0
            have hR_F21 : RowsC g ad F21 (2, true, (va_up ro2 0 (some m0)), (va_up rs 1 (stepV h (st 0) m0))) := by rw [show rst (2, true, ro2, rs) 0 = st 0 from (show rs 0 = st 0 from hrs0)] at hR_F21; exact hR_F21
            obtain ⟨r0_F21, r1_F21, r2_F21, rL_F21⟩ := id hR_F21
            have lok1_F21 : LOK h (stepV h (st 0) m0) := LOK_step ok (hw) hlt0 hmy0
            have g0_F21 : F21 3 = .inr (2, [.ref (ad (4)), .ref (ad (5)), .ref (ad (6)), .ref (ad (7)), .int (nI (hn h)), .int (nI (hpu h)), .int (nI (hho h))]) := (hs_F21 _ (by omega)).trans g0G
            refine lv_if_ne (tgt := 87) B.1 B.2.1 dX4_next_78 (by decide) (fun _ => ?_) (fun z => absurd z (by decide))
            refine lv_iload_n B.1 B.2.1 dX4_next_87 rfl (lv_at hl 1 rfl) ?_
            refine lv_aload_n B.1 B.2.1 dX4_next_88 rfl (lv_at hl 2 rfl) ?_
            refine r_cg B hC (i := 157) (by decide) r0_F21 (C := RX4) (T := TX4) (n := 5) rfl iwX4_next_X4 3 (by decide) (index := 21) flX4_next_21 rfl (v := .int (nI 2)) rfl dX4_next_89 ?_
            refine lv_iconst (v := nI 1) B.1 B.2.1 dX4_next_92 (by decide) ?_
            refine lv_isub B.1 B.2.1 dX4_next_93 ?_
            refine r_tI (y := nI 1) (by decide) ?_
            refine lv_icmp_ne (tgt := 99) B.1 B.2.1 dX4_next_94 (by decide) (fun _ => ?_) (fun z => absurd z (fun z => absurd ((nI_eq (by omega) (by omega)).mp z) (by omega)))
            refine lv_iinc (v := nI 1) (lv' := [(2, .int (nI 1)), (3, .int (nI (t + 1))), (0, .ref (ad (157)))]) B.1 B.2.1 dX4_next_99 hl (k := 1) rfl (by decide) (by decide) rfl (fun ls hl => ?_)
            refine lv_aload_n B.1 B.2.1 dX4_next_102 rfl (lv_at hl 2 rfl) ?_
            refine r_cg B hC (i := 157) (by decide) r0_F21 (C := RX4) (T := TX4) (n := 5) rfl iwX4_next_X4 2 (by decide) (index := 17) flX4_next_17 rfl (v := .ref (ad (159))) rfl dX4_next_103 ?_
            refine lv_iload_n B.1 B.2.1 dX4_next_106 rfl (lv_at hl 0 rfl) ?_
            refine lv_iconst (v := (-1)) B.1 B.2.1 dX4_next_107 (by decide) ?_
            refine r_cast B hC (i := 159) (by decide) r2_F21 (j := 1) (by omega) (by decide) dX4_next_108 ?_
            intro H locs hC
            obtain ⟨F22, eF22⟩ : ∃ f : Nat → va_E, f = va_up F21 (159) (.inl (g.2.2 0, 2, .inl (fun j => y1 ((va_up (va_up ro2 0 (some m0)) 1 none) j)))) := ⟨_, rfl⟩
            have hC : Cu g lo 196 ad F22 ss ss.heap H locs := by rw [eF22]; exact (by rw [← upd_y1 (va_up ro2 0 (some m0)) 1 none]; exact hC)
            have k159_F22 : F22 159 = .inl (g.2.2 0, 2, .inl (fun j => y1 ((va_up (va_up ro2 0 (some m0)) 1 none) j))) := by rw [eF22]; exact va_up_self _ _ _
            have r0_F22 : F22 157 = .inr (4, [.ref (ad (3)), .ref (ad (158)), .ref (ad (159)), .int (nI 2), .int (bI true)]) := by rw [eF22, va_up_ne _ _ (by decide)]; exact r0_F21
            have r1_F22 : F22 158 = .inl (g.2.2 4, 3, .inr (.inr (.inr (.inr (fun k => some (ad (160 + 5 * k))))))) := by rw [eF22, va_up_ne _ _ (by decide)]; exact r1_F21
            have g0_F22 : F22 3 = .inr (2, [.ref (ad (4)), .ref (ad (5)), .ref (ad (6)), .ref (ad (7)), .int (nI (hn h)), .int (nI (hpu h)), .int (nI (hho h))]) := by rw [eF22, va_up_ne _ _ (by decide)]; exact g0_F21
            refine lv_iinc (v := nI ((t + 1) + 1)) (lv' := [(3, .int (nI ((t + 1) + 1))), (2, .int (nI 1)), (0, .ref (ad (157)))]) B.1 B.2.1 dX4_next_109 hl (k := 1) rfl (nI_1 _) (by decide) rfl (fun ls hl => ?_)
            refine lv_goto (tgt := 55) B.1 B.2.1 dX4_next_112 (by decide) ?_
            exact ih55 (((t + 1) + 1)) (va_up (va_up ro2 0 (some m0)) 1 none) (va_up rs 1 (stepV h (st 0) m0)) m0 F22 (by omega) (by omega) (show RowsC g ad F22 (2, true, (va_up (va_up ro2 0 (some m0)) 1 none), (va_up rs 1 (stepV h (st 0) m0))) from ⟨r0_F22, r1_F22, k159_F22, fun k hk => (rL_F21 k hk).at (fun i h1 h2 => by rw [eF22, va_up_ne _ _ (by omega)])⟩) (ROK_up (a := 0) (b := true) (r := ro) (okn1_0) rfl (lok1_F21).can _ _ _) (show (va_up rs 1 (stepV h (st 0) m0)) 0 = st 0 from (va_up_ne _ _ (by decide)).trans ((show rs 0 = st 0 from hrs0))) (show (va_up rs 1 (stepV h (st 0) m0)) 1 = stepV h (st 0) m0 from va_up_self _ _ _) ((va_up_ne _ _ (by decide)).trans (va_up_self _ _ _)) hlt0 hmy0 (by rw [show nx ((va_up (va_up ro2 0 (some m0)) 1 none) 1) = 0 by rw [va_up_self]; rfl]; exact Nat.zero_le _) (by rw [hrem2, hN1, L2_cons hY0]; rfl) (fun i hi => by rw [eF22, va_up_ne _ _ (by omega)]; rw [hs_F21 i (by omega)]; rw [hs i (by omega)]) _ _ ls hC (lv_sub hl [0, 1, 2] rfl)
        · subst er
          rw [show nx (rro (2, true, ro2, rs) 1) = nx (ro2 1) from rfl] at hge1
          have hY1 : L1 h (stepV h (st 0) x) (nx (ro2 1)) = m1 :: L1 h (stepV h (st 0) x) (m1 + 1) := by rw [show nx (rro (2, true, ro2, rs) 1) = nx (ro2 1) from rfl, show rst (2, true, ro2, rs) 1 = stepV h (st 0) x from (show rs 1 = stepV h (st 0) x from hrs1)] at hM; exact hM
          have hmy1 : mayM h (stepV h (st 0) x) m1 = true := by rw [show rst (2, true, ro2, rs) 1 = stepV h (st 0) x from (show rs 1 = stepV h (st 0) x from hrs1)] at hmay1; exact hmay1
          have hR_F21 : RowsC g ad F21 (2, true, (va_up ro2 1 (some m1)), (va_up rs 2 (stepV h (stepV h (st 0) x) m1))) := by rw [show rst (2, true, ro2, rs) 1 = stepV h (st 0) x from (show rs 1 = stepV h (st 0) x from hrs1)] at hR_F21; exact hR_F21
          obtain ⟨r0_F21, r1_F21, r2_F21, rL_F21⟩ := id hR_F21
          have lok2_F21 : LOK h (stepV h (stepV h (st 0) x) m1) := LOK_step ok (LOK_step ok hw hx hmx) hlt1 hmy1
          have g0_F21 : F21 3 = .inr (2, [.ref (ad (4)), .ref (ad (5)), .ref (ad (6)), .ref (ad (7)), .int (nI (hn h)), .int (nI (hpu h)), .int (nI (hho h))]) := (hs_F21 _ (by omega)).trans g0G
          refine lv_if_ne (tgt := 87) B.1 B.2.1 dX4_next_78 (by decide) (fun _ => ?_) (fun z => absurd z (by decide))
          refine lv_iload_n B.1 B.2.1 dX4_next_87 rfl (lv_at hl 1 rfl) ?_
          refine lv_aload_n B.1 B.2.1 dX4_next_88 rfl (lv_at hl 2 rfl) ?_
          refine r_cg B hC (i := 157) (by decide) r0_F21 (C := RX4) (T := TX4) (n := 5) rfl iwX4_next_X4 3 (by decide) (index := 21) flX4_next_21 rfl (v := .int (nI 2)) rfl dX4_next_89 ?_
          refine lv_iconst (v := nI 1) B.1 B.2.1 dX4_next_92 (by decide) ?_
          refine lv_isub B.1 B.2.1 dX4_next_93 ?_
          refine r_tI (y := nI 1) (by decide) ?_
          refine lv_icmp_ne (tgt := 99) B.1 B.2.1 dX4_next_94 (by decide) (fun z => absurd ((nI_eq (by omega) (by omega)).mpr (by omega)) z) (fun _ => ?_)
          refine lv_iconst (v := nI 1) B.1 B.2.1 dX4_next_97 (by decide) ?_
          exact r_eZ B hC (v := nI 1) (rfl) (⟨fun i hi => by rw [hs_F21 i (by omega)]; rw [hs i (by omega)], Or.inr ⟨[x, m1], (L1 h (stepV h (st 0) x) (m1 + 1)).map (fun z => [x, z]) ++ L2 h (st 0) (x + 1), (2, true, (va_up ro2 1 (some m1)), (va_up rs 2 (stepV h (stepV h (st 0) x) m1))), by decide, by rw [hrem2, hY1]; rfl, (show RowsC g ad F21 (2, true, (va_up ro2 1 (some m1)), (va_up rs 2 (stepV h (stepV h (st 0) x) m1))) from ⟨r0_F21, r1_F21, r2_F21, fun k hk => (rL_F21 k hk).at (fun i h1 h2 => by rfl)⟩), ⟨hw, (show (va_up rs 2 (stepV h (stepV h (st 0) x) m1)) 0 = st 0 from (va_up_ne _ _ (by decide)).trans ((show rs 0 = st 0 from hrs0))), ROK_up (a := 0) (b := true) (r := ro) (okn1_1) rfl (lok2_F21).can _ _ _, by show 2 ≤ 2; decide, Or.inr ⟨rfl, Or.inr (Or.inr ⟨rfl, x, m1, show va_up ro2 1 (some m1) 0 = some x from (va_up_ne _ _ (by decide)).trans hro0, hx, hmx, (show (va_up rs 2 (stepV h (stepV h (st 0) x) m1)) 1 = stepV h (st 0) x from (va_up_ne _ _ (by decide)).trans hrs1), show va_up ro2 1 (some m1) 1 = some m1 from va_up_self _ _ _, hlt1, rfl⟩)⟩⟩, ⟨rfl, fun j hj => by
          have z : j < 2 := hj
          rcases (show j = 0 ∨ j = 1 by omega) with rfl | rfl
          · exact (show va_up ro2 1 (some m1) 0 = some x from (va_up_ne _ _ (by decide)).trans hro0)
          · exact (show va_up ro2 1 (some m1) 1 = some m1 from va_up_self _ _ _), show va_up rs 2 (stepV h (stepV h (st 0) x) m1) 2 = _ from va_up_self _ _ _, lok2_F21, fun y hy => by
          rcases List.mem_cons.mp hy with rfl | hy
          · exact hx
          · rw [List.mem_singleton.mp hy]; exact hlt1⟩, rfl⟩⟩) dX4_next_98
    exact loop55 100 ((0 + 1)) (va_up (va_up (va_up ro 0 none) 0 (some m0)) 1 none) (va_up st 1 (stepV h (st 0) m0)) m0 F4 (by omega) (by omega) (show RowsC g ad F4 (2, true, (va_up (va_up (va_up ro 0 none) 0 (some m0)) 1 none), (va_up st 1 (stepV h (st 0) m0))) from ⟨r0_F4, r1_F4, k159_F4, fun k hk => (rL_F3 k hk).at (fun i h1 h2 => by rw [eF4, va_up_ne _ _ (by omega)])⟩) (ROK_up (a := 0) (b := true) (r := ro) (okn2_0) rfl (lok1_F3).can _ _ _) (show (va_up st 1 (stepV h (st 0) m0)) 0 = st 0 from (va_up_ne _ _ (by decide)).trans ((rfl : st 0 = st 0))) (show (va_up st 1 (stepV h (st 0) m0)) 1 = stepV h (st 0) m0 from va_up_self _ _ _) ((va_up_ne _ _ (by decide)).trans (va_up_self _ _ _)) hlt0 hmy0 (by rw [show nx ((va_up (va_up (va_up ro 0 none) 0 (some m0)) 1 none) 1) = 0 by rw [va_up_self]; rfl]; exact Nat.zero_le _) (by rw [hrem, show nx ((va_up (va_up (va_up ro 0 none) 0 (some m0)) 1 none) 1) = 0 by rw [va_up_self]; rfl]; exact L2_cons hY0) (fun i hi => by rw [eF4, va_up_ne _ _ (by omega)]; rw [hs_F3 i (by omega)]; rw [eF2, va_up_ne _ _ (by omega)]; rw [eF1, va_up_ne _ _ (by omega)]) _ _ ls hC (lv_sub hl [0, 1, 3] rfl)
set_option maxHeartbeats 4000000 in
set_option maxRecDepth 100000 in
theorem ctX4_next2t (l : Launch) (g : Gx) (lo : Nat) (ad : Nat → Nat) {F : Nat → va_E} {h : HV} (hH : HullC g ad F h) (ok : HOK h) {ro : Nat → Option Nat} {st : Nat → LV} (hR : RowsC g ad F (2, true, ro, st)) (okR : ROK (2, true, ro, st)) (hw : LOK h (st 0)) {rem : List (List Nat)} {x y : Nat} (hx0 : ro 0 = some x) (hx : x < 100) (hmx0 : mayM h (st 0) x = true) (hst1 : st 1 = stepV h (st 0) x) (hy0 : ro 1 = some y) (hy : y < 100) (hrem : rem = (L1 h (stepV h (st 0) x) (y + 1)).map (fun z => [x, z]) ++ L2 h (st 0) (x + 1)) : MI l g lo 196 ad yX4_next wsX4_next 4 93 [.ref (ad (157))] F (fun r F' => Same 157 175 F F' ∧ ((r = bI false ∧ rem = [] ∧ ∃ v', RowsC g ad F' v' ∧ ROK v' ∧ rmv v' = 2 ∧ rst v' 0 = st 0) ∨ ∃ e es v', r = bI true ∧ rem = e :: es ∧ RowsC g ad F' v' ∧ RIt h (st 0) v' es ∧ Cur h (st 0) v' e ∧ rmv v' = 2)) := by
  obtain ⟨g0, g1, g2, g3, g4⟩ := id hH
  obtain ⟨r0, r1, r2, rL⟩ := id hR
  refine enter (cc := cX4_next) (maxL := 4) (ret := some .boolean) (own := RX4) (by decide +kernel) rfl rfl (Nat.le_of_ble_eq_true rfl) ?_
  intro pp ee ss mm below meth cc B hini hC ls hl
  have hl : lv_has ls 4 [(0, .ref (ad (157)))] := hl
  refine lv_aload_n B.1 B.2.1 dX4_next_0 rfl (lv_at hl 0 rfl) ?_
  refine r_cg B hC (i := 157) (by decide) r0 (C := RX4) (T := TX4) (n := 5) rfl iwX4_next_X4 4 (by decide) (index := 25) flX4_next_25 rfl (v := .int (bI true)) rfl dX4_next_1 ?_
  refine lv_if_ne (tgt := 11) B.1 B.2.1 dX4_next_4 (by decide) (fun _ => ?_) (fun z => absurd z (by decide))
  refine lv_iconst (v := nI 0) B.1 B.2.1 dX4_next_11 (by decide) ?_
  refine lv_istore_n (lv' := [(1, .int (nI 0)), (0, .ref (ad (157)))]) B.1 B.2.1 dX4_next_12 rfl hl (by decide) rfl (fun ls hl => ?_)
  refine lv_aload_n B.1 B.2.1 dX4_next_13 rfl (lv_at hl 1 rfl) ?_
  refine lv_iconst (v := nI 1) B.1 B.2.1 dX4_next_14 (by decide) ?_
  refine r_tI (y := bI true) (by decide) ?_
  refine r_cp B hC (i := 157) (by decide) r0 tyX4 tyX4_ok nmX4 (C := RX4) (T := TX4) rfl iwX4_next_X4 4 (by decide) (index := 25) flX4_next_25 rfl rfl (v := .int (bI true)) (nar_b _) (fit_b _) (Nat.le_of_ble_eq_true rfl) dX4_next_15 ?_
  intro H locs hC
  obtain ⟨F1, eF1⟩ : ∃ f : Nat → va_E, f = va_up F (157) (.inr (4, [.ref (ad (3)), .ref (ad (158)), .ref (ad (159)), .int (nI 2), .int (bI true)])) := ⟨_, rfl⟩
  have hC : Cu g lo 196 ad F1 ss ss.heap H locs := by rw [eF1]; exact hC
  have k157_F1 : F1 157 = .inr (4, [.ref (ad (3)), .ref (ad (158)), .ref (ad (159)), .int (nI 2), .int (bI true)]) := by rw [eF1]; exact va_up_self _ _ _
  have r1_F1 : F1 158 = .inl (g.2.2 4, 3, .inr (.inr (.inr (.inr (fun k => some (ad (160 + 5 * k))))))) := by rw [eF1, va_up_ne _ _ (by decide)]; exact r1
  have r2_F1 : F1 159 = .inl (g.2.2 0, 2, .inl (fun j => y1 (ro j))) := by rw [eF1, va_up_ne _ _ (by decide)]; exact r2
  have g0_F1 : F1 3 = .inr (2, [.ref (ad (4)), .ref (ad (5)), .ref (ad (6)), .ref (ad (7)), .int (nI (hn h)), .int (nI (hpu h)), .int (nI (hho h))]) := by rw [eF1, va_up_ne _ _ (by decide)]; exact g0
  refine lv_aload_n B.1 B.2.1 dX4_next_18 rfl (lv_at hl 1 rfl) ?_
  refine r_cg B hC (i := 157) (by decide) k157_F1 (C := RX4) (T := TX4) (n := 5) rfl iwX4_next_X4 3 (by decide) (index := 21) flX4_next_21 rfl (v := .int (nI 2)) rfl dX4_next_19 ?_
  refine lv_if_ne (tgt := 27) B.1 B.2.1 dX4_next_22 (by decide) (fun _ => ?_) (fun z => absurd z (nI_ne0 (by omega) (by omega)))
  refine lv_iload_n B.1 B.2.1 dX4_next_27 rfl (lv_at hl 0 rfl) ?_
  refine lv_if_eq (tgt := 35) B.1 B.2.1 dX4_next_28 (by decide) (fun _ => ?_) (fun z => absurd (nI_eq0 (by omega)) z)
  refine lv_aload_n B.1 B.2.1 dX4_next_35 rfl (lv_at hl 1 rfl) ?_
  refine r_cg B hC (i := 157) (by decide) k157_F1 (C := RX4) (T := TX4) (n := 5) rfl iwX4_next_X4 3 (by decide) (index := 21) flX4_next_21 rfl (v := .int (nI 2)) rfl dX4_next_36 ?_
  refine lv_iconst (v := nI 1) B.1 B.2.1 dX4_next_39 (by decide) ?_
  refine lv_isub B.1 B.2.1 dX4_next_40 ?_
  refine r_tI (y := nI 1) (by decide) ?_
  refine lv_istore_n (lv' := [(2, .int (nI 1)), (1, .int (nI 0)), (0, .ref (ad (157)))]) B.1 B.2.1 dX4_next_41 rfl hl (by decide) rfl (fun ls hl => ?_)
  refine lv_iload_n B.1 B.2.1 dX4_next_42 rfl (lv_at hl 1 rfl) ?_
  refine lv_if_eq (tgt := 53) B.1 B.2.1 dX4_next_43 (by decide) (fun _ => ?_) (fun z => absurd (nI_eq0 (by omega)) z)
  refine lv_iconst (v := nI 0) B.1 B.2.1 dX4_next_53 (by decide) ?_
  refine lv_istore_n (lv' := [(3, .int (nI 0)), (2, .int (nI 1)), (1, .int (nI 0)), (0, .ref (ad (157)))]) B.1 B.2.1 dX4_next_54 rfl hl (by decide) rfl (fun ls hl => ?_)
  have loop55 : ∀ (k : Nat) (t : Nat) (ro2 : Nat → Option Nat) (rs : Nat → LV) (x : Nat) (G : Nat → va_E), (100 ≤ x + 1 + k) → (t + 2 * k ≤ 300) → (RowsC g ad G (2, true, ro2, rs)) → (ROK (2, true, ro2, rs)) → (rs 0 = st 0) → (rs 1 = stepV h (st 0) x) → (ro2 0 = some x) → (x < 100) → (mayM h (st 0) x = true) → (nx (ro2 1) ≤ 100) → (rem = (L1 h (stepV h (st 0) x) (nx (ro2 1))).map (fun z => [x, z]) ++ L2 h (st 0) (x + 1)) → (Same 157 175 F G) → ∀ (H : Heap) (locs : List Loc) (ls : Array Slot), Cu g lo 196 ad G ss ss.heap H locs → lv_has ls 4 [(3, .int (nI t)), (2, .int (nI 1)), (0, .ref (ad (157)))] → W pp l ee { frames := 4, cells := 0, slots := 0, locals := 93 } ss mm ([.ref (ad (157))] : List Value).toArray below meth cc H locs 0 0 (MQ below (va_Qi (fun r F' => Same 157 175 F F' ∧ ((r = bI false ∧ rem = [] ∧ ∃ v', RowsC g ad F' v' ∧ ROK v' ∧ rmv v' = 2 ∧ rst v' 0 = st 0) ∨ ∃ e es v', r = bI true ∧ rem = e :: es ∧ RowsC g ad F' v' ∧ RIt h (st 0) v' es ∧ Cur h (st 0) v' e ∧ rmv v' = 2)) (fun F' t => Wd g lo 196 ad F' t) (fun q => lo ≤ q)) ([.ref (ad (157))] : List Value).toArray ss 0 0 (fun q => lo ≤ q)) (F0 mm 55 ls []) := by
    intro k
    induction k with
    | zero =>
      intro t ro2 rs x G hk ht hRG okG hrs0 hrs1 hro0 hx hmx hn1 hrem2 hs H locs ls hC hl
      obtain ⟨r0, r1, r2, rL⟩ := id hRG
      have g0G : G 3 = .inr (2, [.ref (ad (4)), .ref (ad (5)), .ref (ad (6)), .ref (ad (7)), .int (nI (hn h)), .int (nI (hpu h)), .int (nI (hho h))]) := (hs 3 (by omega)).trans g0
      refine lv_iload_n B.1 B.2.1 dX4_next_55 rfl (lv_at hl 0 rfl) ?_
      refine lv_ldc (own := RX4) (v := nI 1000000) B.1 B.2.1 B.2.2.2.1 (B.2.2.2.2.1 (.constant RX4 53 (1000000)) (by decide +kernel)) dX4_next_56 ?_
      refine lv_icmp_ge (tgt := 115) B.1 B.2.1 dX4_next_58 (by decide) (fun z => absurd z (nI_ge (by omega) (by omega))) (fun _ => ?_)
      refine lv_iload_n B.1 B.2.1 dX4_next_61 rfl (lv_at hl 1 rfl) ?_
      refine lv_if_lt (tgt := 115) B.1 B.2.1 dX4_next_62 (by decide) (fun z => absurd z (nI_pos (by omega))) (fun _ => ?_)
      refine lv_iload_n B.1 B.2.1 dX4_next_65 rfl (lv_at hl 1 rfl) ?_
      refine lv_aload_n B.1 B.2.1 dX4_next_66 rfl (lv_at hl 2 rfl) ?_
      refine r_cg B hC (i := 157) (by decide) r0 (C := RX4) (T := TX4) (n := 5) rfl iwX4_next_X4 3 (by decide) (index := 21) flX4_next_21 rfl (v := .int (nI 2)) rfl dX4_next_67 ?_
      refine lv_icmp_ge (tgt := 115) B.1 B.2.1 dX4_next_70 (by decide) (fun z => absurd z (nI_ge (by omega) (by omega))) (fun _ => ?_)
      refine lv_aload_n B.1 B.2.1 dX4_next_73 rfl (lv_at hl 2 rfl) ?_
      refine lv_iload_n B.1 B.2.1 dX4_next_74 rfl (lv_at hl 1 rfl) ?_
      have hRn1_1 : RowsC g ad G (2, true, ro2, rs) := (show RowsC g ad G (2, true, ro2, rs) from ⟨r0, r1, r2, fun k hk => (rL k hk).at (fun i h1 h2 => by rfl)⟩)
      have okn1_1 : ROK (2, true, ro2, rs) := okG
      refine r_calli B hC hl.1 (157) 4 rfl rfl (by decide) r0 (As := [.int (nI 1)]) (ctX4_makeNextMove l g lo ad (HullC.keep hH (x := 157) (y := 175) (fun i hi => by rw [hs i (by omega)]) (by decide)) ok hRn1_1 okn1_1 (a := 1) (by decide) (show LOK h (rs 1) by rw [show rs 1 = stepV h (st 0) x from hrs1]; exact LOK_step ok hw hx hmx) (by rw [show nx (rro (2, true, ro2, rs) 1) = nx (ro2 1) from rfl]; omega)) gX4_next_X4_makeNextMove rfl (n := 1) rfl (by decide +kernel) ⟨Nat.le_of_ble_eq_true rfl, Nat.le_of_ble_eq_true rfl⟩ ⟨Nat.zero_le _, Nat.zero_le _⟩ rfl (Nat.le_of_ble_eq_true rfl) dX4_next_75 (fun r75 F21 H locs hp75 hC => ?_)
      rcases hp75 with ⟨er, hM, eF⟩ | ⟨m1, er, hge1, hlt1, hM, hmay1, hR_F21, hs_F21⟩
      · subst er
        rw [eF] at hC
        have hN1 : L1 h (stepV h (st 0) x) (nx (ro2 1)) = [] := by rw [show nx (rro (2, true, ro2, rs) 1) = nx (ro2 1) from rfl, show rst (2, true, ro2, rs) 1 = stepV h (st 0) x from (show rs 1 = stepV h (st 0) x from hrs1)] at hM; exact hM
        refine lv_if_ne (tgt := 87) B.1 B.2.1 dX4_next_78 (by decide) (fun z => absurd (by decide) z) (fun _ => ?_)
        refine lv_iinc (v := nI 0) (lv' := [(2, .int (nI 0)), (3, .int (nI t)), (0, .ref (ad (157)))]) B.1 B.2.1 dX4_next_81 hl (k := 1) rfl (by decide) (by decide) rfl (fun ls hl => ?_)
        refine lv_goto (tgt := 109) B.1 B.2.1 dX4_next_84 (by decide) ?_
        refine lv_iinc (v := nI (t + 1)) (lv' := [(3, .int (nI (t + 1))), (2, .int (nI 0)), (0, .ref (ad (157)))]) B.1 B.2.1 dX4_next_109 hl (k := 1) rfl (nI_1 _) (by decide) rfl (fun ls hl => ?_)
        refine lv_goto (tgt := 55) B.1 B.2.1 dX4_next_112 (by decide) ?_
        refine lv_iload_n B.1 B.2.1 dX4_next_55 rfl (lv_at hl 0 rfl) ?_
        refine lv_ldc (own := RX4) (v := nI 1000000) B.1 B.2.1 B.2.2.2.1 (B.2.2.2.2.1 (.constant RX4 53 (1000000)) (by decide +kernel)) dX4_next_56 ?_
        refine lv_icmp_ge (tgt := 115) B.1 B.2.1 dX4_next_58 (by decide) (fun z => absurd z (nI_ge (by omega) (by omega))) (fun _ => ?_)
        refine lv_iload_n B.1 B.2.1 dX4_next_61 rfl (lv_at hl 1 rfl) ?_
        refine lv_if_lt (tgt := 115) B.1 B.2.1 dX4_next_62 (by decide) (fun z => absurd z (nI_pos (by omega))) (fun _ => ?_)
        refine lv_iload_n B.1 B.2.1 dX4_next_65 rfl (lv_at hl 1 rfl) ?_
        refine lv_aload_n B.1 B.2.1 dX4_next_66 rfl (lv_at hl 2 rfl) ?_
        refine r_cg B hC (i := 157) (by decide) r0 (C := RX4) (T := TX4) (n := 5) rfl iwX4_next_X4 3 (by decide) (index := 21) flX4_next_21 rfl (v := .int (nI 2)) rfl dX4_next_67 ?_
        refine lv_icmp_ge (tgt := 115) B.1 B.2.1 dX4_next_70 (by decide) (fun z => absurd z (nI_ge (by omega) (by omega))) (fun _ => ?_)
        refine lv_aload_n B.1 B.2.1 dX4_next_73 rfl (lv_at hl 2 rfl) ?_
        refine lv_iload_n B.1 B.2.1 dX4_next_74 rfl (lv_at hl 1 rfl) ?_
        have hRn1_0 : RowsC g ad G (2, true, ro2, rs) := (show RowsC g ad G (2, true, ro2, rs) from ⟨r0, r1, r2, fun k hk => (rL k hk).at (fun i h1 h2 => by rfl)⟩)
        have okn1_0 : ROK (2, true, ro2, rs) := okG
        refine r_calli B hC hl.1 (157) 4 rfl rfl (by decide) r0 (As := [.int (nI 0)]) (ctX4_makeNextMove l g lo ad (HullC.keep hH (x := 157) (y := 175) (fun i hi => by rw [hs i (by omega)]) (by decide)) ok hRn1_0 okn1_0 (a := 0) (by decide) (show LOK h (rs 0) by rw [show rs 0 = st 0 from hrs0]; exact hw) (by rw [show nx (rro (2, true, ro2, rs) 0) = x + 1 from (show nx (ro2 0) = x + 1 by rw [hro0]; rfl)]; omega)) gX4_next_X4_makeNextMove rfl (n := 1) rfl (by decide +kernel) ⟨Nat.le_of_ble_eq_true rfl, Nat.le_of_ble_eq_true rfl⟩ ⟨Nat.zero_le _, Nat.zero_le _⟩ rfl (Nat.le_of_ble_eq_true rfl) dX4_next_75 (fun r75 F21 H locs hp75 hC => ?_)
        rcases hp75 with ⟨er, hM, eF⟩ | ⟨m0, er, hge0, hlt0, hM, hmay0, hR_F21, hs_F21⟩
        · subst er
          rw [eF] at hC
          have hN0 : L1 h (st 0) (x + 1) = [] := by rw [show nx (rro (2, true, ro2, rs) 0) = x + 1 from (show nx (ro2 0) = x + 1 by rw [hro0]; rfl), show rst (2, true, ro2, rs) 0 = st 0 from (show rs 0 = st 0 from hrs0)] at hM; exact hM
          refine lv_if_ne (tgt := 87) B.1 B.2.1 dX4_next_78 (by decide) (fun z => absurd (by decide) z) (fun _ => ?_)
          refine lv_iinc (v := (-1)) (lv' := [(2, .int ((-1))), (3, .int (nI (t + 1))), (0, .ref (ad (157)))]) B.1 B.2.1 dX4_next_81 hl (k := 1) rfl (by decide) (by decide) rfl (fun ls hl => ?_)
          refine lv_goto (tgt := 109) B.1 B.2.1 dX4_next_84 (by decide) ?_
          refine lv_iinc (v := nI ((t + 1) + 1)) (lv' := [(3, .int (nI ((t + 1) + 1))), (2, .int ((-1))), (0, .ref (ad (157)))]) B.1 B.2.1 dX4_next_109 hl (k := 1) rfl (nI_1 _) (by decide) rfl (fun ls hl => ?_)
          refine lv_goto (tgt := 55) B.1 B.2.1 dX4_next_112 (by decide) ?_
          refine lv_iload_n B.1 B.2.1 dX4_next_55 rfl (lv_at hl 0 rfl) ?_
          refine lv_ldc (own := RX4) (v := nI 1000000) B.1 B.2.1 B.2.2.2.1 (B.2.2.2.2.1 (.constant RX4 53 (1000000)) (by decide +kernel)) dX4_next_56 ?_
          refine lv_icmp_ge (tgt := 115) B.1 B.2.1 dX4_next_58 (by decide) (fun z => absurd z (nI_ge (by omega) (by omega))) (fun _ => ?_)
          refine lv_iload_n B.1 B.2.1 dX4_next_61 rfl (lv_at hl 1 rfl) ?_
          refine lv_if_lt (tgt := 115) B.1 B.2.1 dX4_next_62 (by decide) (fun _ => ?_) (fun z => absurd (by decide) z)
          refine lv_iconst (v := nI 0) B.1 B.2.1 dX4_next_115 (by decide) ?_
          exact r_eZ B hC (v := nI 0) (rfl) (⟨fun i hi => by rw [hs i (by omega)], Or.inl ⟨by decide, by rw [hrem2, hN1, L2_nil hN0]; rfl, (2, true, ro2, rs), (show RowsC g ad G (2, true, ro2, rs) from ⟨r0, r1, r2, fun k hk => (rL k hk).at (fun i h1 h2 => by rfl)⟩), okG, rfl, (show rs 0 = st 0 from hrs0)⟩⟩) dX4_next_116
        · subst er
          rw [show nx (rro (2, true, ro2, rs) 0) = x + 1 from (show nx (ro2 0) = x + 1 by rw [hro0]; rfl)] at hge0
          have hY0 : L1 h (st 0) (x + 1) = m0 :: L1 h (st 0) (m0 + 1) := by rw [show nx (rro (2, true, ro2, rs) 0) = x + 1 from (show nx (ro2 0) = x + 1 by rw [hro0]; rfl), show rst (2, true, ro2, rs) 0 = st 0 from (show rs 0 = st 0 from hrs0)] at hM; exact hM
          have hmy0 : mayM h (st 0) m0 = true := by rw [show rst (2, true, ro2, rs) 0 = st 0 from (show rs 0 = st 0 from hrs0)] at hmay0; exact hmay0
          have hR_F21 : RowsC g ad F21 (2, true, (va_up ro2 0 (some m0)), (va_up rs 1 (stepV h (st 0) m0))) := by rw [show rst (2, true, ro2, rs) 0 = st 0 from (show rs 0 = st 0 from hrs0)] at hR_F21; exact hR_F21
          obtain ⟨r0_F21, r1_F21, r2_F21, rL_F21⟩ := id hR_F21
          have lok1_F21 : LOK h (stepV h (st 0) m0) := LOK_step ok (hw) hlt0 hmy0
          have g0_F21 : F21 3 = .inr (2, [.ref (ad (4)), .ref (ad (5)), .ref (ad (6)), .ref (ad (7)), .int (nI (hn h)), .int (nI (hpu h)), .int (nI (hho h))]) := (hs_F21 _ (by omega)).trans g0G
          refine lv_if_ne (tgt := 87) B.1 B.2.1 dX4_next_78 (by decide) (fun _ => ?_) (fun z => absurd z (by decide))
          refine lv_iload_n B.1 B.2.1 dX4_next_87 rfl (lv_at hl 1 rfl) ?_
          refine lv_aload_n B.1 B.2.1 dX4_next_88 rfl (lv_at hl 2 rfl) ?_
          refine r_cg B hC (i := 157) (by decide) r0_F21 (C := RX4) (T := TX4) (n := 5) rfl iwX4_next_X4 3 (by decide) (index := 21) flX4_next_21 rfl (v := .int (nI 2)) rfl dX4_next_89 ?_
          refine lv_iconst (v := nI 1) B.1 B.2.1 dX4_next_92 (by decide) ?_
          refine lv_isub B.1 B.2.1 dX4_next_93 ?_
          refine r_tI (y := nI 1) (by decide) ?_
          refine lv_icmp_ne (tgt := 99) B.1 B.2.1 dX4_next_94 (by decide) (fun _ => ?_) (fun z => absurd z (fun z => absurd ((nI_eq (by omega) (by omega)).mp z) (by omega)))
          refine lv_iinc (v := nI 1) (lv' := [(2, .int (nI 1)), (3, .int (nI (t + 1))), (0, .ref (ad (157)))]) B.1 B.2.1 dX4_next_99 hl (k := 1) rfl (by decide) (by decide) rfl (fun ls hl => ?_)
          refine lv_aload_n B.1 B.2.1 dX4_next_102 rfl (lv_at hl 2 rfl) ?_
          refine r_cg B hC (i := 157) (by decide) r0_F21 (C := RX4) (T := TX4) (n := 5) rfl iwX4_next_X4 2 (by decide) (index := 17) flX4_next_17 rfl (v := .ref (ad (159))) rfl dX4_next_103 ?_
          refine lv_iload_n B.1 B.2.1 dX4_next_106 rfl (lv_at hl 0 rfl) ?_
          refine lv_iconst (v := (-1)) B.1 B.2.1 dX4_next_107 (by decide) ?_
          refine r_cast B hC (i := 159) (by decide) r2_F21 (j := 1) (by omega) (by decide) dX4_next_108 ?_
          intro H locs hC
          obtain ⟨F22, eF22⟩ : ∃ f : Nat → va_E, f = va_up F21 (159) (.inl (g.2.2 0, 2, .inl (fun j => y1 ((va_up (va_up ro2 0 (some m0)) 1 none) j)))) := ⟨_, rfl⟩
          have hC : Cu g lo 196 ad F22 ss ss.heap H locs := by rw [eF22]; exact (by rw [← upd_y1 (va_up ro2 0 (some m0)) 1 none]; exact hC)
          have k159_F22 : F22 159 = .inl (g.2.2 0, 2, .inl (fun j => y1 ((va_up (va_up ro2 0 (some m0)) 1 none) j))) := by rw [eF22]; exact va_up_self _ _ _
          have r0_F22 : F22 157 = .inr (4, [.ref (ad (3)), .ref (ad (158)), .ref (ad (159)), .int (nI 2), .int (bI true)]) := by rw [eF22, va_up_ne _ _ (by decide)]; exact r0_F21
          have r1_F22 : F22 158 = .inl (g.2.2 4, 3, .inr (.inr (.inr (.inr (fun k => some (ad (160 + 5 * k))))))) := by rw [eF22, va_up_ne _ _ (by decide)]; exact r1_F21
          have g0_F22 : F22 3 = .inr (2, [.ref (ad (4)), .ref (ad (5)), .ref (ad (6)), .ref (ad (7)), .int (nI (hn h)), .int (nI (hpu h)), .int (nI (hho h))]) := by rw [eF22, va_up_ne _ _ (by decide)]; exact g0_F21
          refine lv_iinc (v := nI ((t + 1) + 1)) (lv' := [(3, .int (nI ((t + 1) + 1))), (2, .int (nI 1)), (0, .ref (ad (157)))]) B.1 B.2.1 dX4_next_109 hl (k := 1) rfl (nI_1 _) (by decide) rfl (fun ls hl => ?_)
          refine lv_goto (tgt := 55) B.1 B.2.1 dX4_next_112 (by decide) ?_
          exact absurd hlt0 (by omega)
      · subst er
        rw [show nx (rro (2, true, ro2, rs) 1) = nx (ro2 1) from rfl] at hge1
        have hY1 : L1 h (stepV h (st 0) x) (nx (ro2 1)) = m1 :: L1 h (stepV h (st 0) x) (m1 + 1) := by rw [show nx (rro (2, true, ro2, rs) 1) = nx (ro2 1) from rfl, show rst (2, true, ro2, rs) 1 = stepV h (st 0) x from (show rs 1 = stepV h (st 0) x from hrs1)] at hM; exact hM
        have hmy1 : mayM h (stepV h (st 0) x) m1 = true := by rw [show rst (2, true, ro2, rs) 1 = stepV h (st 0) x from (show rs 1 = stepV h (st 0) x from hrs1)] at hmay1; exact hmay1
        have hR_F21 : RowsC g ad F21 (2, true, (va_up ro2 1 (some m1)), (va_up rs 2 (stepV h (stepV h (st 0) x) m1))) := by rw [show rst (2, true, ro2, rs) 1 = stepV h (st 0) x from (show rs 1 = stepV h (st 0) x from hrs1)] at hR_F21; exact hR_F21
        obtain ⟨r0_F21, r1_F21, r2_F21, rL_F21⟩ := id hR_F21
        have lok2_F21 : LOK h (stepV h (stepV h (st 0) x) m1) := LOK_step ok (LOK_step ok hw hx hmx) hlt1 hmy1
        have g0_F21 : F21 3 = .inr (2, [.ref (ad (4)), .ref (ad (5)), .ref (ad (6)), .ref (ad (7)), .int (nI (hn h)), .int (nI (hpu h)), .int (nI (hho h))]) := (hs_F21 _ (by omega)).trans g0G
        refine lv_if_ne (tgt := 87) B.1 B.2.1 dX4_next_78 (by decide) (fun _ => ?_) (fun z => absurd z (by decide))
        refine lv_iload_n B.1 B.2.1 dX4_next_87 rfl (lv_at hl 1 rfl) ?_
        refine lv_aload_n B.1 B.2.1 dX4_next_88 rfl (lv_at hl 2 rfl) ?_
        refine r_cg B hC (i := 157) (by decide) r0_F21 (C := RX4) (T := TX4) (n := 5) rfl iwX4_next_X4 3 (by decide) (index := 21) flX4_next_21 rfl (v := .int (nI 2)) rfl dX4_next_89 ?_
        refine lv_iconst (v := nI 1) B.1 B.2.1 dX4_next_92 (by decide) ?_
        refine lv_isub B.1 B.2.1 dX4_next_93 ?_
        refine r_tI (y := nI 1) (by decide) ?_
        refine lv_icmp_ne (tgt := 99) B.1 B.2.1 dX4_next_94 (by decide) (fun z => absurd ((nI_eq (by omega) (by omega)).mpr (by omega)) z) (fun _ => ?_)
        refine lv_iconst (v := nI 1) B.1 B.2.1 dX4_next_97 (by decide) ?_
        exact r_eZ B hC (v := nI 1) (rfl) (⟨fun i hi => by rw [hs_F21 i (by omega)]; rw [hs i (by omega)], Or.inr ⟨[x, m1], (L1 h (stepV h (st 0) x) (m1 + 1)).map (fun z => [x, z]) ++ L2 h (st 0) (x + 1), (2, true, (va_up ro2 1 (some m1)), (va_up rs 2 (stepV h (stepV h (st 0) x) m1))), by decide, by rw [hrem2, hY1]; rfl, (show RowsC g ad F21 (2, true, (va_up ro2 1 (some m1)), (va_up rs 2 (stepV h (stepV h (st 0) x) m1))) from ⟨r0_F21, r1_F21, r2_F21, fun k hk => (rL_F21 k hk).at (fun i h1 h2 => by rfl)⟩), ⟨hw, (show (va_up rs 2 (stepV h (stepV h (st 0) x) m1)) 0 = st 0 from (va_up_ne _ _ (by decide)).trans ((show rs 0 = st 0 from hrs0))), ROK_up (a := 0) (b := true) (r := ro) (okn1_1) rfl (lok2_F21).can _ _ _, by show 2 ≤ 2; decide, Or.inr ⟨rfl, Or.inr (Or.inr ⟨rfl, x, m1, show va_up ro2 1 (some m1) 0 = some x from (va_up_ne _ _ (by decide)).trans hro0, hx, hmx, (show (va_up rs 2 (stepV h (stepV h (st 0) x) m1)) 1 = stepV h (st 0) x from (va_up_ne _ _ (by decide)).trans hrs1), show va_up ro2 1 (some m1) 1 = some m1 from va_up_self _ _ _, hlt1, rfl⟩)⟩⟩, ⟨rfl, fun j hj => by
          have z : j < 2 := hj
          rcases (show j = 0 ∨ j = 1 by omega) with rfl | rfl
          · exact (show va_up ro2 1 (some m1) 0 = some x from (va_up_ne _ _ (by decide)).trans hro0)
          · exact (show va_up ro2 1 (some m1) 1 = some m1 from va_up_self _ _ _), show va_up rs 2 (stepV h (stepV h (st 0) x) m1) 2 = _ from va_up_self _ _ _, lok2_F21, fun y hy => by
          rcases List.mem_cons.mp hy with rfl | hy
          · exact hx
          · rw [List.mem_singleton.mp hy]; exact hlt1⟩, rfl⟩⟩) dX4_next_98
    | succ k ih55 =>
      intro t ro2 rs x G hk ht hRG okG hrs0 hrs1 hro0 hx hmx hn1 hrem2 hs H locs ls hC hl
      obtain ⟨r0, r1, r2, rL⟩ := id hRG
      have g0G : G 3 = .inr (2, [.ref (ad (4)), .ref (ad (5)), .ref (ad (6)), .ref (ad (7)), .int (nI (hn h)), .int (nI (hpu h)), .int (nI (hho h))]) := (hs 3 (by omega)).trans g0
      refine lv_iload_n B.1 B.2.1 dX4_next_55 rfl (lv_at hl 0 rfl) ?_
      refine lv_ldc (own := RX4) (v := nI 1000000) B.1 B.2.1 B.2.2.2.1 (B.2.2.2.2.1 (.constant RX4 53 (1000000)) (by decide +kernel)) dX4_next_56 ?_
      refine lv_icmp_ge (tgt := 115) B.1 B.2.1 dX4_next_58 (by decide) (fun z => absurd z (nI_ge (by omega) (by omega))) (fun _ => ?_)
      refine lv_iload_n B.1 B.2.1 dX4_next_61 rfl (lv_at hl 1 rfl) ?_
      refine lv_if_lt (tgt := 115) B.1 B.2.1 dX4_next_62 (by decide) (fun z => absurd z (nI_pos (by omega))) (fun _ => ?_)
      refine lv_iload_n B.1 B.2.1 dX4_next_65 rfl (lv_at hl 1 rfl) ?_
      refine lv_aload_n B.1 B.2.1 dX4_next_66 rfl (lv_at hl 2 rfl) ?_
      refine r_cg B hC (i := 157) (by decide) r0 (C := RX4) (T := TX4) (n := 5) rfl iwX4_next_X4 3 (by decide) (index := 21) flX4_next_21 rfl (v := .int (nI 2)) rfl dX4_next_67 ?_
      refine lv_icmp_ge (tgt := 115) B.1 B.2.1 dX4_next_70 (by decide) (fun z => absurd z (nI_ge (by omega) (by omega))) (fun _ => ?_)
      refine lv_aload_n B.1 B.2.1 dX4_next_73 rfl (lv_at hl 2 rfl) ?_
      refine lv_iload_n B.1 B.2.1 dX4_next_74 rfl (lv_at hl 1 rfl) ?_
      have hRn1_1 : RowsC g ad G (2, true, ro2, rs) := (show RowsC g ad G (2, true, ro2, rs) from ⟨r0, r1, r2, fun k hk => (rL k hk).at (fun i h1 h2 => by rfl)⟩)
      have okn1_1 : ROK (2, true, ro2, rs) := okG
      refine r_calli B hC hl.1 (157) 4 rfl rfl (by decide) r0 (As := [.int (nI 1)]) (ctX4_makeNextMove l g lo ad (HullC.keep hH (x := 157) (y := 175) (fun i hi => by rw [hs i (by omega)]) (by decide)) ok hRn1_1 okn1_1 (a := 1) (by decide) (show LOK h (rs 1) by rw [show rs 1 = stepV h (st 0) x from hrs1]; exact LOK_step ok hw hx hmx) (by rw [show nx (rro (2, true, ro2, rs) 1) = nx (ro2 1) from rfl]; omega)) gX4_next_X4_makeNextMove rfl (n := 1) rfl (by decide +kernel) ⟨Nat.le_of_ble_eq_true rfl, Nat.le_of_ble_eq_true rfl⟩ ⟨Nat.zero_le _, Nat.zero_le _⟩ rfl (Nat.le_of_ble_eq_true rfl) dX4_next_75 (fun r75 F21 H locs hp75 hC => ?_)
      rcases hp75 with ⟨er, hM, eF⟩ | ⟨m1, er, hge1, hlt1, hM, hmay1, hR_F21, hs_F21⟩
      · subst er
        rw [eF] at hC
        have hN1 : L1 h (stepV h (st 0) x) (nx (ro2 1)) = [] := by rw [show nx (rro (2, true, ro2, rs) 1) = nx (ro2 1) from rfl, show rst (2, true, ro2, rs) 1 = stepV h (st 0) x from (show rs 1 = stepV h (st 0) x from hrs1)] at hM; exact hM
        refine lv_if_ne (tgt := 87) B.1 B.2.1 dX4_next_78 (by decide) (fun z => absurd (by decide) z) (fun _ => ?_)
        refine lv_iinc (v := nI 0) (lv' := [(2, .int (nI 0)), (3, .int (nI t)), (0, .ref (ad (157)))]) B.1 B.2.1 dX4_next_81 hl (k := 1) rfl (by decide) (by decide) rfl (fun ls hl => ?_)
        refine lv_goto (tgt := 109) B.1 B.2.1 dX4_next_84 (by decide) ?_
        refine lv_iinc (v := nI (t + 1)) (lv' := [(3, .int (nI (t + 1))), (2, .int (nI 0)), (0, .ref (ad (157)))]) B.1 B.2.1 dX4_next_109 hl (k := 1) rfl (nI_1 _) (by decide) rfl (fun ls hl => ?_)
        refine lv_goto (tgt := 55) B.1 B.2.1 dX4_next_112 (by decide) ?_
        refine lv_iload_n B.1 B.2.1 dX4_next_55 rfl (lv_at hl 0 rfl) ?_
        refine lv_ldc (own := RX4) (v := nI 1000000) B.1 B.2.1 B.2.2.2.1 (B.2.2.2.2.1 (.constant RX4 53 (1000000)) (by decide +kernel)) dX4_next_56 ?_
        refine lv_icmp_ge (tgt := 115) B.1 B.2.1 dX4_next_58 (by decide) (fun z => absurd z (nI_ge (by omega) (by omega))) (fun _ => ?_)
        refine lv_iload_n B.1 B.2.1 dX4_next_61 rfl (lv_at hl 1 rfl) ?_
        refine lv_if_lt (tgt := 115) B.1 B.2.1 dX4_next_62 (by decide) (fun z => absurd z (nI_pos (by omega))) (fun _ => ?_)
        refine lv_iload_n B.1 B.2.1 dX4_next_65 rfl (lv_at hl 1 rfl) ?_
        refine lv_aload_n B.1 B.2.1 dX4_next_66 rfl (lv_at hl 2 rfl) ?_
        refine r_cg B hC (i := 157) (by decide) r0 (C := RX4) (T := TX4) (n := 5) rfl iwX4_next_X4 3 (by decide) (index := 21) flX4_next_21 rfl (v := .int (nI 2)) rfl dX4_next_67 ?_
        refine lv_icmp_ge (tgt := 115) B.1 B.2.1 dX4_next_70 (by decide) (fun z => absurd z (nI_ge (by omega) (by omega))) (fun _ => ?_)
        refine lv_aload_n B.1 B.2.1 dX4_next_73 rfl (lv_at hl 2 rfl) ?_
        refine lv_iload_n B.1 B.2.1 dX4_next_74 rfl (lv_at hl 1 rfl) ?_
        have hRn1_0 : RowsC g ad G (2, true, ro2, rs) := (show RowsC g ad G (2, true, ro2, rs) from ⟨r0, r1, r2, fun k hk => (rL k hk).at (fun i h1 h2 => by rfl)⟩)
        have okn1_0 : ROK (2, true, ro2, rs) := okG
        refine r_calli B hC hl.1 (157) 4 rfl rfl (by decide) r0 (As := [.int (nI 0)]) (ctX4_makeNextMove l g lo ad (HullC.keep hH (x := 157) (y := 175) (fun i hi => by rw [hs i (by omega)]) (by decide)) ok hRn1_0 okn1_0 (a := 0) (by decide) (show LOK h (rs 0) by rw [show rs 0 = st 0 from hrs0]; exact hw) (by rw [show nx (rro (2, true, ro2, rs) 0) = x + 1 from (show nx (ro2 0) = x + 1 by rw [hro0]; rfl)]; omega)) gX4_next_X4_makeNextMove rfl (n := 1) rfl (by decide +kernel) ⟨Nat.le_of_ble_eq_true rfl, Nat.le_of_ble_eq_true rfl⟩ ⟨Nat.zero_le _, Nat.zero_le _⟩ rfl (Nat.le_of_ble_eq_true rfl) dX4_next_75 (fun r75 F21 H locs hp75 hC => ?_)
        rcases hp75 with ⟨er, hM, eF⟩ | ⟨m0, er, hge0, hlt0, hM, hmay0, hR_F21, hs_F21⟩
        · subst er
          rw [eF] at hC
          have hN0 : L1 h (st 0) (x + 1) = [] := by rw [show nx (rro (2, true, ro2, rs) 0) = x + 1 from (show nx (ro2 0) = x + 1 by rw [hro0]; rfl), show rst (2, true, ro2, rs) 0 = st 0 from (show rs 0 = st 0 from hrs0)] at hM; exact hM
          refine lv_if_ne (tgt := 87) B.1 B.2.1 dX4_next_78 (by decide) (fun z => absurd (by decide) z) (fun _ => ?_)
          refine lv_iinc (v := (-1)) (lv' := [(2, .int ((-1))), (3, .int (nI (t + 1))), (0, .ref (ad (157)))]) B.1 B.2.1 dX4_next_81 hl (k := 1) rfl (by decide) (by decide) rfl (fun ls hl => ?_)
          refine lv_goto (tgt := 109) B.1 B.2.1 dX4_next_84 (by decide) ?_
          refine lv_iinc (v := nI ((t + 1) + 1)) (lv' := [(3, .int (nI ((t + 1) + 1))), (2, .int ((-1))), (0, .ref (ad (157)))]) B.1 B.2.1 dX4_next_109 hl (k := 1) rfl (nI_1 _) (by decide) rfl (fun ls hl => ?_)
          refine lv_goto (tgt := 55) B.1 B.2.1 dX4_next_112 (by decide) ?_
          refine lv_iload_n B.1 B.2.1 dX4_next_55 rfl (lv_at hl 0 rfl) ?_
          refine lv_ldc (own := RX4) (v := nI 1000000) B.1 B.2.1 B.2.2.2.1 (B.2.2.2.2.1 (.constant RX4 53 (1000000)) (by decide +kernel)) dX4_next_56 ?_
          refine lv_icmp_ge (tgt := 115) B.1 B.2.1 dX4_next_58 (by decide) (fun z => absurd z (nI_ge (by omega) (by omega))) (fun _ => ?_)
          refine lv_iload_n B.1 B.2.1 dX4_next_61 rfl (lv_at hl 1 rfl) ?_
          refine lv_if_lt (tgt := 115) B.1 B.2.1 dX4_next_62 (by decide) (fun _ => ?_) (fun z => absurd (by decide) z)
          refine lv_iconst (v := nI 0) B.1 B.2.1 dX4_next_115 (by decide) ?_
          exact r_eZ B hC (v := nI 0) (rfl) (⟨fun i hi => by rw [hs i (by omega)], Or.inl ⟨by decide, by rw [hrem2, hN1, L2_nil hN0]; rfl, (2, true, ro2, rs), (show RowsC g ad G (2, true, ro2, rs) from ⟨r0, r1, r2, fun k hk => (rL k hk).at (fun i h1 h2 => by rfl)⟩), okG, rfl, (show rs 0 = st 0 from hrs0)⟩⟩) dX4_next_116
        · subst er
          rw [show nx (rro (2, true, ro2, rs) 0) = x + 1 from (show nx (ro2 0) = x + 1 by rw [hro0]; rfl)] at hge0
          have hY0 : L1 h (st 0) (x + 1) = m0 :: L1 h (st 0) (m0 + 1) := by rw [show nx (rro (2, true, ro2, rs) 0) = x + 1 from (show nx (ro2 0) = x + 1 by rw [hro0]; rfl), show rst (2, true, ro2, rs) 0 = st 0 from (show rs 0 = st 0 from hrs0)] at hM; exact hM
          have hmy0 : mayM h (st 0) m0 = true := by rw [show rst (2, true, ro2, rs) 0 = st 0 from (show rs 0 = st 0 from hrs0)] at hmay0; exact hmay0
          have hR_F21 : RowsC g ad F21 (2, true, (va_up ro2 0 (some m0)), (va_up rs 1 (stepV h (st 0) m0))) := by rw [show rst (2, true, ro2, rs) 0 = st 0 from (show rs 0 = st 0 from hrs0)] at hR_F21; exact hR_F21
          obtain ⟨r0_F21, r1_F21, r2_F21, rL_F21⟩ := id hR_F21
          have lok1_F21 : LOK h (stepV h (st 0) m0) := LOK_step ok (hw) hlt0 hmy0
          have g0_F21 : F21 3 = .inr (2, [.ref (ad (4)), .ref (ad (5)), .ref (ad (6)), .ref (ad (7)), .int (nI (hn h)), .int (nI (hpu h)), .int (nI (hho h))]) := (hs_F21 _ (by omega)).trans g0G
          refine lv_if_ne (tgt := 87) B.1 B.2.1 dX4_next_78 (by decide) (fun _ => ?_) (fun z => absurd z (by decide))
          refine lv_iload_n B.1 B.2.1 dX4_next_87 rfl (lv_at hl 1 rfl) ?_
          refine lv_aload_n B.1 B.2.1 dX4_next_88 rfl (lv_at hl 2 rfl) ?_
          refine r_cg B hC (i := 157) (by decide) r0_F21 (C := RX4) (T := TX4) (n := 5) rfl iwX4_next_X4 3 (by decide) (index := 21) flX4_next_21 rfl (v := .int (nI 2)) rfl dX4_next_89 ?_
          refine lv_iconst (v := nI 1) B.1 B.2.1 dX4_next_92 (by decide) ?_
          refine lv_isub B.1 B.2.1 dX4_next_93 ?_
          refine r_tI (y := nI 1) (by decide) ?_
          refine lv_icmp_ne (tgt := 99) B.1 B.2.1 dX4_next_94 (by decide) (fun _ => ?_) (fun z => absurd z (fun z => absurd ((nI_eq (by omega) (by omega)).mp z) (by omega)))
          refine lv_iinc (v := nI 1) (lv' := [(2, .int (nI 1)), (3, .int (nI (t + 1))), (0, .ref (ad (157)))]) B.1 B.2.1 dX4_next_99 hl (k := 1) rfl (by decide) (by decide) rfl (fun ls hl => ?_)
          refine lv_aload_n B.1 B.2.1 dX4_next_102 rfl (lv_at hl 2 rfl) ?_
          refine r_cg B hC (i := 157) (by decide) r0_F21 (C := RX4) (T := TX4) (n := 5) rfl iwX4_next_X4 2 (by decide) (index := 17) flX4_next_17 rfl (v := .ref (ad (159))) rfl dX4_next_103 ?_
          refine lv_iload_n B.1 B.2.1 dX4_next_106 rfl (lv_at hl 0 rfl) ?_
          refine lv_iconst (v := (-1)) B.1 B.2.1 dX4_next_107 (by decide) ?_
          refine r_cast B hC (i := 159) (by decide) r2_F21 (j := 1) (by omega) (by decide) dX4_next_108 ?_
          intro H locs hC
          obtain ⟨F22, eF22⟩ : ∃ f : Nat → va_E, f = va_up F21 (159) (.inl (g.2.2 0, 2, .inl (fun j => y1 ((va_up (va_up ro2 0 (some m0)) 1 none) j)))) := ⟨_, rfl⟩
          have hC : Cu g lo 196 ad F22 ss ss.heap H locs := by rw [eF22]; exact (by rw [← upd_y1 (va_up ro2 0 (some m0)) 1 none]; exact hC)
          have k159_F22 : F22 159 = .inl (g.2.2 0, 2, .inl (fun j => y1 ((va_up (va_up ro2 0 (some m0)) 1 none) j))) := by rw [eF22]; exact va_up_self _ _ _
          have r0_F22 : F22 157 = .inr (4, [.ref (ad (3)), .ref (ad (158)), .ref (ad (159)), .int (nI 2), .int (bI true)]) := by rw [eF22, va_up_ne _ _ (by decide)]; exact r0_F21
          have r1_F22 : F22 158 = .inl (g.2.2 4, 3, .inr (.inr (.inr (.inr (fun k => some (ad (160 + 5 * k))))))) := by rw [eF22, va_up_ne _ _ (by decide)]; exact r1_F21
          have g0_F22 : F22 3 = .inr (2, [.ref (ad (4)), .ref (ad (5)), .ref (ad (6)), .ref (ad (7)), .int (nI (hn h)), .int (nI (hpu h)), .int (nI (hho h))]) := by rw [eF22, va_up_ne _ _ (by decide)]; exact g0_F21
          refine lv_iinc (v := nI ((t + 1) + 1)) (lv' := [(3, .int (nI ((t + 1) + 1))), (2, .int (nI 1)), (0, .ref (ad (157)))]) B.1 B.2.1 dX4_next_109 hl (k := 1) rfl (nI_1 _) (by decide) rfl (fun ls hl => ?_)
          refine lv_goto (tgt := 55) B.1 B.2.1 dX4_next_112 (by decide) ?_
          exact ih55 (((t + 1) + 1)) (va_up (va_up ro2 0 (some m0)) 1 none) (va_up rs 1 (stepV h (st 0) m0)) m0 F22 (by omega) (by omega) (show RowsC g ad F22 (2, true, (va_up (va_up ro2 0 (some m0)) 1 none), (va_up rs 1 (stepV h (st 0) m0))) from ⟨r0_F22, r1_F22, k159_F22, fun k hk => (rL_F21 k hk).at (fun i h1 h2 => by rw [eF22, va_up_ne _ _ (by omega)])⟩) (ROK_up (a := 0) (b := true) (r := ro) (okn1_0) rfl (lok1_F21).can _ _ _) (show (va_up rs 1 (stepV h (st 0) m0)) 0 = st 0 from (va_up_ne _ _ (by decide)).trans ((show rs 0 = st 0 from hrs0))) (show (va_up rs 1 (stepV h (st 0) m0)) 1 = stepV h (st 0) m0 from va_up_self _ _ _) ((va_up_ne _ _ (by decide)).trans (va_up_self _ _ _)) hlt0 hmy0 (by rw [show nx ((va_up (va_up ro2 0 (some m0)) 1 none) 1) = 0 by rw [va_up_self]; rfl]; exact Nat.zero_le _) (by rw [hrem2, hN1, L2_cons hY0]; rfl) (fun i hi => by rw [eF22, va_up_ne _ _ (by omega)]; rw [hs_F21 i (by omega)]; rw [hs i (by omega)]) _ _ ls hC (lv_sub hl [0, 1, 2] rfl)
      · subst er
        rw [show nx (rro (2, true, ro2, rs) 1) = nx (ro2 1) from rfl] at hge1
        have hY1 : L1 h (stepV h (st 0) x) (nx (ro2 1)) = m1 :: L1 h (stepV h (st 0) x) (m1 + 1) := by rw [show nx (rro (2, true, ro2, rs) 1) = nx (ro2 1) from rfl, show rst (2, true, ro2, rs) 1 = stepV h (st 0) x from (show rs 1 = stepV h (st 0) x from hrs1)] at hM; exact hM
        have hmy1 : mayM h (stepV h (st 0) x) m1 = true := by rw [show rst (2, true, ro2, rs) 1 = stepV h (st 0) x from (show rs 1 = stepV h (st 0) x from hrs1)] at hmay1; exact hmay1
        have hR_F21 : RowsC g ad F21 (2, true, (va_up ro2 1 (some m1)), (va_up rs 2 (stepV h (stepV h (st 0) x) m1))) := by rw [show rst (2, true, ro2, rs) 1 = stepV h (st 0) x from (show rs 1 = stepV h (st 0) x from hrs1)] at hR_F21; exact hR_F21
        obtain ⟨r0_F21, r1_F21, r2_F21, rL_F21⟩ := id hR_F21
        have lok2_F21 : LOK h (stepV h (stepV h (st 0) x) m1) := LOK_step ok (LOK_step ok hw hx hmx) hlt1 hmy1
        have g0_F21 : F21 3 = .inr (2, [.ref (ad (4)), .ref (ad (5)), .ref (ad (6)), .ref (ad (7)), .int (nI (hn h)), .int (nI (hpu h)), .int (nI (hho h))]) := (hs_F21 _ (by omega)).trans g0G
        refine lv_if_ne (tgt := 87) B.1 B.2.1 dX4_next_78 (by decide) (fun _ => ?_) (fun z => absurd z (by decide))
        refine lv_iload_n B.1 B.2.1 dX4_next_87 rfl (lv_at hl 1 rfl) ?_
        refine lv_aload_n B.1 B.2.1 dX4_next_88 rfl (lv_at hl 2 rfl) ?_
        refine r_cg B hC (i := 157) (by decide) r0_F21 (C := RX4) (T := TX4) (n := 5) rfl iwX4_next_X4 3 (by decide) (index := 21) flX4_next_21 rfl (v := .int (nI 2)) rfl dX4_next_89 ?_
        refine lv_iconst (v := nI 1) B.1 B.2.1 dX4_next_92 (by decide) ?_
        refine lv_isub B.1 B.2.1 dX4_next_93 ?_
        refine r_tI (y := nI 1) (by decide) ?_
        refine lv_icmp_ne (tgt := 99) B.1 B.2.1 dX4_next_94 (by decide) (fun z => absurd ((nI_eq (by omega) (by omega)).mpr (by omega)) z) (fun _ => ?_)
        refine lv_iconst (v := nI 1) B.1 B.2.1 dX4_next_97 (by decide) ?_
        exact r_eZ B hC (v := nI 1) (rfl) (⟨fun i hi => by rw [hs_F21 i (by omega)]; rw [hs i (by omega)], Or.inr ⟨[x, m1], (L1 h (stepV h (st 0) x) (m1 + 1)).map (fun z => [x, z]) ++ L2 h (st 0) (x + 1), (2, true, (va_up ro2 1 (some m1)), (va_up rs 2 (stepV h (stepV h (st 0) x) m1))), by decide, by rw [hrem2, hY1]; rfl, (show RowsC g ad F21 (2, true, (va_up ro2 1 (some m1)), (va_up rs 2 (stepV h (stepV h (st 0) x) m1))) from ⟨r0_F21, r1_F21, r2_F21, fun k hk => (rL_F21 k hk).at (fun i h1 h2 => by rfl)⟩), ⟨hw, (show (va_up rs 2 (stepV h (stepV h (st 0) x) m1)) 0 = st 0 from (va_up_ne _ _ (by decide)).trans ((show rs 0 = st 0 from hrs0))), ROK_up (a := 0) (b := true) (r := ro) (okn1_1) rfl (lok2_F21).can _ _ _, by show 2 ≤ 2; decide, Or.inr ⟨rfl, Or.inr (Or.inr ⟨rfl, x, m1, show va_up ro2 1 (some m1) 0 = some x from (va_up_ne _ _ (by decide)).trans hro0, hx, hmx, (show (va_up rs 2 (stepV h (stepV h (st 0) x) m1)) 1 = stepV h (st 0) x from (va_up_ne _ _ (by decide)).trans hrs1), show va_up ro2 1 (some m1) 1 = some m1 from va_up_self _ _ _, hlt1, rfl⟩)⟩⟩, ⟨rfl, fun j hj => by
          have z : j < 2 := hj
          rcases (show j = 0 ∨ j = 1 by omega) with rfl | rfl
          · exact (show va_up ro2 1 (some m1) 0 = some x from (va_up_ne _ _ (by decide)).trans hro0)
          · exact (show va_up ro2 1 (some m1) 1 = some m1 from va_up_self _ _ _), show va_up rs 2 (stepV h (stepV h (st 0) x) m1) 2 = _ from va_up_self _ _ _, lok2_F21, fun y hy => by
          rcases List.mem_cons.mp hy with rfl | hy
          · exact hx
          · rw [List.mem_singleton.mp hy]; exact hlt1⟩, rfl⟩⟩) dX4_next_98
  exact loop55 (100 - x) 0 ro st x F1 (by omega) (by omega) (show RowsC g ad F1 (2, true, ro, st) from ⟨k157_F1, r1_F1, r2_F1, fun k hk => (rL k hk).at (fun i h1 h2 => by rw [eF1, va_up_ne _ _ (by omega)])⟩) okR rfl hst1 hx0 hx hmx0 (by rw [hy0]; show y + 1 ≤ 100; omega) (by rw [hrem, hy0]; rfl) (fun i hi => by rw [eF1, va_up_ne _ _ (by omega)]) _ _ ls hC (lv_sub hl [0, 1, 3] rfl)
/-- next, whatever stands -/
theorem ctX4_next (l : Launch) (g : Gx) (lo : Nat) (ad : Nat → Nat) {F : Nat → va_E} {h : HV} (hH : HullC g ad F h) (ok : HOK h) {v : RV} (hR : RowsC g ad F v) {w0 : LV} {rem : List (List Nat)} (hI : RIt h w0 v rem) : MI l g lo 196 ad yX4_next wsX4_next 4 93 [.ref (ad 157)] F (fun r F' => Same 157 175 F F' ∧ ((r = bI false ∧ rem = [] ∧ ∃ v', RowsC g ad F' v' ∧ ROK v' ∧ rmv v' = rmv v ∧ rst v' 0 = w0) ∨ ∃ e es v', r = bI true ∧ rem = e :: es ∧ RowsC g ad F' v' ∧ RIt h w0 v' es ∧ Cur h w0 v' e ∧ rmv v' = rmv v)) := by
  obtain ⟨mv, bg, ro, st⟩ := v
  obtain ⟨hw, rfl, okR, hm, hc⟩ := hI
  have hw : LOK h (st 0) := hw
  have hm : mv ≤ 2 := hm
  rcases hc with ⟨hbg, hrem⟩ | ⟨hbg, hc⟩
  · have hbg : bg = false := hbg
    subst hbg
    have hrem : rem = rowsV h (st 0) mv := hrem
    match mv, hm with
    | 0, _ => exact ctX4_next0f l g lo ad hH ok hR okR hw hrem
    | 1, _ => exact ctX4_next1f l g lo ad hH ok hR okR hw hrem
    | 2, _ => exact ctX4_next2f l g lo ad hH ok hR okR hw hrem
  · have hbg : bg = true := hbg
    subst hbg
    rcases hc with ⟨hmv, hrem⟩ | ⟨hmv, x, hx0, hx, hrem⟩ | ⟨hmv, x, y, hx0, hx, hmx, hst1, hy0, hy, hrem⟩
    · have hmv : mv = 0 := hmv
      subst hmv
      exact ctX4_next0t l g lo ad hH ok hR okR hw hrem
    · have hmv : mv = 1 := hmv
      subst hmv
      exact ctX4_next1t l g lo ad hH ok hR okR hw hx0 hx hrem
    · have hmv : mv = 2 := hmv
      subst hmv
      exact ctX4_next2t l g lo ad hH ok hR okR hw hx0 hx hmx hst1 hy0 hy hrem
