/-! LOAD: what each of its methods answers and changes -/
theorem iwX3_whereIs_X3 : ∀ w ∈ u_ws RX3 TX3 6, w ∈ wsX3_whereIs := by decide +kernel
theorem flX3_whereIs_9 : Cond.fieldLink RX3 9 RX3 (TX3 0).2.1 (TX3 0).2.2.1 ∈ wsX3_whereIs := by decide +kernel
set_option maxHeartbeats 4000000 in
set_option maxRecDepth 100000 in
theorem ctX3_whereIs (l : Launch) (g : Gx) (lo : Nat) (ad : Nat → Nat) {F : Nat → va_E} {b : Nat} {w : LV} (hb : 8 ≤ b ∧ b + 5 ≤ 196) (hL : LoadC g ad F b w) {t : Nat} (ht : t < 10) : MI l g lo 196 ad yX3_whereIs wsX3_whereIs 0 0 [.ref (ad (b)), .int (nI t)] F (fun r F' => r = nI (wh w t) ∧ F' = F) := by
  obtain ⟨h0, h1, h2, h3, h4⟩ := hL
  refine enter (cc := cX3_whereIs) (maxL := 2) (ret := some .int) (own := RX3) (by decide +kernel) rfl rfl (Nat.le_of_ble_eq_true rfl) ?_
  intro pp ee ss mm below meth cc B hini hC ls hl
  have hl : lv_has ls 2 [(0, .ref (ad (b))), (1, .int (nI t))] := hl
  refine lv_iload_n B.1 B.2.1 dX3_whereIs_0 rfl (lv_at hl 1 rfl) ?_
  refine lv_if_lt (tgt := 22) B.1 B.2.1 dX3_whereIs_1 (by decide) (fun z => absurd z (nI_pos (by omega))) (fun _ => ?_)
  refine lv_iload_n B.1 B.2.1 dX3_whereIs_4 rfl (lv_at hl 1 rfl) ?_
  refine lv_aload_n B.1 B.2.1 dX3_whereIs_5 rfl (lv_at hl 0 rfl) ?_
  refine r_cg B hC (i := b) (by omega) h0 (C := RX3) (T := TX3) (n := 6) rfl iwX3_whereIs_X3 0 (by decide) (index := 9) flX3_whereIs_9 rfl (v := .ref (ad (b + 1))) rfl dX3_whereIs_6 ?_
  refine r_calen B hC (i := b + 1) (by omega) h1 0 rfl (n := 10) rfl dX3_whereIs_9 ?_
  refine lv_icmp_ge (tgt := 22) B.1 B.2.1 dX3_whereIs_10 (by decide) (fun z => absurd z (nI_ge (by omega) (by omega))) (fun _ => ?_)
  refine lv_aload_n B.1 B.2.1 dX3_whereIs_13 rfl (lv_at hl 0 rfl) ?_
  refine r_cg B hC (i := b) (by omega) h0 (C := RX3) (T := TX3) (n := 6) rfl iwX3_whereIs_X3 0 (by decide) (index := 9) flX3_whereIs_9 rfl (v := .ref (ad (b + 1))) rfl dX3_whereIs_14 ?_
  refine lv_iload_n B.1 B.2.1 dX3_whereIs_17 rfl (lv_at hl 1 rfl) ?_
  refine r_cald B hC (i := b + 1) (by omega) h1 (j := t) (by omega) (by decide) dX3_whereIs_18 ?_
  refine r_tI (y := nI (wh w t)) rfl ?_
  refine lv_goto (tgt := 25) B.1 B.2.1 dX3_whereIs_19 (by decide) ?_
  exact r_eI B hC (v := nI (wh w t)) (⟨rfl, rfl⟩) dX3_whereIs_25
theorem iwX3_lengthOf_X3 : ∀ w ∈ u_ws RX3 TX3 6, w ∈ wsX3_lengthOf := by decide +kernel
theorem flX3_lengthOf_15 : Cond.fieldLink RX3 15 RX3 (TX3 1).2.1 (TX3 1).2.2.1 ∈ wsX3_lengthOf := by decide +kernel
set_option maxHeartbeats 4000000 in
set_option maxRecDepth 100000 in
theorem ctX3_lengthOf (l : Launch) (g : Gx) (lo : Nat) (ad : Nat → Nat) {F : Nat → va_E} {b : Nat} {w : LV} (hb : 8 ≤ b ∧ b + 5 ≤ 196) (hL : LoadC g ad F b w) {t : Nat} (ht : t < 10) : MI l g lo 196 ad yX3_lengthOf wsX3_lengthOf 0 0 [.ref (ad (b)), .int (nI t)] F (fun r F' => r = nI (ln w t) ∧ F' = F) := by
  obtain ⟨h0, h1, h2, h3, h4⟩ := hL
  refine enter (cc := cX3_lengthOf) (maxL := 2) (ret := some .int) (own := RX3) (by decide +kernel) rfl rfl (Nat.le_of_ble_eq_true rfl) ?_
  intro pp ee ss mm below meth cc B hini hC ls hl
  have hl : lv_has ls 2 [(0, .ref (ad (b))), (1, .int (nI t))] := hl
  refine lv_iload_n B.1 B.2.1 dX3_lengthOf_0 rfl (lv_at hl 1 rfl) ?_
  refine lv_if_lt (tgt := 22) B.1 B.2.1 dX3_lengthOf_1 (by decide) (fun z => absurd z (nI_pos (by omega))) (fun _ => ?_)
  refine lv_iload_n B.1 B.2.1 dX3_lengthOf_4 rfl (lv_at hl 1 rfl) ?_
  refine lv_aload_n B.1 B.2.1 dX3_lengthOf_5 rfl (lv_at hl 0 rfl) ?_
  refine r_cg B hC (i := b) (by omega) h0 (C := RX3) (T := TX3) (n := 6) rfl iwX3_lengthOf_X3 1 (by decide) (index := 15) flX3_lengthOf_15 rfl (v := .ref (ad (b + 2))) rfl dX3_lengthOf_6 ?_
  refine r_calen B hC (i := b + 2) (by omega) h2 0 rfl (n := 10) rfl dX3_lengthOf_9 ?_
  refine lv_icmp_ge (tgt := 22) B.1 B.2.1 dX3_lengthOf_10 (by decide) (fun z => absurd z (nI_ge (by omega) (by omega))) (fun _ => ?_)
  refine lv_aload_n B.1 B.2.1 dX3_lengthOf_13 rfl (lv_at hl 0 rfl) ?_
  refine r_cg B hC (i := b) (by omega) h0 (C := RX3) (T := TX3) (n := 6) rfl iwX3_lengthOf_X3 1 (by decide) (index := 15) flX3_lengthOf_15 rfl (v := .ref (ad (b + 2))) rfl dX3_lengthOf_14 ?_
  refine lv_iload_n B.1 B.2.1 dX3_lengthOf_17 rfl (lv_at hl 1 rfl) ?_
  refine r_cald B hC (i := b + 2) (by omega) h2 (j := t) (by omega) (by decide) dX3_lengthOf_18 ?_
  refine r_tI (y := nI (ln w t)) rfl ?_
  refine lv_goto (tgt := 23) B.1 B.2.1 dX3_lengthOf_19 (by decide) ?_
  exact r_eI B hC (v := nI (ln w t)) (⟨rfl, rfl⟩) dX3_lengthOf_23
theorem iwX3_timberIn_X3 : ∀ w ∈ u_ws RX3 TX3 6, w ∈ wsX3_timberIn := by decide +kernel
theorem flX3_timberIn_21 : Cond.fieldLink RX3 21 RX3 (TX3 3).2.1 (TX3 3).2.2.1 ∈ wsX3_timberIn := by decide +kernel
set_option maxHeartbeats 4000000 in
set_option maxRecDepth 100000 in
theorem ctX3_timberIn (l : Launch) (g : Gx) (lo : Nat) (ad : Nat → Nat) {F : Nat → va_E} {b : Nat} {w : LV} (hb : 8 ≤ b ∧ b + 5 ≤ 196) (hL : LoadC g ad F b w) {t : Nat} (ht : t < 10) : MI l g lo 196 ad yX3_timberIn wsX3_timberIn 0 0 [.ref (ad (b)), .int (nI t)] F (fun r F' => r = oI (ti w t) ∧ F' = F) := by
  obtain ⟨h0, h1, h2, h3, h4⟩ := hL
  refine enter (cc := cX3_timberIn) (maxL := 2) (ret := some .int) (own := RX3) (by decide +kernel) rfl rfl (Nat.le_of_ble_eq_true rfl) ?_
  intro pp ee ss mm below meth cc B hini hC ls hl
  have hl : lv_has ls 2 [(0, .ref (ad (b))), (1, .int (nI t))] := hl
  refine lv_iload_n B.1 B.2.1 dX3_timberIn_0 rfl (lv_at hl 1 rfl) ?_
  refine lv_if_lt (tgt := 22) B.1 B.2.1 dX3_timberIn_1 (by decide) (fun z => absurd z (nI_pos (by omega))) (fun _ => ?_)
  refine lv_iload_n B.1 B.2.1 dX3_timberIn_4 rfl (lv_at hl 1 rfl) ?_
  refine lv_aload_n B.1 B.2.1 dX3_timberIn_5 rfl (lv_at hl 0 rfl) ?_
  refine r_cg B hC (i := b) (by omega) h0 (C := RX3) (T := TX3) (n := 6) rfl iwX3_timberIn_X3 3 (by decide) (index := 21) flX3_timberIn_21 rfl (v := .ref (ad (b + 4))) rfl dX3_timberIn_6 ?_
  refine r_calen B hC (i := b + 4) (by omega) h4 0 rfl (n := 10) rfl dX3_timberIn_9 ?_
  refine lv_icmp_ge (tgt := 22) B.1 B.2.1 dX3_timberIn_10 (by decide) (fun z => absurd z (nI_ge (by omega) (by omega))) (fun _ => ?_)
  refine lv_aload_n B.1 B.2.1 dX3_timberIn_13 rfl (lv_at hl 0 rfl) ?_
  refine r_cg B hC (i := b) (by omega) h0 (C := RX3) (T := TX3) (n := 6) rfl iwX3_timberIn_X3 3 (by decide) (index := 21) flX3_timberIn_21 rfl (v := .ref (ad (b + 4))) rfl dX3_timberIn_14 ?_
  refine lv_iload_n B.1 B.2.1 dX3_timberIn_17 rfl (lv_at hl 1 rfl) ?_
  refine r_cald B hC (i := b + 4) (by omega) h4 (j := t) (by omega) (by decide) dX3_timberIn_18 ?_
  refine r_tI (y := oI (ti w t)) rfl ?_
  refine lv_goto (tgt := 24) B.1 B.2.1 dX3_timberIn_19 (by decide) ?_
  exact r_eI B hC (v := oI (ti w t)) (⟨rfl, rfl⟩) dX3_timberIn_24
theorem iwX3_wormsIn_X3 : ∀ w ∈ u_ws RX3 TX3 6, w ∈ wsX3_wormsIn := by decide +kernel
theorem flX3_wormsIn_18 : Cond.fieldLink RX3 18 RX3 (TX3 2).2.1 (TX3 2).2.2.1 ∈ wsX3_wormsIn := by decide +kernel
set_option maxHeartbeats 4000000 in
set_option maxRecDepth 100000 in
theorem ctX3_wormsIn_some (l : Launch) (g : Gx) (lo : Nat) (ad : Nat → Nat) {F : Nat → va_E} {b : Nat} {w : LV} (hb : 8 ≤ b ∧ b + 5 ≤ 196) (hL : LoadC g ad F b w) {t : Nat} (ht : t < 10) : MI l g lo 196 ad yX3_wormsIn wsX3_wormsIn 0 0 [.ref (ad (b)), .int (nI t)] F (fun r F' => r = nI (wo w t) ∧ F' = F) := by
  obtain ⟨h0, h1, h2, h3, h4⟩ := hL
  refine enter (cc := cX3_wormsIn) (maxL := 2) (ret := some .int) (own := RX3) (by decide +kernel) rfl rfl (Nat.le_of_ble_eq_true rfl) ?_
  intro pp ee ss mm below meth cc B hini hC ls hl
  have hl : lv_has ls 2 [(0, .ref (ad (b))), (1, .int (nI t))] := hl
  refine lv_iload_n B.1 B.2.1 dX3_wormsIn_0 rfl (lv_at hl 1 rfl) ?_
  refine lv_if_lt (tgt := 22) B.1 B.2.1 dX3_wormsIn_1 (by decide) (fun z => absurd z (nI_pos (by omega))) (fun _ => ?_)
  refine lv_iload_n B.1 B.2.1 dX3_wormsIn_4 rfl (lv_at hl 1 rfl) ?_
  refine lv_aload_n B.1 B.2.1 dX3_wormsIn_5 rfl (lv_at hl 0 rfl) ?_
  refine r_cg B hC (i := b) (by omega) h0 (C := RX3) (T := TX3) (n := 6) rfl iwX3_wormsIn_X3 2 (by decide) (index := 18) flX3_wormsIn_18 rfl (v := .ref (ad (b + 3))) rfl dX3_wormsIn_6 ?_
  refine r_calen B hC (i := b + 3) (by omega) h3 0 rfl (n := 10) rfl dX3_wormsIn_9 ?_
  refine lv_icmp_ge (tgt := 22) B.1 B.2.1 dX3_wormsIn_10 (by decide) (fun z => absurd z (nI_ge (by omega) (by omega))) (fun _ => ?_)
  refine lv_aload_n B.1 B.2.1 dX3_wormsIn_13 rfl (lv_at hl 0 rfl) ?_
  refine r_cg B hC (i := b) (by omega) h0 (C := RX3) (T := TX3) (n := 6) rfl iwX3_wormsIn_X3 2 (by decide) (index := 18) flX3_wormsIn_18 rfl (v := .ref (ad (b + 3))) rfl dX3_wormsIn_14 ?_
  refine lv_iload_n B.1 B.2.1 dX3_wormsIn_17 rfl (lv_at hl 1 rfl) ?_
  refine r_cald B hC (i := b + 3) (by omega) h3 (j := t) (by omega) (by decide) dX3_wormsIn_18 ?_
  refine r_tI (y := nI (wo w t)) rfl ?_
  refine lv_goto (tgt := 23) B.1 B.2.1 dX3_wormsIn_19 (by decide) ?_
  exact r_eI B hC (v := nI (wo w t)) (⟨rfl, rfl⟩) dX3_wormsIn_23
set_option maxHeartbeats 4000000 in
set_option maxRecDepth 100000 in
theorem ctX3_wormsIn_none (l : Launch) (g : Gx) (lo : Nat) (ad : Nat → Nat) {F : Nat → va_E} {b : Nat} {w : LV} (hb : 8 ≤ b ∧ b + 5 ≤ 196) (hL : LoadC g ad F b w) : MI l g lo 196 ad yX3_wormsIn wsX3_wormsIn 0 0 [.ref (ad (b)), .int ((-9))] F (fun r F' => r = nI 0 ∧ F' = F) := by
  obtain ⟨h0, h1, h2, h3, h4⟩ := hL
  refine enter (cc := cX3_wormsIn) (maxL := 2) (ret := some .int) (own := RX3) (by decide +kernel) rfl rfl (Nat.le_of_ble_eq_true rfl) ?_
  intro pp ee ss mm below meth cc B hini hC ls hl
  have hl : lv_has ls 2 [(0, .ref (ad (b))), (1, .int ((-9)))] := hl
  refine lv_iload_n B.1 B.2.1 dX3_wormsIn_0 rfl (lv_at hl 1 rfl) ?_
  refine lv_if_lt (tgt := 22) B.1 B.2.1 dX3_wormsIn_1 (by decide) (fun _ => ?_) (fun z => absurd ((by decide)) z)
  refine lv_iconst (v := nI 0) B.1 B.2.1 dX3_wormsIn_22 (by decide) ?_
  exact r_eI B hC (v := nI 0) (⟨rfl, rfl⟩) dX3_wormsIn_23
theorem iwX3_isOpen_X3 : ∀ w ∈ u_ws RX3 TX3 6, w ∈ wsX3_isOpen := by decide +kernel
theorem flX3_isOpen_21 : Cond.fieldLink RX3 21 RX3 (TX3 3).2.1 (TX3 3).2.2.1 ∈ wsX3_isOpen := by decide +kernel
set_option maxHeartbeats 4000000 in
set_option maxRecDepth 100000 in
theorem ctX3_isOpen (l : Launch) (g : Gx) (lo : Nat) (ad : Nat → Nat) {F : Nat → va_E} {b : Nat} {w : LV} (hb : 8 ≤ b ∧ b + 5 ≤ 196) (hL : LoadC g ad F b w) {t : Nat} (ht : t < 10) (hB : ∀ k, ti w t = some k → k < 10) : MI l g lo 196 ad yX3_isOpen wsX3_isOpen 0 0 [.ref (ad (b)), .int (nI t)] F (fun r F' => r = bI (ti w t).isNone ∧ F' = F) := by
  obtain ⟨h0, h1, h2, h3, h4⟩ := hL
  refine enter (cc := cX3_isOpen) (maxL := 2) (ret := some .boolean) (own := RX3) (by decide +kernel) rfl rfl (Nat.le_of_ble_eq_true rfl) ?_
  intro pp ee ss mm below meth cc B hini hC ls hl
  have hl : lv_has ls 2 [(0, .ref (ad (b))), (1, .int (nI t))] := hl
  refine lv_iload_n B.1 B.2.1 dX3_isOpen_0 rfl (lv_at hl 1 rfl) ?_
  refine lv_if_lt (tgt := 24) B.1 B.2.1 dX3_isOpen_1 (by decide) (fun z => absurd z (nI_pos (by omega))) (fun _ => ?_)
  refine lv_iload_n B.1 B.2.1 dX3_isOpen_4 rfl (lv_at hl 1 rfl) ?_
  refine lv_aload_n B.1 B.2.1 dX3_isOpen_5 rfl (lv_at hl 0 rfl) ?_
  refine r_cg B hC (i := b) (by omega) h0 (C := RX3) (T := TX3) (n := 6) rfl iwX3_isOpen_X3 3 (by decide) (index := 21) flX3_isOpen_21 rfl (v := .ref (ad (b + 4))) rfl dX3_isOpen_6 ?_
  refine r_calen B hC (i := b + 4) (by omega) h4 0 rfl (n := 10) rfl dX3_isOpen_9 ?_
  refine lv_icmp_ge (tgt := 24) B.1 B.2.1 dX3_isOpen_10 (by decide) (fun z => absurd z (nI_ge (by omega) (by omega))) (fun _ => ?_)
  refine lv_aload_n B.1 B.2.1 dX3_isOpen_13 rfl (lv_at hl 0 rfl) ?_
  refine r_cg B hC (i := b) (by omega) h0 (C := RX3) (T := TX3) (n := 6) rfl iwX3_isOpen_X3 3 (by decide) (index := 21) flX3_isOpen_21 rfl (v := .ref (ad (b + 4))) rfl dX3_isOpen_14 ?_
  refine lv_iload_n B.1 B.2.1 dX3_isOpen_17 rfl (lv_at hl 1 rfl) ?_
  refine r_cald B hC (i := b + 4) (by omega) h4 (j := t) (by omega) (by decide) dX3_isOpen_18 ?_
  refine r_tI (y := oI (ti w t)) rfl ?_
  refine lv_bipush (v := (-9)) B.1 B.2.1 dX3_isOpen_19 (by decide) ?_
  refine lv_icmp_ne (tgt := 28) B.1 B.2.1 dX3_isOpen_21 (by decide) (fun c_21 => ?_) (fun c_21 => ?_)
  · have q := fun z => c_21 ((oI_9 (fun k hk => Nat.lt_trans (hB k hk) (by decide))).mpr z)
    refine lv_iconst (v := nI 0) B.1 B.2.1 dX3_isOpen_28 (by decide) ?_
    exact r_eZ B hC (v := nI 0) (rfl) (⟨by cases hh : ti w t <;> first | rfl | exact absurd hh q, rfl⟩) dX3_isOpen_29
  · have q := (oI_9 (fun k hk => Nat.lt_trans (hB k hk) (by decide))).mp c_21
    refine lv_iconst (v := nI 1) B.1 B.2.1 dX3_isOpen_24 (by decide) ?_
    refine lv_goto (tgt := 29) B.1 B.2.1 dX3_isOpen_25 (by decide) ?_
    exact r_eZ B hC (v := nI 1) (rfl) (⟨by rw [q]; rfl, rfl⟩) dX3_isOpen_29
theorem iwX3_waterInside_X3 : ∀ w ∈ u_ws RX3 TX3 6, w ∈ wsX3_waterInside := by decide +kernel
theorem flX3_waterInside_24 : Cond.fieldLink RX3 24 RX3 (TX3 4).2.1 (TX3 4).2.2.1 ∈ wsX3_waterInside := by decide +kernel
set_option maxHeartbeats 4000000 in
set_option maxRecDepth 100000 in
theorem ctX3_waterInside (l : Launch) (g : Gx) (lo : Nat) (ad : Nat → Nat) {F : Nat → va_E} {b : Nat} {w : LV} (hb : 8 ≤ b ∧ b + 5 ≤ 196) (hL : LoadC g ad F b w) : MI l g lo 196 ad yX3_waterInside wsX3_waterInside 0 0 [.ref (ad (b))] F (fun r F' => r = nI (wa w) ∧ F' = F) := by
  obtain ⟨h0, h1, h2, h3, h4⟩ := hL
  refine enter (cc := cX3_waterInside) (maxL := 1) (ret := some .int) (own := RX3) (by decide +kernel) rfl rfl (Nat.le_of_ble_eq_true rfl) ?_
  intro pp ee ss mm below meth cc B hini hC ls hl
  have hl : lv_has ls 1 [(0, .ref (ad (b)))] := hl
  refine lv_aload_n B.1 B.2.1 dX3_waterInside_0 rfl (lv_at hl 0 rfl) ?_
  refine r_cg B hC (i := b) (by omega) h0 (C := RX3) (T := TX3) (n := 6) rfl iwX3_waterInside_X3 4 (by decide) (index := 24) flX3_waterInside_24 rfl (v := .int (nI (wa w))) rfl dX3_waterInside_1 ?_
  exact r_eI B hC (v := nI (wa w)) (⟨rfl, rfl⟩) dX3_waterInside_4
theorem iwX3_isSunk_X3 : ∀ w ∈ u_ws RX3 TX3 6, w ∈ wsX3_isSunk := by decide +kernel
theorem flX3_isSunk_28 : Cond.fieldLink RX3 28 RX3 (TX3 5).2.1 (TX3 5).2.2.1 ∈ wsX3_isSunk := by decide +kernel
set_option maxHeartbeats 4000000 in
set_option maxRecDepth 100000 in
theorem ctX3_isSunk (l : Launch) (g : Gx) (lo : Nat) (ad : Nat → Nat) {F : Nat → va_E} {b : Nat} {w : LV} (hb : 8 ≤ b ∧ b + 5 ≤ 196) (hL : LoadC g ad F b w) : MI l g lo 196 ad yX3_isSunk wsX3_isSunk 0 0 [.ref (ad (b))] F (fun r F' => r = bI (su w) ∧ F' = F) := by
  obtain ⟨h0, h1, h2, h3, h4⟩ := hL
  refine enter (cc := cX3_isSunk) (maxL := 1) (ret := some .boolean) (own := RX3) (by decide +kernel) rfl rfl (Nat.le_of_ble_eq_true rfl) ?_
  intro pp ee ss mm below meth cc B hini hC ls hl
  have hl : lv_has ls 1 [(0, .ref (ad (b)))] := hl
  refine lv_aload_n B.1 B.2.1 dX3_isSunk_0 rfl (lv_at hl 0 rfl) ?_
  refine r_cg B hC (i := b) (by omega) h0 (C := RX3) (T := TX3) (n := 6) rfl iwX3_isSunk_X3 5 (by decide) (index := 28) flX3_isSunk_28 rfl (v := .int (bI (su w))) rfl dX3_isSunk_1 ?_
  exact r_eZ B hC (v := bI (su w)) (nar_b _) (⟨rfl, rfl⟩) dX3_isSunk_4
def cutV (w : LV) (t x : Nat) : LV := (wh w, va_up (ln w) t x, wo w, ti w, wa w, su w)
theorem iwX3_cutTo_X3 : ∀ w ∈ u_ws RX3 TX3 6, w ∈ wsX3_cutTo := by decide +kernel
theorem flX3_cutTo_15 : Cond.fieldLink RX3 15 RX3 (TX3 1).2.1 (TX3 1).2.2.1 ∈ wsX3_cutTo := by decide +kernel
set_option maxHeartbeats 4000000 in
set_option maxRecDepth 100000 in
theorem ctX3_cutTo (l : Launch) (g : Gx) (lo : Nat) (ad : Nat → Nat) {F : Nat → va_E} {b : Nat} {w : LV} (hb : 8 ≤ b ∧ b + 5 ≤ 196) (hL : LoadC g ad F b w) {t x : Nat} (ht : t < 10) : MV l g lo 196 ad yX3_cutTo wsX3_cutTo 0 0 [.ref (ad (b)), .int (nI t), .int (nI x)] F (fun F' => LoadC g ad F' b (cutV w t x) ∧ Same b (b + 5) F F') := by
  obtain ⟨h0, h1, h2, h3, h4⟩ := hL
  refine enter (cc := cX3_cutTo) (maxL := 3) (ret := none) (own := RX3) (by decide +kernel) rfl rfl (Nat.le_of_ble_eq_true rfl) ?_
  intro pp ee ss mm below meth cc B hini hC ls hl
  have hl : lv_has ls 3 [(0, .ref (ad (b))), (1, .int (nI t)), (2, .int (nI x))] := hl
  refine lv_iload_n B.1 B.2.1 dX3_cutTo_0 rfl (lv_at hl 1 rfl) ?_
  refine lv_if_lt (tgt := 20) B.1 B.2.1 dX3_cutTo_1 (by decide) (fun z => absurd z (nI_pos (by omega))) (fun _ => ?_)
  refine lv_iload_n B.1 B.2.1 dX3_cutTo_4 rfl (lv_at hl 1 rfl) ?_
  refine lv_aload_n B.1 B.2.1 dX3_cutTo_5 rfl (lv_at hl 0 rfl) ?_
  refine r_cg B hC (i := b) (by omega) h0 (C := RX3) (T := TX3) (n := 6) rfl iwX3_cutTo_X3 1 (by decide) (index := 15) flX3_cutTo_15 rfl (v := .ref (ad (b + 2))) rfl dX3_cutTo_6 ?_
  refine r_calen B hC (i := b + 2) (by omega) h2 0 rfl (n := 10) rfl dX3_cutTo_9 ?_
  refine lv_icmp_ge (tgt := 20) B.1 B.2.1 dX3_cutTo_10 (by decide) (fun z => absurd z (nI_ge (by omega) (by omega))) (fun _ => ?_)
  refine lv_aload_n B.1 B.2.1 dX3_cutTo_13 rfl (lv_at hl 0 rfl) ?_
  refine r_cg B hC (i := b) (by omega) h0 (C := RX3) (T := TX3) (n := 6) rfl iwX3_cutTo_X3 1 (by decide) (index := 15) flX3_cutTo_15 rfl (v := .ref (ad (b + 2))) rfl dX3_cutTo_14 ?_
  refine lv_iload_n B.1 B.2.1 dX3_cutTo_17 rfl (lv_at hl 1 rfl) ?_
  refine lv_iload_n B.1 B.2.1 dX3_cutTo_18 rfl (lv_at hl 2 rfl) ?_
  refine r_cast B hC (i := b + 2) (by omega) h2 (j := t) (by omega) (by decide) dX3_cutTo_19 ?_
  intro H locs hC
  obtain ⟨F1, eF1⟩ : ∃ f : Nat → va_E, f = va_up F (b + 2) (.inl (g.2.2 0, 10, .inl (fun j => nI (va_up (ln w) t x j)))) := ⟨_, rfl⟩
  have hC : Cu g lo 196 ad F1 ss ss.heap H locs := by rw [eF1]; exact (by rw [← upd_nI (ln w) t x]; exact hC)
  have kb2_F1 : F1 (b + 2) = .inl (g.2.2 0, 10, .inl (fun j => nI (va_up (ln w) t x j))) := by rw [eF1]; exact va_up_self _ _ _
  have h0_F1 : F1 b = .inr (3, [.ref (ad (b + 1)), .ref (ad (b + 2)), .ref (ad (b + 3)), .ref (ad (b + 4)), .int (nI (wa w)), .int (bI (su w))]) := by rw [eF1, va_up_ne _ _ (by omega)]; exact h0
  have h1_F1 : F1 (b + 1) = .inl (g.2.2 0, 10, .inl (fun j => nI (wh w j))) := by rw [eF1, va_up_ne _ _ (by omega)]; exact h1
  have h3_F1 : F1 (b + 3) = .inl (g.2.2 0, 10, .inl (fun j => nI (wo w j))) := by rw [eF1, va_up_ne _ _ (by omega)]; exact h3
  have h4_F1 : F1 (b + 4) = .inl (g.2.2 0, 10, .inl (fun j => oI (ti w j))) := by rw [eF1, va_up_ne _ _ (by omega)]; exact h4
  exact r_eV B hC (⟨⟨h0_F1, h1_F1, kb2_F1, h3_F1, h4_F1⟩, (by rw [eF1]; exact Same.up Same.rf (by omega) (by omega))⟩) dX3_cutTo_20
def wormV (w : LV) (t : Nat) : LV := (wh w, ln w, va_up (wo w) t (wo w t + 1), ti w, wa w, su w)
theorem iwX3_addWorm_X3 : ∀ w ∈ u_ws RX3 TX3 6, w ∈ wsX3_addWorm := by decide +kernel
theorem flX3_addWorm_18 : Cond.fieldLink RX3 18 RX3 (TX3 2).2.1 (TX3 2).2.2.1 ∈ wsX3_addWorm := by decide +kernel
set_option maxHeartbeats 4000000 in
set_option maxRecDepth 100000 in
theorem ctX3_addWorm (l : Launch) (g : Gx) (lo : Nat) (ad : Nat → Nat) {F : Nat → va_E} {b : Nat} {w : LV} (hb : 8 ≤ b ∧ b + 5 ≤ 196) (hL : LoadC g ad F b w) {t : Nat} (ht : t < 10) : MV l g lo 196 ad yX3_addWorm wsX3_addWorm 0 0 [.ref (ad (b)), .int (nI t)] F (fun F' => LoadC g ad F' b (wormV w t) ∧ Same b (b + 5) F F') := by
  obtain ⟨h0, h1, h2, h3, h4⟩ := hL
  refine enter (cc := cX3_addWorm) (maxL := 2) (ret := none) (own := RX3) (by decide +kernel) rfl rfl (Nat.le_of_ble_eq_true rfl) ?_
  intro pp ee ss mm below meth cc B hini hC ls hl
  have hl : lv_has ls 2 [(0, .ref (ad (b))), (1, .int (nI t))] := hl
  refine lv_iload_n B.1 B.2.1 dX3_addWorm_0 rfl (lv_at hl 1 rfl) ?_
  refine lv_if_lt (tgt := 23) B.1 B.2.1 dX3_addWorm_1 (by decide) (fun z => absurd z (nI_pos (by omega))) (fun _ => ?_)
  refine lv_iload_n B.1 B.2.1 dX3_addWorm_4 rfl (lv_at hl 1 rfl) ?_
  refine lv_aload_n B.1 B.2.1 dX3_addWorm_5 rfl (lv_at hl 0 rfl) ?_
  refine r_cg B hC (i := b) (by omega) h0 (C := RX3) (T := TX3) (n := 6) rfl iwX3_addWorm_X3 2 (by decide) (index := 18) flX3_addWorm_18 rfl (v := .ref (ad (b + 3))) rfl dX3_addWorm_6 ?_
  refine r_calen B hC (i := b + 3) (by omega) h3 0 rfl (n := 10) rfl dX3_addWorm_9 ?_
  refine lv_icmp_ge (tgt := 23) B.1 B.2.1 dX3_addWorm_10 (by decide) (fun z => absurd z (nI_ge (by omega) (by omega))) (fun _ => ?_)
  refine lv_aload_n B.1 B.2.1 dX3_addWorm_13 rfl (lv_at hl 0 rfl) ?_
  refine r_cg B hC (i := b) (by omega) h0 (C := RX3) (T := TX3) (n := 6) rfl iwX3_addWorm_X3 2 (by decide) (index := 18) flX3_addWorm_18 rfl (v := .ref (ad (b + 3))) rfl dX3_addWorm_14 ?_
  refine lv_iload_n B.1 B.2.1 dX3_addWorm_17 rfl (lv_at hl 1 rfl) ?_
  refine lv_dup2_11 B.1 B.2.1 dX3_addWorm_18 rfl rfl ?_
  refine r_cald B hC (i := b + 3) (by omega) h3 (j := t) (by omega) (by decide) dX3_addWorm_19 ?_
  refine r_tI (y := nI (wo w t)) rfl ?_
  refine lv_iconst (v := nI 1) B.1 B.2.1 dX3_addWorm_20 (by decide) ?_
  refine lv_iadd B.1 B.2.1 dX3_addWorm_21 ?_
  refine r_tI (y := nI ((wo w t) + 1)) (nI_add _ _) ?_
  refine r_cast B hC (i := b + 3) (by omega) h3 (j := t) (by omega) (by decide) dX3_addWorm_22 ?_
  intro H locs hC
  obtain ⟨F1, eF1⟩ : ∃ f : Nat → va_E, f = va_up F (b + 3) (.inl (g.2.2 0, 10, .inl (fun j => nI (va_up (wo w) t (wo w t + 1) j)))) := ⟨_, rfl⟩
  have hC : Cu g lo 196 ad F1 ss ss.heap H locs := by rw [eF1]; exact (by rw [← upd_nI (wo w) t (wo w t + 1)]; exact hC)
  have kb3_F1 : F1 (b + 3) = .inl (g.2.2 0, 10, .inl (fun j => nI (va_up (wo w) t (wo w t + 1) j))) := by rw [eF1]; exact va_up_self _ _ _
  have h0_F1 : F1 b = .inr (3, [.ref (ad (b + 1)), .ref (ad (b + 2)), .ref (ad (b + 3)), .ref (ad (b + 4)), .int (nI (wa w)), .int (bI (su w))]) := by rw [eF1, va_up_ne _ _ (by omega)]; exact h0
  have h1_F1 : F1 (b + 1) = .inl (g.2.2 0, 10, .inl (fun j => nI (wh w j))) := by rw [eF1, va_up_ne _ _ (by omega)]; exact h1
  have h2_F1 : F1 (b + 2) = .inl (g.2.2 0, 10, .inl (fun j => nI (ln w j))) := by rw [eF1, va_up_ne _ _ (by omega)]; exact h2
  have h4_F1 : F1 (b + 4) = .inl (g.2.2 0, 10, .inl (fun j => oI (ti w j))) := by rw [eF1, va_up_ne _ _ (by omega)]; exact h4
  exact r_eV B hC (⟨⟨h0_F1, h1_F1, h2_F1, kb3_F1, h4_F1⟩, (by rw [eF1]; exact Same.up Same.rf (by omega) (by omega))⟩) dX3_addWorm_23
def waterV (w : LV) (x : Nat) : LV := (wh w, ln w, wo w, ti w, x, su w)
theorem iwX3_setWater_X3 : ∀ w ∈ u_ws RX3 TX3 6, w ∈ wsX3_setWater := by decide +kernel
theorem flX3_setWater_24 : Cond.fieldLink RX3 24 RX3 (TX3 4).2.1 (TX3 4).2.2.1 ∈ wsX3_setWater := by decide +kernel
set_option maxHeartbeats 4000000 in
set_option maxRecDepth 100000 in
theorem ctX3_setWater (l : Launch) (g : Gx) (lo : Nat) (ad : Nat → Nat) {F : Nat → va_E} {b : Nat} {w : LV} (hb : 8 ≤ b ∧ b + 5 ≤ 196) (hL : LoadC g ad F b w) {x : Nat} : MV l g lo 196 ad yX3_setWater wsX3_setWater 0 0 [.ref (ad (b)), .int (nI x)] F (fun F' => LoadC g ad F' b (waterV w x) ∧ Same b (b + 5) F F') := by
  obtain ⟨h0, h1, h2, h3, h4⟩ := hL
  refine enter (cc := cX3_setWater) (maxL := 2) (ret := none) (own := RX3) (by decide +kernel) rfl rfl (Nat.le_of_ble_eq_true rfl) ?_
  intro pp ee ss mm below meth cc B hini hC ls hl
  have hl : lv_has ls 2 [(0, .ref (ad (b))), (1, .int (nI x))] := hl
  refine lv_aload_n B.1 B.2.1 dX3_setWater_0 rfl (lv_at hl 0 rfl) ?_
  refine lv_iload_n B.1 B.2.1 dX3_setWater_1 rfl (lv_at hl 1 rfl) ?_
  refine r_cp B hC (i := b) (by omega) h0 tyX3 tyX3_ok nmX3 (C := RX3) (T := TX3) rfl iwX3_setWater_X3 4 (by decide) (index := 24) flX3_setWater_24 rfl rfl (v := .int (nI x)) (rfl) (rfl) (Nat.le_of_ble_eq_true rfl) dX3_setWater_2 ?_
  intro H locs hC
  obtain ⟨F1, eF1⟩ : ∃ f : Nat → va_E, f = va_up F (b) (.inr (3, [.ref (ad (b + 1)), .ref (ad (b + 2)), .ref (ad (b + 3)), .ref (ad (b + 4)), .int (nI x), .int (bI (su w))])) := ⟨_, rfl⟩
  have hC : Cu g lo 196 ad F1 ss ss.heap H locs := by rw [eF1]; exact hC
  have kb_F1 : F1 b = .inr (3, [.ref (ad (b + 1)), .ref (ad (b + 2)), .ref (ad (b + 3)), .ref (ad (b + 4)), .int (nI x), .int (bI (su w))]) := by rw [eF1]; exact va_up_self _ _ _
  have h1_F1 : F1 (b + 1) = .inl (g.2.2 0, 10, .inl (fun j => nI (wh w j))) := by rw [eF1, va_up_ne _ _ (by omega)]; exact h1
  have h2_F1 : F1 (b + 2) = .inl (g.2.2 0, 10, .inl (fun j => nI (ln w j))) := by rw [eF1, va_up_ne _ _ (by omega)]; exact h2
  have h3_F1 : F1 (b + 3) = .inl (g.2.2 0, 10, .inl (fun j => nI (wo w j))) := by rw [eF1, va_up_ne _ _ (by omega)]; exact h3
  have h4_F1 : F1 (b + 4) = .inl (g.2.2 0, 10, .inl (fun j => oI (ti w j))) := by rw [eF1, va_up_ne _ _ (by omega)]; exact h4
  exact r_eV B hC (⟨⟨kb_F1, h1_F1, h2_F1, h3_F1, h4_F1⟩, (by rw [eF1]; exact Same.up Same.rf (by omega) (by omega))⟩) dX3_setWater_5
def sinkV (w : LV) : LV := (wh w, ln w, wo w, ti w, wa w, true)
theorem iwX3_sink_X3 : ∀ w ∈ u_ws RX3 TX3 6, w ∈ wsX3_sink := by decide +kernel
theorem flX3_sink_28 : Cond.fieldLink RX3 28 RX3 (TX3 5).2.1 (TX3 5).2.2.1 ∈ wsX3_sink := by decide +kernel
set_option maxHeartbeats 4000000 in
set_option maxRecDepth 100000 in
theorem ctX3_sink (l : Launch) (g : Gx) (lo : Nat) (ad : Nat → Nat) {F : Nat → va_E} {b : Nat} {w : LV} (hb : 8 ≤ b ∧ b + 5 ≤ 196) (hL : LoadC g ad F b w) : MV l g lo 196 ad yX3_sink wsX3_sink 0 0 [.ref (ad (b))] F (fun F' => LoadC g ad F' b (sinkV w) ∧ Same b (b + 5) F F') := by
  obtain ⟨h0, h1, h2, h3, h4⟩ := hL
  refine enter (cc := cX3_sink) (maxL := 1) (ret := none) (own := RX3) (by decide +kernel) rfl rfl (Nat.le_of_ble_eq_true rfl) ?_
  intro pp ee ss mm below meth cc B hini hC ls hl
  have hl : lv_has ls 1 [(0, .ref (ad (b)))] := hl
  refine lv_aload_n B.1 B.2.1 dX3_sink_0 rfl (lv_at hl 0 rfl) ?_
  refine lv_iconst (v := nI 1) B.1 B.2.1 dX3_sink_1 (by decide) ?_
  refine r_cp B hC (i := b) (by omega) h0 tyX3 tyX3_ok nmX3 (C := RX3) (T := TX3) rfl iwX3_sink_X3 5 (by decide) (index := 28) flX3_sink_28 rfl rfl (v := .int (nI 1)) (rfl) (rfl) (Nat.le_of_ble_eq_true rfl) dX3_sink_2 ?_
  intro H locs hC
  obtain ⟨F1, eF1⟩ : ∃ f : Nat → va_E, f = va_up F (b) (.inr (3, [.ref (ad (b + 1)), .ref (ad (b + 2)), .ref (ad (b + 3)), .ref (ad (b + 4)), .int (nI (wa w)), .int (nI 1)])) := ⟨_, rfl⟩
  have hC : Cu g lo 196 ad F1 ss ss.heap H locs := by rw [eF1]; exact hC
  have kb_F1 : F1 b = .inr (3, [.ref (ad (b + 1)), .ref (ad (b + 2)), .ref (ad (b + 3)), .ref (ad (b + 4)), .int (nI (wa w)), .int (nI 1)]) := by rw [eF1]; exact va_up_self _ _ _
  have h1_F1 : F1 (b + 1) = .inl (g.2.2 0, 10, .inl (fun j => nI (wh w j))) := by rw [eF1, va_up_ne _ _ (by omega)]; exact h1
  have h2_F1 : F1 (b + 2) = .inl (g.2.2 0, 10, .inl (fun j => nI (ln w j))) := by rw [eF1, va_up_ne _ _ (by omega)]; exact h2
  have h3_F1 : F1 (b + 3) = .inl (g.2.2 0, 10, .inl (fun j => nI (wo w j))) := by rw [eF1, va_up_ne _ _ (by omega)]; exact h3
  have h4_F1 : F1 (b + 4) = .inl (g.2.2 0, 10, .inl (fun j => oI (ti w j))) := by rw [eF1, va_up_ne _ _ (by omega)]; exact h4
  exact r_eV B hC (⟨⟨kb_F1, h1_F1, h2_F1, h3_F1, h4_F1⟩, (by rw [eF1]; exact Same.up Same.rf (by omega) (by omega))⟩) dX3_sink_5
def bringT (w : LV) (t : Nat) : Nat → Option Nat := if wh w t < 10 then va_up (ti w) (wh w t) none else ti w
def bringV (w : LV) (t x : Nat) : LV := (va_up (wh w) t x, ln w, wo w, if x < 10 then va_up (bringT w t) x (some t) else bringT w t, wa w, su w)
theorem iwX3_bringTo_X3 : ∀ w ∈ u_ws RX3 TX3 6, w ∈ wsX3_bringTo := by decide +kernel
theorem flX3_bringTo_9 : Cond.fieldLink RX3 9 RX3 (TX3 0).2.1 (TX3 0).2.2.1 ∈ wsX3_bringTo := by decide +kernel
theorem flX3_bringTo_21 : Cond.fieldLink RX3 21 RX3 (TX3 3).2.1 (TX3 3).2.2.1 ∈ wsX3_bringTo := by decide +kernel
set_option maxHeartbeats 4000000 in
set_option maxRecDepth 100000 in
theorem ctX3_bringTo (l : Launch) (g : Gx) (lo : Nat) (ad : Nat → Nat) {F : Nat → va_E} {b : Nat} {w : LV} (hb : 8 ≤ b ∧ b + 5 ≤ 196) (hL : LoadC g ad F b w) {t x : Nat} (ht : t < 10) (hB : wh w t ≤ 200) (hx : x ≤ 200) : MV l g lo 196 ad yX3_bringTo wsX3_bringTo 0 0 [.ref (ad (b)), .int (nI t), .int (nI x)] F (fun F' => LoadC g ad F' b (bringV w t x) ∧ Same b (b + 5) F F') := by
  obtain ⟨h0, h1, h2, h3, h4⟩ := hL
  refine enter (cc := cX3_bringTo) (maxL := 4) (ret := none) (own := RX3) (by decide +kernel) rfl rfl (Nat.le_of_ble_eq_true rfl) ?_
  intro pp ee ss mm below meth cc B hini hC ls hl
  have hl : lv_has ls 4 [(0, .ref (ad (b))), (1, .int (nI t)), (2, .int (nI x))] := hl
  refine lv_iload_n B.1 B.2.1 dX3_bringTo_0 rfl (lv_at hl 1 rfl) ?_
  refine lv_if_lt (tgt := 13) B.1 B.2.1 dX3_bringTo_1 (by decide) (fun z => absurd z (nI_pos (by omega))) (fun _ => ?_)
  refine lv_iload_n B.1 B.2.1 dX3_bringTo_4 rfl (lv_at hl 1 rfl) ?_
  refine lv_aload_n B.1 B.2.1 dX3_bringTo_5 rfl (lv_at hl 0 rfl) ?_
  refine r_cg B hC (i := b) (by omega) h0 (C := RX3) (T := TX3) (n := 6) rfl iwX3_bringTo_X3 0 (by decide) (index := 9) flX3_bringTo_9 rfl (v := .ref (ad (b + 1))) rfl dX3_bringTo_6 ?_
  refine r_calen B hC (i := b + 1) (by omega) h1 0 rfl (n := 10) rfl dX3_bringTo_9 ?_
  refine lv_icmp_lt (tgt := 14) B.1 B.2.1 dX3_bringTo_10 (by decide) (fun _ => ?_) (fun z => absurd (nI_lt (by omega) (by omega)) z)
  refine lv_aload_n B.1 B.2.1 dX3_bringTo_14 rfl (lv_at hl 0 rfl) ?_
  refine r_cg B hC (i := b) (by omega) h0 (C := RX3) (T := TX3) (n := 6) rfl iwX3_bringTo_X3 0 (by decide) (index := 9) flX3_bringTo_9 rfl (v := .ref (ad (b + 1))) rfl dX3_bringTo_15 ?_
  refine lv_iload_n B.1 B.2.1 dX3_bringTo_18 rfl (lv_at hl 1 rfl) ?_
  refine r_cald B hC (i := b + 1) (by omega) h1 (j := t) (by omega) (by decide) dX3_bringTo_19 ?_
  refine r_tI (y := nI (wh w t)) rfl ?_
  refine lv_istore_n (lv' := [(3, .int (nI (wh w t))), (0, .ref (ad (b))), (1, .int (nI t)), (2, .int (nI x))]) B.1 B.2.1 dX3_bringTo_20 rfl hl (by decide) rfl (fun ls hl => ?_)
  refine lv_iload_n B.1 B.2.1 dX3_bringTo_21 rfl (lv_at hl 0 rfl) ?_
  refine lv_if_lt (tgt := 42) B.1 B.2.1 dX3_bringTo_22 (by decide) (fun z => absurd z (nI_pos (by omega))) (fun _ => ?_)
  refine lv_iload_n B.1 B.2.1 dX3_bringTo_25 rfl (lv_at hl 0 rfl) ?_
  refine lv_aload_n B.1 B.2.1 dX3_bringTo_26 rfl (lv_at hl 1 rfl) ?_
  refine r_cg B hC (i := b) (by omega) h0 (C := RX3) (T := TX3) (n := 6) rfl iwX3_bringTo_X3 3 (by decide) (index := 21) flX3_bringTo_21 rfl (v := .ref (ad (b + 4))) rfl dX3_bringTo_27 ?_
  refine r_calen B hC (i := b + 4) (by omega) h4 0 rfl (n := 10) rfl dX3_bringTo_30 ?_
  refine lv_icmp_ge (tgt := 42) B.1 B.2.1 dX3_bringTo_31 (by decide) (fun c_31 => ?_) (fun c_31 => ?_)
  · have q_31 : 10 ≤ (wh w t) := (nI_leI (by omega) (by omega)).mp c_31
    refine lv_aload_n B.1 B.2.1 dX3_bringTo_42 rfl (lv_at hl 1 rfl) ?_
    refine r_cg B hC (i := b) (by omega) h0 (C := RX3) (T := TX3) (n := 6) rfl iwX3_bringTo_X3 0 (by decide) (index := 9) flX3_bringTo_9 rfl (v := .ref (ad (b + 1))) rfl dX3_bringTo_43 ?_
    refine lv_iload_n B.1 B.2.1 dX3_bringTo_46 rfl (lv_at hl 2 rfl) ?_
    refine lv_iload_n B.1 B.2.1 dX3_bringTo_47 rfl (lv_at hl 3 rfl) ?_
    refine r_cast B hC (i := b + 1) (by omega) h1 (j := t) (by omega) (by decide) dX3_bringTo_48 ?_
    intro H locs hC
    obtain ⟨F1, eF1⟩ : ∃ f : Nat → va_E, f = va_up F (b + 1) (.inl (g.2.2 0, 10, .inl (fun j => nI (va_up (wh w) t x j)))) := ⟨_, rfl⟩
    have hC : Cu g lo 196 ad F1 ss ss.heap H locs := by rw [eF1]; exact (by rw [← upd_nI (wh w) t x]; exact hC)
    have kb1_F1 : F1 (b + 1) = .inl (g.2.2 0, 10, .inl (fun j => nI (va_up (wh w) t x j))) := by rw [eF1]; exact va_up_self _ _ _
    have h0_F1 : F1 b = .inr (3, [.ref (ad (b + 1)), .ref (ad (b + 2)), .ref (ad (b + 3)), .ref (ad (b + 4)), .int (nI (wa w)), .int (bI (su w))]) := by rw [eF1, va_up_ne _ _ (by omega)]; exact h0
    have h2_F1 : F1 (b + 2) = .inl (g.2.2 0, 10, .inl (fun j => nI (ln w j))) := by rw [eF1, va_up_ne _ _ (by omega)]; exact h2
    have h3_F1 : F1 (b + 3) = .inl (g.2.2 0, 10, .inl (fun j => nI (wo w j))) := by rw [eF1, va_up_ne _ _ (by omega)]; exact h3
    have h4_F1 : F1 (b + 4) = .inl (g.2.2 0, 10, .inl (fun j => oI (ti w j))) := by rw [eF1, va_up_ne _ _ (by omega)]; exact h4
    refine lv_iload_n B.1 B.2.1 dX3_bringTo_49 rfl (lv_at hl 3 rfl) ?_
    refine lv_if_lt (tgt := 69) B.1 B.2.1 dX3_bringTo_50 (by decide) (fun z => absurd z (nI_pos (by omega))) (fun _ => ?_)
    refine lv_iload_n B.1 B.2.1 dX3_bringTo_53 rfl (lv_at hl 3 rfl) ?_
    refine lv_aload_n B.1 B.2.1 dX3_bringTo_54 rfl (lv_at hl 1 rfl) ?_
    refine r_cg B hC (i := b) (by omega) h0_F1 (C := RX3) (T := TX3) (n := 6) rfl iwX3_bringTo_X3 3 (by decide) (index := 21) flX3_bringTo_21 rfl (v := .ref (ad (b + 4))) rfl dX3_bringTo_55 ?_
    refine r_calen B hC (i := b + 4) (by omega) h4_F1 0 rfl (n := 10) rfl dX3_bringTo_58 ?_
    refine lv_icmp_ge (tgt := 69) B.1 B.2.1 dX3_bringTo_59 (by decide) (fun c_59 => ?_) (fun c_59 => ?_)
    · have q_59 : 10 ≤ x := (nI_leI (by omega) (by omega)).mp c_59
      exact r_eV B hC (by
    have hv : bringV w t x = (va_up (wh w) t x, ln w, wo w, ti w, wa w, su w) := by
      simp only [bringV, bringT]
      repeat' split
      all_goals first | rfl | (exfalso; omega)
    rw [hv]
    exact ⟨⟨h0_F1, kb1_F1, h2_F1, h3_F1, h4_F1⟩, (by rw [eF1]; exact Same.up Same.rf (by omega) (by omega))⟩) dX3_bringTo_69
    · have q_59 : ¬ 10 ≤ x := fun z => c_59 ((nI_leI (by omega) (by omega)).mpr z)
      refine lv_aload_n B.1 B.2.1 dX3_bringTo_62 rfl (lv_at hl 1 rfl) ?_
      refine r_cg B hC (i := b) (by omega) h0_F1 (C := RX3) (T := TX3) (n := 6) rfl iwX3_bringTo_X3 3 (by decide) (index := 21) flX3_bringTo_21 rfl (v := .ref (ad (b + 4))) rfl dX3_bringTo_63 ?_
      refine lv_iload_n B.1 B.2.1 dX3_bringTo_66 rfl (lv_at hl 3 rfl) ?_
      refine lv_iload_n B.1 B.2.1 dX3_bringTo_67 rfl (lv_at hl 2 rfl) ?_
      refine r_cast B hC (i := b + 4) (by omega) h4_F1 (j := x) (by omega) (by decide) dX3_bringTo_68 ?_
      intro H locs hC
      obtain ⟨F2, eF2⟩ : ∃ f : Nat → va_E, f = va_up F1 (b + 4) (.inl (g.2.2 0, 10, .inl (fun j => oI (va_up (ti w) x (some t) j)))) := ⟨_, rfl⟩
      have hC : Cu g lo 196 ad F2 ss ss.heap H locs := by rw [eF2]; exact (by rw [← upd_oI (ti w) x (some t)]; exact hC)
      have kb4_F2 : F2 (b + 4) = .inl (g.2.2 0, 10, .inl (fun j => oI (va_up (ti w) x (some t) j))) := by rw [eF2]; exact va_up_self _ _ _
      have h0_F2 : F2 b = .inr (3, [.ref (ad (b + 1)), .ref (ad (b + 2)), .ref (ad (b + 3)), .ref (ad (b + 4)), .int (nI (wa w)), .int (bI (su w))]) := by rw [eF2, va_up_ne _ _ (by omega)]; exact h0_F1
      have h2_F2 : F2 (b + 2) = .inl (g.2.2 0, 10, .inl (fun j => nI (ln w j))) := by rw [eF2, va_up_ne _ _ (by omega)]; exact h2_F1
      have h3_F2 : F2 (b + 3) = .inl (g.2.2 0, 10, .inl (fun j => nI (wo w j))) := by rw [eF2, va_up_ne _ _ (by omega)]; exact h3_F1
      have kb1_F2 : F2 (b + 1) = .inl (g.2.2 0, 10, .inl (fun j => nI (va_up (wh w) t x j))) := by rw [eF2, va_up_ne _ _ (by omega)]; exact kb1_F1
      exact r_eV B hC (by
    have hv : bringV w t x = (va_up (wh w) t x, ln w, wo w, va_up (ti w) x (some t), wa w, su w) := by
      simp only [bringV, bringT]
      repeat' split
      all_goals first | rfl | (exfalso; omega)
    rw [hv]
    exact ⟨⟨h0_F2, kb1_F2, h2_F2, h3_F2, kb4_F2⟩, (by rw [eF2]; exact Same.up (by rw [eF1]; exact Same.up Same.rf (by omega) (by omega)) (by omega) (by omega))⟩) dX3_bringTo_69
  · have q_31 : ¬ 10 ≤ (wh w t) := fun z => c_31 ((nI_leI (by omega) (by omega)).mpr z)
    refine lv_aload_n B.1 B.2.1 dX3_bringTo_34 rfl (lv_at hl 1 rfl) ?_
    refine r_cg B hC (i := b) (by omega) h0 (C := RX3) (T := TX3) (n := 6) rfl iwX3_bringTo_X3 3 (by decide) (index := 21) flX3_bringTo_21 rfl (v := .ref (ad (b + 4))) rfl dX3_bringTo_35 ?_
    refine lv_iload_n B.1 B.2.1 dX3_bringTo_38 rfl (lv_at hl 0 rfl) ?_
    refine lv_bipush (v := (-9)) B.1 B.2.1 dX3_bringTo_39 (by decide) ?_
    refine r_cast B hC (i := b + 4) (by omega) h4 (j := (wh w t)) (by omega) (by decide) dX3_bringTo_41 ?_
    intro H locs hC
    obtain ⟨F1, eF1⟩ : ∃ f : Nat → va_E, f = va_up F (b + 4) (.inl (g.2.2 0, 10, .inl (fun j => oI (va_up (ti w) (wh w t) none j)))) := ⟨_, rfl⟩
    have hC : Cu g lo 196 ad F1 ss ss.heap H locs := by rw [eF1]; exact (by rw [← upd_oI (ti w) (wh w t) none]; exact hC)
    have kb4_F1 : F1 (b + 4) = .inl (g.2.2 0, 10, .inl (fun j => oI (va_up (ti w) (wh w t) none j))) := by rw [eF1]; exact va_up_self _ _ _
    have h0_F1 : F1 b = .inr (3, [.ref (ad (b + 1)), .ref (ad (b + 2)), .ref (ad (b + 3)), .ref (ad (b + 4)), .int (nI (wa w)), .int (bI (su w))]) := by rw [eF1, va_up_ne _ _ (by omega)]; exact h0
    have h1_F1 : F1 (b + 1) = .inl (g.2.2 0, 10, .inl (fun j => nI (wh w j))) := by rw [eF1, va_up_ne _ _ (by omega)]; exact h1
    have h2_F1 : F1 (b + 2) = .inl (g.2.2 0, 10, .inl (fun j => nI (ln w j))) := by rw [eF1, va_up_ne _ _ (by omega)]; exact h2
    have h3_F1 : F1 (b + 3) = .inl (g.2.2 0, 10, .inl (fun j => nI (wo w j))) := by rw [eF1, va_up_ne _ _ (by omega)]; exact h3
    refine lv_aload_n B.1 B.2.1 dX3_bringTo_42 rfl (lv_at hl 1 rfl) ?_
    refine r_cg B hC (i := b) (by omega) h0_F1 (C := RX3) (T := TX3) (n := 6) rfl iwX3_bringTo_X3 0 (by decide) (index := 9) flX3_bringTo_9 rfl (v := .ref (ad (b + 1))) rfl dX3_bringTo_43 ?_
    refine lv_iload_n B.1 B.2.1 dX3_bringTo_46 rfl (lv_at hl 2 rfl) ?_
    refine lv_iload_n B.1 B.2.1 dX3_bringTo_47 rfl (lv_at hl 3 rfl) ?_
    refine r_cast B hC (i := b + 1) (by omega) h1_F1 (j := t) (by omega) (by decide) dX3_bringTo_48 ?_
    intro H locs hC
    obtain ⟨F2, eF2⟩ : ∃ f : Nat → va_E, f = va_up F1 (b + 1) (.inl (g.2.2 0, 10, .inl (fun j => nI (va_up (wh w) t x j)))) := ⟨_, rfl⟩
    have hC : Cu g lo 196 ad F2 ss ss.heap H locs := by rw [eF2]; exact (by rw [← upd_nI (wh w) t x]; exact hC)
    have kb1_F2 : F2 (b + 1) = .inl (g.2.2 0, 10, .inl (fun j => nI (va_up (wh w) t x j))) := by rw [eF2]; exact va_up_self _ _ _
    have h0_F2 : F2 b = .inr (3, [.ref (ad (b + 1)), .ref (ad (b + 2)), .ref (ad (b + 3)), .ref (ad (b + 4)), .int (nI (wa w)), .int (bI (su w))]) := by rw [eF2, va_up_ne _ _ (by omega)]; exact h0_F1
    have h2_F2 : F2 (b + 2) = .inl (g.2.2 0, 10, .inl (fun j => nI (ln w j))) := by rw [eF2, va_up_ne _ _ (by omega)]; exact h2_F1
    have h3_F2 : F2 (b + 3) = .inl (g.2.2 0, 10, .inl (fun j => nI (wo w j))) := by rw [eF2, va_up_ne _ _ (by omega)]; exact h3_F1
    have kb4_F2 : F2 (b + 4) = .inl (g.2.2 0, 10, .inl (fun j => oI (va_up (ti w) (wh w t) none j))) := by rw [eF2, va_up_ne _ _ (by omega)]; exact kb4_F1
    refine lv_iload_n B.1 B.2.1 dX3_bringTo_49 rfl (lv_at hl 3 rfl) ?_
    refine lv_if_lt (tgt := 69) B.1 B.2.1 dX3_bringTo_50 (by decide) (fun z => absurd z (nI_pos (by omega))) (fun _ => ?_)
    refine lv_iload_n B.1 B.2.1 dX3_bringTo_53 rfl (lv_at hl 3 rfl) ?_
    refine lv_aload_n B.1 B.2.1 dX3_bringTo_54 rfl (lv_at hl 1 rfl) ?_
    refine r_cg B hC (i := b) (by omega) h0_F2 (C := RX3) (T := TX3) (n := 6) rfl iwX3_bringTo_X3 3 (by decide) (index := 21) flX3_bringTo_21 rfl (v := .ref (ad (b + 4))) rfl dX3_bringTo_55 ?_
    refine r_calen B hC (i := b + 4) (by omega) kb4_F2 0 rfl (n := 10) rfl dX3_bringTo_58 ?_
    refine lv_icmp_ge (tgt := 69) B.1 B.2.1 dX3_bringTo_59 (by decide) (fun c_59 => ?_) (fun c_59 => ?_)
    · have q_59 : 10 ≤ x := (nI_leI (by omega) (by omega)).mp c_59
      exact r_eV B hC (by
    have hv : bringV w t x = (va_up (wh w) t x, ln w, wo w, va_up (ti w) (wh w t) none, wa w, su w) := by
      simp only [bringV, bringT]
      repeat' split
      all_goals first | rfl | (exfalso; omega)
    rw [hv]
    exact ⟨⟨h0_F2, kb1_F2, h2_F2, h3_F2, kb4_F2⟩, (by rw [eF2]; exact Same.up (by rw [eF1]; exact Same.up Same.rf (by omega) (by omega)) (by omega) (by omega))⟩) dX3_bringTo_69
    · have q_59 : ¬ 10 ≤ x := fun z => c_59 ((nI_leI (by omega) (by omega)).mpr z)
      refine lv_aload_n B.1 B.2.1 dX3_bringTo_62 rfl (lv_at hl 1 rfl) ?_
      refine r_cg B hC (i := b) (by omega) h0_F2 (C := RX3) (T := TX3) (n := 6) rfl iwX3_bringTo_X3 3 (by decide) (index := 21) flX3_bringTo_21 rfl (v := .ref (ad (b + 4))) rfl dX3_bringTo_63 ?_
      refine lv_iload_n B.1 B.2.1 dX3_bringTo_66 rfl (lv_at hl 3 rfl) ?_
      refine lv_iload_n B.1 B.2.1 dX3_bringTo_67 rfl (lv_at hl 2 rfl) ?_
      refine r_cast B hC (i := b + 4) (by omega) kb4_F2 (j := x) (by omega) (by decide) dX3_bringTo_68 ?_
      intro H locs hC
      obtain ⟨F3, eF3⟩ : ∃ f : Nat → va_E, f = va_up F2 (b + 4) (.inl (g.2.2 0, 10, .inl (fun j => oI (va_up (va_up (ti w) (wh w t) none) x (some t) j)))) := ⟨_, rfl⟩
      have hC : Cu g lo 196 ad F3 ss ss.heap H locs := by rw [eF3]; exact (by rw [← upd_oI (va_up (ti w) (wh w t) none) x (some t)]; exact hC)
      have kb4_F3 : F3 (b + 4) = .inl (g.2.2 0, 10, .inl (fun j => oI (va_up (va_up (ti w) (wh w t) none) x (some t) j))) := by rw [eF3]; exact va_up_self _ _ _
      have h0_F3 : F3 b = .inr (3, [.ref (ad (b + 1)), .ref (ad (b + 2)), .ref (ad (b + 3)), .ref (ad (b + 4)), .int (nI (wa w)), .int (bI (su w))]) := by rw [eF3, va_up_ne _ _ (by omega)]; exact h0_F2
      have h2_F3 : F3 (b + 2) = .inl (g.2.2 0, 10, .inl (fun j => nI (ln w j))) := by rw [eF3, va_up_ne _ _ (by omega)]; exact h2_F2
      have h3_F3 : F3 (b + 3) = .inl (g.2.2 0, 10, .inl (fun j => nI (wo w j))) := by rw [eF3, va_up_ne _ _ (by omega)]; exact h3_F2
      have kb1_F3 : F3 (b + 1) = .inl (g.2.2 0, 10, .inl (fun j => nI (va_up (wh w) t x j))) := by rw [eF3, va_up_ne _ _ (by omega)]; exact kb1_F2
      exact r_eV B hC (by
    have hv : bringV w t x = (va_up (wh w) t x, ln w, wo w, va_up (va_up (ti w) (wh w t) none) x (some t), wa w, su w) := by
      simp only [bringV, bringT]
      repeat' split
      all_goals first | rfl | (exfalso; omega)
    rw [hv]
    exact ⟨⟨h0_F3, kb1_F3, h2_F3, h3_F3, kb4_F3⟩, (by rw [eF3]; exact Same.up (by rw [eF2]; exact Same.up (by rw [eF1]; exact Same.up Same.rf (by omega) (by omega)) (by omega) (by omega)) (by omega) (by omega))⟩) dX3_bringTo_69
theorem iwX3_copyFrom_X3 : ∀ w ∈ u_ws RX3 TX3 6, w ∈ wsX3_copyFrom := by decide +kernel
theorem flX3_copyFrom_9 : Cond.fieldLink RX3 9 RX3 (TX3 0).2.1 (TX3 0).2.2.1 ∈ wsX3_copyFrom := by decide +kernel
theorem flX3_copyFrom_15 : Cond.fieldLink RX3 15 RX3 (TX3 1).2.1 (TX3 1).2.2.1 ∈ wsX3_copyFrom := by decide +kernel
theorem flX3_copyFrom_18 : Cond.fieldLink RX3 18 RX3 (TX3 2).2.1 (TX3 2).2.2.1 ∈ wsX3_copyFrom := by decide +kernel
theorem flX3_copyFrom_21 : Cond.fieldLink RX3 21 RX3 (TX3 3).2.1 (TX3 3).2.2.1 ∈ wsX3_copyFrom := by decide +kernel
theorem flX3_copyFrom_24 : Cond.fieldLink RX3 24 RX3 (TX3 4).2.1 (TX3 4).2.2.1 ∈ wsX3_copyFrom := by decide +kernel
theorem flX3_copyFrom_28 : Cond.fieldLink RX3 28 RX3 (TX3 5).2.1 (TX3 5).2.2.1 ∈ wsX3_copyFrom := by decide +kernel
theorem cwX3_copyFrom_53_0 : Cond.methodLink RX3 53 arraycopyName ∈ wsX3_copyFrom := by decide +kernel
theorem cwX3_copyFrom_53_1 : Cond.native arraycopyName ∈ wsX3_copyFrom := by decide +kernel
theorem cwX3_copyFrom_53_2 : Cond.static arraycopyName ∈ wsX3_copyFrom := by decide +kernel
theorem cwX3_copyFrom_53_3 : Cond.initialized "java/lang/System" ∈ wsX3_copyFrom := by decide +kernel
set_option maxHeartbeats 4000000 in
set_option maxRecDepth 100000 in
theorem ctX3_copyFrom (l : Launch) (g : Gx) (lo : Nat) (ad : Nat → Nat) {F : Nat → va_E} {b : Nat} {w : LV} (hb : 8 ≤ b ∧ b + 5 ≤ 196) (hL : LoadC g ad F b w) {b2 : Nat} {w2 : LV} (hb2 : b2 + 5 ≤ 196) (hd : b2 + 5 ≤ b ∨ b + 5 ≤ b2) (hM : LoadC g ad F b2 w2) (hc1 : CAN w) (hc2 : CAN w2) : MV l g lo 196 ad yX3_copyFrom wsX3_copyFrom 1 40 [.ref (ad (b)), .ref (ad (b2))] F (fun F' => LoadC g ad F' b w2 ∧ Same b (b + 5) F F') := by
  obtain ⟨h0, h1, h2, h3, h4⟩ := hL
  obtain ⟨m0, m1, m2, m3, m4⟩ := hM
  refine enter (cc := cX3_copyFrom) (maxL := 2) (ret := none) (own := RX3) (by decide +kernel) rfl rfl (Nat.le_of_ble_eq_true rfl) ?_
  intro pp ee ss mm below meth cc B hini hC ls hl
  have hl : lv_has ls 2 [(0, .ref (ad (b))), (1, .ref (ad (b2)))] := hl
  refine lv_aload_n B.1 B.2.1 dX3_copyFrom_0 rfl (lv_at hl 1 rfl) ?_
  refine r_cg B hC (i := b2) (by omega) m0 (C := RX3) (T := TX3) (n := 6) rfl iwX3_copyFrom_X3 0 (by decide) (index := 9) flX3_copyFrom_9 rfl (v := .ref (ad (b2 + 1))) rfl dX3_copyFrom_1 ?_
  refine lv_iconst (v := nI 0) B.1 B.2.1 dX3_copyFrom_4 (by decide) ?_
  refine lv_aload_n B.1 B.2.1 dX3_copyFrom_5 rfl (lv_at hl 0 rfl) ?_
  refine r_cg B hC (i := b) (by omega) h0 (C := RX3) (T := TX3) (n := 6) rfl iwX3_copyFrom_X3 0 (by decide) (index := 9) flX3_copyFrom_9 rfl (v := .ref (ad (b + 1))) rfl dX3_copyFrom_6 ?_
  refine lv_iconst (v := nI 0) B.1 B.2.1 dX3_copyFrom_9 (by decide) ?_
  refine lv_bipush (v := nI 10) B.1 B.2.1 dX3_copyFrom_10 (by decide) ?_
  refine r_copyi B hC hl.1 (i := b2 + 1) (j := b + 1) (by omega) (by omega) m1 h1 (k := 10) (by decide) (by decide) (by decide) cwX3_copyFrom_53_0 cwX3_copyFrom_53_1 cwX3_copyFrom_53_2 cwX3_copyFrom_53_3 (Nat.le_of_ble_eq_true rfl) (by decide) dX3_copyFrom_12 ?_
  intro H locs hC
  obtain ⟨F1, eF1⟩ : ∃ f : Nat → va_E, f = va_up F (b + 1) (.inl (g.2.2 0, 10, .inl (fun j => nI (wh w2 j)))) := ⟨_, rfl⟩
  have hC : Cu g lo 196 ad F1 ss ss.heap H locs := by rw [eF1]; exact (by rw [cpy_10 (by intro j hj; have p1 := hc1 j hj; have p2 := hc2 j hj; simp [p1, p2])] at hC; exact hC)
  have kb1_F1 : F1 (b + 1) = .inl (g.2.2 0, 10, .inl (fun j => nI (wh w2 j))) := by rw [eF1]; exact va_up_self _ _ _
  have h0_F1 : F1 b = .inr (3, [.ref (ad (b + 1)), .ref (ad (b + 2)), .ref (ad (b + 3)), .ref (ad (b + 4)), .int (nI (wa w)), .int (bI (su w))]) := by rw [eF1, va_up_ne _ _ (by omega)]; exact h0
  have h2_F1 : F1 (b + 2) = .inl (g.2.2 0, 10, .inl (fun j => nI (ln w j))) := by rw [eF1, va_up_ne _ _ (by omega)]; exact h2
  have h3_F1 : F1 (b + 3) = .inl (g.2.2 0, 10, .inl (fun j => nI (wo w j))) := by rw [eF1, va_up_ne _ _ (by omega)]; exact h3
  have h4_F1 : F1 (b + 4) = .inl (g.2.2 0, 10, .inl (fun j => oI (ti w j))) := by rw [eF1, va_up_ne _ _ (by omega)]; exact h4
  have m0_F1 : F1 b2 = .inr (3, [.ref (ad (b2 + 1)), .ref (ad (b2 + 2)), .ref (ad (b2 + 3)), .ref (ad (b2 + 4)), .int (nI (wa w2)), .int (bI (su w2))]) := by rw [eF1, va_up_ne _ _ (by omega)]; exact m0
  have m1_F1 : F1 (b2 + 1) = .inl (g.2.2 0, 10, .inl (fun j => nI (wh w2 j))) := by rw [eF1, va_up_ne _ _ (by omega)]; exact m1
  have m2_F1 : F1 (b2 + 2) = .inl (g.2.2 0, 10, .inl (fun j => nI (ln w2 j))) := by rw [eF1, va_up_ne _ _ (by omega)]; exact m2
  have m3_F1 : F1 (b2 + 3) = .inl (g.2.2 0, 10, .inl (fun j => nI (wo w2 j))) := by rw [eF1, va_up_ne _ _ (by omega)]; exact m3
  have m4_F1 : F1 (b2 + 4) = .inl (g.2.2 0, 10, .inl (fun j => oI (ti w2 j))) := by rw [eF1, va_up_ne _ _ (by omega)]; exact m4
  refine lv_aload_n B.1 B.2.1 dX3_copyFrom_15 rfl (lv_at hl 1 rfl) ?_
  refine r_cg B hC (i := b2) (by omega) m0_F1 (C := RX3) (T := TX3) (n := 6) rfl iwX3_copyFrom_X3 1 (by decide) (index := 15) flX3_copyFrom_15 rfl (v := .ref (ad (b2 + 2))) rfl dX3_copyFrom_16 ?_
  refine lv_iconst (v := nI 0) B.1 B.2.1 dX3_copyFrom_19 (by decide) ?_
  refine lv_aload_n B.1 B.2.1 dX3_copyFrom_20 rfl (lv_at hl 0 rfl) ?_
  refine r_cg B hC (i := b) (by omega) h0_F1 (C := RX3) (T := TX3) (n := 6) rfl iwX3_copyFrom_X3 1 (by decide) (index := 15) flX3_copyFrom_15 rfl (v := .ref (ad (b + 2))) rfl dX3_copyFrom_21 ?_
  refine lv_iconst (v := nI 0) B.1 B.2.1 dX3_copyFrom_24 (by decide) ?_
  refine lv_bipush (v := nI 10) B.1 B.2.1 dX3_copyFrom_25 (by decide) ?_
  refine r_copyi B hC hl.1 (i := b2 + 2) (j := b + 2) (by omega) (by omega) m2_F1 h2_F1 (k := 10) (by decide) (by decide) (by decide) cwX3_copyFrom_53_0 cwX3_copyFrom_53_1 cwX3_copyFrom_53_2 cwX3_copyFrom_53_3 (Nat.le_of_ble_eq_true rfl) (by decide) dX3_copyFrom_27 ?_
  intro H locs hC
  obtain ⟨F2, eF2⟩ : ∃ f : Nat → va_E, f = va_up F1 (b + 2) (.inl (g.2.2 0, 10, .inl (fun j => nI (ln w2 j)))) := ⟨_, rfl⟩
  have hC : Cu g lo 196 ad F2 ss ss.heap H locs := by rw [eF2]; exact (by rw [cpy_10 (by intro j hj; have p1 := hc1 j hj; have p2 := hc2 j hj; simp [p1, p2])] at hC; exact hC)
  have kb2_F2 : F2 (b + 2) = .inl (g.2.2 0, 10, .inl (fun j => nI (ln w2 j))) := by rw [eF2]; exact va_up_self _ _ _
  have h0_F2 : F2 b = .inr (3, [.ref (ad (b + 1)), .ref (ad (b + 2)), .ref (ad (b + 3)), .ref (ad (b + 4)), .int (nI (wa w)), .int (bI (su w))]) := by rw [eF2, va_up_ne _ _ (by omega)]; exact h0_F1
  have h3_F2 : F2 (b + 3) = .inl (g.2.2 0, 10, .inl (fun j => nI (wo w j))) := by rw [eF2, va_up_ne _ _ (by omega)]; exact h3_F1
  have h4_F2 : F2 (b + 4) = .inl (g.2.2 0, 10, .inl (fun j => oI (ti w j))) := by rw [eF2, va_up_ne _ _ (by omega)]; exact h4_F1
  have m0_F2 : F2 b2 = .inr (3, [.ref (ad (b2 + 1)), .ref (ad (b2 + 2)), .ref (ad (b2 + 3)), .ref (ad (b2 + 4)), .int (nI (wa w2)), .int (bI (su w2))]) := by rw [eF2, va_up_ne _ _ (by omega)]; exact m0_F1
  have m1_F2 : F2 (b2 + 1) = .inl (g.2.2 0, 10, .inl (fun j => nI (wh w2 j))) := by rw [eF2, va_up_ne _ _ (by omega)]; exact m1_F1
  have m2_F2 : F2 (b2 + 2) = .inl (g.2.2 0, 10, .inl (fun j => nI (ln w2 j))) := by rw [eF2, va_up_ne _ _ (by omega)]; exact m2_F1
  have m3_F2 : F2 (b2 + 3) = .inl (g.2.2 0, 10, .inl (fun j => nI (wo w2 j))) := by rw [eF2, va_up_ne _ _ (by omega)]; exact m3_F1
  have m4_F2 : F2 (b2 + 4) = .inl (g.2.2 0, 10, .inl (fun j => oI (ti w2 j))) := by rw [eF2, va_up_ne _ _ (by omega)]; exact m4_F1
  have kb1_F2 : F2 (b + 1) = .inl (g.2.2 0, 10, .inl (fun j => nI (wh w2 j))) := by rw [eF2, va_up_ne _ _ (by omega)]; exact kb1_F1
  refine lv_aload_n B.1 B.2.1 dX3_copyFrom_30 rfl (lv_at hl 1 rfl) ?_
  refine r_cg B hC (i := b2) (by omega) m0_F2 (C := RX3) (T := TX3) (n := 6) rfl iwX3_copyFrom_X3 2 (by decide) (index := 18) flX3_copyFrom_18 rfl (v := .ref (ad (b2 + 3))) rfl dX3_copyFrom_31 ?_
  refine lv_iconst (v := nI 0) B.1 B.2.1 dX3_copyFrom_34 (by decide) ?_
  refine lv_aload_n B.1 B.2.1 dX3_copyFrom_35 rfl (lv_at hl 0 rfl) ?_
  refine r_cg B hC (i := b) (by omega) h0_F2 (C := RX3) (T := TX3) (n := 6) rfl iwX3_copyFrom_X3 2 (by decide) (index := 18) flX3_copyFrom_18 rfl (v := .ref (ad (b + 3))) rfl dX3_copyFrom_36 ?_
  refine lv_iconst (v := nI 0) B.1 B.2.1 dX3_copyFrom_39 (by decide) ?_
  refine lv_bipush (v := nI 10) B.1 B.2.1 dX3_copyFrom_40 (by decide) ?_
  refine r_copyi B hC hl.1 (i := b2 + 3) (j := b + 3) (by omega) (by omega) m3_F2 h3_F2 (k := 10) (by decide) (by decide) (by decide) cwX3_copyFrom_53_0 cwX3_copyFrom_53_1 cwX3_copyFrom_53_2 cwX3_copyFrom_53_3 (Nat.le_of_ble_eq_true rfl) (by decide) dX3_copyFrom_42 ?_
  intro H locs hC
  obtain ⟨F3, eF3⟩ : ∃ f : Nat → va_E, f = va_up F2 (b + 3) (.inl (g.2.2 0, 10, .inl (fun j => nI (wo w2 j)))) := ⟨_, rfl⟩
  have hC : Cu g lo 196 ad F3 ss ss.heap H locs := by rw [eF3]; exact (by rw [cpy_10 (by intro j hj; have p1 := hc1 j hj; have p2 := hc2 j hj; simp [p1, p2])] at hC; exact hC)
  have kb3_F3 : F3 (b + 3) = .inl (g.2.2 0, 10, .inl (fun j => nI (wo w2 j))) := by rw [eF3]; exact va_up_self _ _ _
  have h0_F3 : F3 b = .inr (3, [.ref (ad (b + 1)), .ref (ad (b + 2)), .ref (ad (b + 3)), .ref (ad (b + 4)), .int (nI (wa w)), .int (bI (su w))]) := by rw [eF3, va_up_ne _ _ (by omega)]; exact h0_F2
  have h4_F3 : F3 (b + 4) = .inl (g.2.2 0, 10, .inl (fun j => oI (ti w j))) := by rw [eF3, va_up_ne _ _ (by omega)]; exact h4_F2
  have m0_F3 : F3 b2 = .inr (3, [.ref (ad (b2 + 1)), .ref (ad (b2 + 2)), .ref (ad (b2 + 3)), .ref (ad (b2 + 4)), .int (nI (wa w2)), .int (bI (su w2))]) := by rw [eF3, va_up_ne _ _ (by omega)]; exact m0_F2
  have m1_F3 : F3 (b2 + 1) = .inl (g.2.2 0, 10, .inl (fun j => nI (wh w2 j))) := by rw [eF3, va_up_ne _ _ (by omega)]; exact m1_F2
  have m2_F3 : F3 (b2 + 2) = .inl (g.2.2 0, 10, .inl (fun j => nI (ln w2 j))) := by rw [eF3, va_up_ne _ _ (by omega)]; exact m2_F2
  have m3_F3 : F3 (b2 + 3) = .inl (g.2.2 0, 10, .inl (fun j => nI (wo w2 j))) := by rw [eF3, va_up_ne _ _ (by omega)]; exact m3_F2
  have m4_F3 : F3 (b2 + 4) = .inl (g.2.2 0, 10, .inl (fun j => oI (ti w2 j))) := by rw [eF3, va_up_ne _ _ (by omega)]; exact m4_F2
  have kb1_F3 : F3 (b + 1) = .inl (g.2.2 0, 10, .inl (fun j => nI (wh w2 j))) := by rw [eF3, va_up_ne _ _ (by omega)]; exact kb1_F2
  have kb2_F3 : F3 (b + 2) = .inl (g.2.2 0, 10, .inl (fun j => nI (ln w2 j))) := by rw [eF3, va_up_ne _ _ (by omega)]; exact kb2_F2
  refine lv_aload_n B.1 B.2.1 dX3_copyFrom_45 rfl (lv_at hl 1 rfl) ?_
  refine r_cg B hC (i := b2) (by omega) m0_F3 (C := RX3) (T := TX3) (n := 6) rfl iwX3_copyFrom_X3 3 (by decide) (index := 21) flX3_copyFrom_21 rfl (v := .ref (ad (b2 + 4))) rfl dX3_copyFrom_46 ?_
  refine lv_iconst (v := nI 0) B.1 B.2.1 dX3_copyFrom_49 (by decide) ?_
  refine lv_aload_n B.1 B.2.1 dX3_copyFrom_50 rfl (lv_at hl 0 rfl) ?_
  refine r_cg B hC (i := b) (by omega) h0_F3 (C := RX3) (T := TX3) (n := 6) rfl iwX3_copyFrom_X3 3 (by decide) (index := 21) flX3_copyFrom_21 rfl (v := .ref (ad (b + 4))) rfl dX3_copyFrom_51 ?_
  refine lv_iconst (v := nI 0) B.1 B.2.1 dX3_copyFrom_54 (by decide) ?_
  refine lv_bipush (v := nI 10) B.1 B.2.1 dX3_copyFrom_55 (by decide) ?_
  refine r_copyi B hC hl.1 (i := b2 + 4) (j := b + 4) (by omega) (by omega) m4_F3 h4_F3 (k := 10) (by decide) (by decide) (by decide) cwX3_copyFrom_53_0 cwX3_copyFrom_53_1 cwX3_copyFrom_53_2 cwX3_copyFrom_53_3 (Nat.le_of_ble_eq_true rfl) (by decide) dX3_copyFrom_57 ?_
  intro H locs hC
  obtain ⟨F4, eF4⟩ : ∃ f : Nat → va_E, f = va_up F3 (b + 4) (.inl (g.2.2 0, 10, .inl (fun j => oI (ti w2 j)))) := ⟨_, rfl⟩
  have hC : Cu g lo 196 ad F4 ss ss.heap H locs := by rw [eF4]; exact (by rw [cpy_10 (by intro j hj; have p1 := hc1 j hj; have p2 := hc2 j hj; simp [p1, p2])] at hC; exact hC)
  have kb4_F4 : F4 (b + 4) = .inl (g.2.2 0, 10, .inl (fun j => oI (ti w2 j))) := by rw [eF4]; exact va_up_self _ _ _
  have h0_F4 : F4 b = .inr (3, [.ref (ad (b + 1)), .ref (ad (b + 2)), .ref (ad (b + 3)), .ref (ad (b + 4)), .int (nI (wa w)), .int (bI (su w))]) := by rw [eF4, va_up_ne _ _ (by omega)]; exact h0_F3
  have m0_F4 : F4 b2 = .inr (3, [.ref (ad (b2 + 1)), .ref (ad (b2 + 2)), .ref (ad (b2 + 3)), .ref (ad (b2 + 4)), .int (nI (wa w2)), .int (bI (su w2))]) := by rw [eF4, va_up_ne _ _ (by omega)]; exact m0_F3
  have m1_F4 : F4 (b2 + 1) = .inl (g.2.2 0, 10, .inl (fun j => nI (wh w2 j))) := by rw [eF4, va_up_ne _ _ (by omega)]; exact m1_F3
  have m2_F4 : F4 (b2 + 2) = .inl (g.2.2 0, 10, .inl (fun j => nI (ln w2 j))) := by rw [eF4, va_up_ne _ _ (by omega)]; exact m2_F3
  have m3_F4 : F4 (b2 + 3) = .inl (g.2.2 0, 10, .inl (fun j => nI (wo w2 j))) := by rw [eF4, va_up_ne _ _ (by omega)]; exact m3_F3
  have m4_F4 : F4 (b2 + 4) = .inl (g.2.2 0, 10, .inl (fun j => oI (ti w2 j))) := by rw [eF4, va_up_ne _ _ (by omega)]; exact m4_F3
  have kb1_F4 : F4 (b + 1) = .inl (g.2.2 0, 10, .inl (fun j => nI (wh w2 j))) := by rw [eF4, va_up_ne _ _ (by omega)]; exact kb1_F3
  have kb2_F4 : F4 (b + 2) = .inl (g.2.2 0, 10, .inl (fun j => nI (ln w2 j))) := by rw [eF4, va_up_ne _ _ (by omega)]; exact kb2_F3
  have kb3_F4 : F4 (b + 3) = .inl (g.2.2 0, 10, .inl (fun j => nI (wo w2 j))) := by rw [eF4, va_up_ne _ _ (by omega)]; exact kb3_F3
  refine lv_aload_n B.1 B.2.1 dX3_copyFrom_60 rfl (lv_at hl 0 rfl) ?_
  refine lv_aload_n B.1 B.2.1 dX3_copyFrom_61 rfl (lv_at hl 1 rfl) ?_
  refine r_cg B hC (i := b2) (by omega) m0_F4 (C := RX3) (T := TX3) (n := 6) rfl iwX3_copyFrom_X3 4 (by decide) (index := 24) flX3_copyFrom_24 rfl (v := .int (nI (wa w2))) rfl dX3_copyFrom_62 ?_
  refine r_cp B hC (i := b) (by omega) h0_F4 tyX3 tyX3_ok nmX3 (C := RX3) (T := TX3) rfl iwX3_copyFrom_X3 4 (by decide) (index := 24) flX3_copyFrom_24 rfl rfl (v := .int (nI (wa w2))) (rfl) (rfl) (Nat.le_of_ble_eq_true rfl) dX3_copyFrom_65 ?_
  intro H locs hC
  obtain ⟨F5, eF5⟩ : ∃ f : Nat → va_E, f = va_up F4 (b) (.inr (3, [.ref (ad (b + 1)), .ref (ad (b + 2)), .ref (ad (b + 3)), .ref (ad (b + 4)), .int (nI (wa w2)), .int (bI (su w))])) := ⟨_, rfl⟩
  have hC : Cu g lo 196 ad F5 ss ss.heap H locs := by rw [eF5]; exact hC
  have kb_F5 : F5 b = .inr (3, [.ref (ad (b + 1)), .ref (ad (b + 2)), .ref (ad (b + 3)), .ref (ad (b + 4)), .int (nI (wa w2)), .int (bI (su w))]) := by rw [eF5]; exact va_up_self _ _ _
  have m0_F5 : F5 b2 = .inr (3, [.ref (ad (b2 + 1)), .ref (ad (b2 + 2)), .ref (ad (b2 + 3)), .ref (ad (b2 + 4)), .int (nI (wa w2)), .int (bI (su w2))]) := by rw [eF5, va_up_ne _ _ (by omega)]; exact m0_F4
  have m1_F5 : F5 (b2 + 1) = .inl (g.2.2 0, 10, .inl (fun j => nI (wh w2 j))) := by rw [eF5, va_up_ne _ _ (by omega)]; exact m1_F4
  have m2_F5 : F5 (b2 + 2) = .inl (g.2.2 0, 10, .inl (fun j => nI (ln w2 j))) := by rw [eF5, va_up_ne _ _ (by omega)]; exact m2_F4
  have m3_F5 : F5 (b2 + 3) = .inl (g.2.2 0, 10, .inl (fun j => nI (wo w2 j))) := by rw [eF5, va_up_ne _ _ (by omega)]; exact m3_F4
  have m4_F5 : F5 (b2 + 4) = .inl (g.2.2 0, 10, .inl (fun j => oI (ti w2 j))) := by rw [eF5, va_up_ne _ _ (by omega)]; exact m4_F4
  have kb1_F5 : F5 (b + 1) = .inl (g.2.2 0, 10, .inl (fun j => nI (wh w2 j))) := by rw [eF5, va_up_ne _ _ (by omega)]; exact kb1_F4
  have kb2_F5 : F5 (b + 2) = .inl (g.2.2 0, 10, .inl (fun j => nI (ln w2 j))) := by rw [eF5, va_up_ne _ _ (by omega)]; exact kb2_F4
  have kb3_F5 : F5 (b + 3) = .inl (g.2.2 0, 10, .inl (fun j => nI (wo w2 j))) := by rw [eF5, va_up_ne _ _ (by omega)]; exact kb3_F4
  have kb4_F5 : F5 (b + 4) = .inl (g.2.2 0, 10, .inl (fun j => oI (ti w2 j))) := by rw [eF5, va_up_ne _ _ (by omega)]; exact kb4_F4
  refine lv_aload_n B.1 B.2.1 dX3_copyFrom_68 rfl (lv_at hl 0 rfl) ?_
  refine lv_aload_n B.1 B.2.1 dX3_copyFrom_69 rfl (lv_at hl 1 rfl) ?_
  refine r_cg B hC (i := b2) (by omega) m0_F5 (C := RX3) (T := TX3) (n := 6) rfl iwX3_copyFrom_X3 5 (by decide) (index := 28) flX3_copyFrom_28 rfl (v := .int (bI (su w2))) rfl dX3_copyFrom_70 ?_
  refine r_cp B hC (i := b) (by omega) kb_F5 tyX3 tyX3_ok nmX3 (C := RX3) (T := TX3) rfl iwX3_copyFrom_X3 5 (by decide) (index := 28) flX3_copyFrom_28 rfl rfl (v := .int (bI (su w2))) (nar_b _) (fit_b _) (Nat.le_of_ble_eq_true rfl) dX3_copyFrom_73 ?_
  intro H locs hC
  obtain ⟨F6, eF6⟩ : ∃ f : Nat → va_E, f = va_up F5 (b) (.inr (3, [.ref (ad (b + 1)), .ref (ad (b + 2)), .ref (ad (b + 3)), .ref (ad (b + 4)), .int (nI (wa w2)), .int (bI (su w2))])) := ⟨_, rfl⟩
  have hC : Cu g lo 196 ad F6 ss ss.heap H locs := by rw [eF6]; exact hC
  have kb_F6 : F6 b = .inr (3, [.ref (ad (b + 1)), .ref (ad (b + 2)), .ref (ad (b + 3)), .ref (ad (b + 4)), .int (nI (wa w2)), .int (bI (su w2))]) := by rw [eF6]; exact va_up_self _ _ _
  have m0_F6 : F6 b2 = .inr (3, [.ref (ad (b2 + 1)), .ref (ad (b2 + 2)), .ref (ad (b2 + 3)), .ref (ad (b2 + 4)), .int (nI (wa w2)), .int (bI (su w2))]) := by rw [eF6, va_up_ne _ _ (by omega)]; exact m0_F5
  have m1_F6 : F6 (b2 + 1) = .inl (g.2.2 0, 10, .inl (fun j => nI (wh w2 j))) := by rw [eF6, va_up_ne _ _ (by omega)]; exact m1_F5
  have m2_F6 : F6 (b2 + 2) = .inl (g.2.2 0, 10, .inl (fun j => nI (ln w2 j))) := by rw [eF6, va_up_ne _ _ (by omega)]; exact m2_F5
  have m3_F6 : F6 (b2 + 3) = .inl (g.2.2 0, 10, .inl (fun j => nI (wo w2 j))) := by rw [eF6, va_up_ne _ _ (by omega)]; exact m3_F5
  have m4_F6 : F6 (b2 + 4) = .inl (g.2.2 0, 10, .inl (fun j => oI (ti w2 j))) := by rw [eF6, va_up_ne _ _ (by omega)]; exact m4_F5
  have kb1_F6 : F6 (b + 1) = .inl (g.2.2 0, 10, .inl (fun j => nI (wh w2 j))) := by rw [eF6, va_up_ne _ _ (by omega)]; exact kb1_F5
  have kb2_F6 : F6 (b + 2) = .inl (g.2.2 0, 10, .inl (fun j => nI (ln w2 j))) := by rw [eF6, va_up_ne _ _ (by omega)]; exact kb2_F5
  have kb3_F6 : F6 (b + 3) = .inl (g.2.2 0, 10, .inl (fun j => nI (wo w2 j))) := by rw [eF6, va_up_ne _ _ (by omega)]; exact kb3_F5
  have kb4_F6 : F6 (b + 4) = .inl (g.2.2 0, 10, .inl (fun j => oI (ti w2 j))) := by rw [eF6, va_up_ne _ _ (by omega)]; exact kb4_F5
  exact r_eV B hC (⟨⟨kb_F6, kb1_F6, kb2_F6, kb3_F6, kb4_F6⟩, (by rw [eF6]; exact Same.up (by rw [eF5]; exact Same.up (by rw [eF4]; exact Same.up (by rw [eF3]; exact Same.up (by rw [eF2]; exact Same.up (by rw [eF1]; exact Same.up Same.rf (by omega) (by omega)) (by omega) (by omega)) (by omega) (by omega)) (by omega) (by omega)) (by omega) (by omega)) (by omega) (by omega))⟩) dX3_copyFrom_76
