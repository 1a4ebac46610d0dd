/-! THE WHOLE OBJECT: its acts -/
theorem iwX8_wipe_X8 : ∀ w ∈ u_ws RX8 TX8 8, w ∈ wsX8_wipe := by decide +kernel
theorem flX8_wipe_10 : Cond.fieldLink RX8 10 RX8 (TX8 0).2.1 (TX8 0).2.2.1 ∈ wsX8_wipe := by decide +kernel
set_option maxHeartbeats 4000000 in
set_option maxRecDepth 100000 in
theorem ctX8_wipe (l : Launch) (g : Gx) (lo : Nat) (ad : Nat → Nat) {F : Nat → va_E} {x : XV} (hX : XC g ad F x) (okx : XOK x) : MI l g lo 196 ad yX8_wipe wsX8_wipe 1 20 [.ref (ad (0))] F (fun r F' => r = nI (tn (xt x)) ∧ XC g ad F' (wipeX x) ∧ Same 0 175 F F') := by
  obtain ⟨hP, hT, hH, hL, hA, hS, ⟨wt, hW, hct⟩, ⟨c, hCh⟩, ⟨fm, fo, hQ⟩, rv0, hR, okR⟩ := id hX
  obtain ⟨okT, okH, okL, okA, okS, okAu, okSu⟩ := id okx
  have okn := okH.1
  have okt := okT.1
  refine enter (cc := cX8_wipe) (maxL := 2) (ret := some .int) (own := RX8) (by decide +kernel) rfl rfl (Nat.le_of_ble_eq_true rfl) ?_
  intro pp ee ss mm below meth cc B hini hC ls hl
  have hl : lv_has ls 2 [(0, .ref (ad (0)))] := hl
  refine lv_aload_n B.1 B.2.1 dX8_wipe_0 rfl (lv_at hl 0 rfl) ?_
  refine r_cg B hC (i := 0) (by decide) hP (C := RX8) (T := TX8) (n := 8) rfl iwX8_wipe_X8 0 (by decide) (index := 10) flX8_wipe_10 rfl (v := .ref (ad (1))) rfl dX8_wipe_1 ?_
  refine r_calli B hC hl.1 (1) 7 rfl rfl (by decide) (hT.1) (As := []) (ctX7_size l g lo ad hT okT) gX8_wipe_X7_size rfl (n := 0) rfl (by decide +kernel) ⟨Nat.le_of_ble_eq_true rfl, Nat.le_of_ble_eq_true rfl⟩ ⟨Nat.zero_le _, Nat.zero_le _⟩ rfl (Nat.le_of_ble_eq_true rfl) dX8_wipe_4 (fun r4 F1 H locs hp4 hC => ?_)
  obtain ⟨er, eF⟩ := hp4
  subst er
  rw [eF] at hC
  refine lv_istore_n (lv' := [(1, .int (nI (tn (xt x)))), (0, .ref (ad (0)))]) B.1 B.2.1 dX8_wipe_7 rfl hl (by decide) rfl (fun ls hl => ?_)
  refine lv_aload_n B.1 B.2.1 dX8_wipe_8 rfl (lv_at hl 1 rfl) ?_
  refine r_cg B hC (i := 0) (by decide) hP (C := RX8) (T := TX8) (n := 8) rfl iwX8_wipe_X8 0 (by decide) (index := 10) flX8_wipe_10 rfl (v := .ref (ad (1))) rfl dX8_wipe_9 ?_
  refine r_callv B hC hl.1 (1) 7 rfl rfl (by decide) (hT.1) (As := []) (ctX7_clear l g lo ad hT okT) gX8_wipe_X7_clear rfl (n := 0) rfl (by decide +kernel) ⟨Nat.le_of_ble_eq_true rfl, Nat.le_of_ble_eq_true rfl⟩ ⟨Nat.zero_le _, Nat.zero_le _⟩ rfl (Nat.le_of_ble_eq_true rfl) dX8_wipe_12 (fun F1 H locs hp12 hC => ?_)
  obtain ⟨hT_F1, hs_F1⟩ := hp12
  refine lv_iload_n B.1 B.2.1 dX8_wipe_15 rfl (lv_at hl 0 rfl) ?_
  exact r_eI B hC (v := nI (tn (xt x))) (⟨rfl, ⟨(TopC.at hP (fun i h1 h2 => by rw [hs_F1 i (by omega)])), hT_F1, (HullC.at hH (fun i h1 h2 => by rw [hs_F1 i (by omega)])), (LoadC.at hL (fun i h1 h2 => by rw [hs_F1 i (by omega)])), (ActC.keep hA (fun i h1 h2 => by rw [hs_F1 i (by omega)])), (SlotC.keep hS (fun i h1 h2 => by rw [hs_F1 i (by omega)])), ⟨_, (LoadC.at hW (fun i h1 h2 => by rw [hs_F1 i (by omega)])), hct⟩, ⟨_, (ChC.at hCh (fun i h1 h2 => by rw [hs_F1 i (by omega)]))⟩, ⟨_, _, (SeaC.at hQ (fun i h1 h2 => by rw [hs_F1 i (by omega)]))⟩, _, (RowsC.keep hR (fun i h1 h2 => by rw [hs_F1 i (by omega)])), okR⟩, (fun i hi => by rw [hs_F1 i (by omega)])⟩) dX8_wipe_16
theorem n_ge {n : Int32} (h : ¬ n < nI 1) : (1 : Int32) ≤ n := by
  rw [Int32.le_iff_toInt_le]
  rw [Int32.lt_iff_toInt_lt] at h
  have e1 : (1 : Int32).toInt = 1 := by decide
  have e2 : (nI 1).toInt = 1 := by decide
  omega
theorem n_nge {n : Int32} (h : n < nI 1) : ¬ (1 : Int32) ≤ n := by
  rw [Int32.le_iff_toInt_le]
  rw [Int32.lt_iff_toInt_lt] at h
  have e1 : (1 : Int32).toInt = 1 := by decide
  have e2 : (nI 1).toInt = 1 := by decide
  omega
theorem n_le {n : Int32} (h : n ≤ nI 8) : n ≤ (8 : Int32) := h
theorem n_nle {n : Int32} (h : ¬ n ≤ nI 8) : ¬ n ≤ (8 : Int32) := h
def writeA (x : XV) (n : Int32) (v : Int64) : Int32 := if n18 n = true then (if tn (xt x) + ix n ≤ 72 then nI (tn (xt x) + ix n) else -4) else -2
def writeN (x : XV) (n : Int32) (v : Int64) : XV := if n18 n = true ∧ tn (xt x) + ix n ≤ 72 then writeX x (ix n) v else x
theorem iwX8_write_X8 : ∀ w ∈ u_ws RX8 TX8 8, w ∈ wsX8_write := by decide +kernel
theorem flX8_write_10 : Cond.fieldLink RX8 10 RX8 (TX8 0).2.1 (TX8 0).2.2.1 ∈ wsX8_write := by decide +kernel
set_option maxHeartbeats 4000000 in
set_option maxRecDepth 100000 in
theorem ctX8_write (l : Launch) (g : Gx) (lo : Nat) (ad : Nat → Nat) {F : Nat → va_E} {x : XV} (hX : XC g ad F x) (okx : XOK x) {n : Int32} {v : Int64} : MI l g lo 196 ad yX8_write wsX8_write 1 24 [.ref (ad (0)), .int (n), .long (v)] F (fun r F' => r = writeA x n v ∧ XC g ad F' (writeN x n v) ∧ Same 0 175 F F') := by
  obtain ⟨hP, hT, hH, hL, hA, hS, ⟨wt, hW, hct⟩, ⟨c, hCh⟩, ⟨fm, fo, hQ⟩, rv0, hR, okR⟩ := id hX
  obtain ⟨okT, okH, okL, okA, okS, okAu, okSu⟩ := id okx
  have okn := okH.1
  have okt := okT.1
  refine enter (cc := cX8_write) (maxL := 4) (ret := some .int) (own := RX8) (by decide +kernel) rfl rfl (Nat.le_of_ble_eq_true rfl) ?_
  intro pp ee ss mm below meth cc B hini hC ls hl
  have hl : lv_has ls 4 [(0, .ref (ad (0))), (1, .int (n)), (2, .long (v))] := hl
  refine lv_iload_n B.1 B.2.1 dX8_write_0 rfl (lv_at hl 1 rfl) ?_
  refine lv_iconst (v := nI 1) B.1 B.2.1 dX8_write_1 (by decide) ?_
  refine lv_icmp_lt (tgt := 11) B.1 B.2.1 dX8_write_2 (by decide) (fun c_2 => ?_) (fun c_2 => ?_)
  · have q : n18 n = false := by simp only [n18, Bool.and_eq_false_iff, decide_eq_false_iff_not]; exact Or.inl (n_nge c_2)
    refine lv_bipush (v := (-2)) B.1 B.2.1 dX8_write_11 (by decide) ?_
    exact r_eI B hC (v := (-2)) (⟨by rw [writeA, if_neg (by rw [q]; decide)], by rw [writeN, if_neg (fun z => by rw [q] at z; exact absurd z.1 (by decide))]; exact hX, Same.rf⟩) dX8_write_13
  · refine lv_iload_n B.1 B.2.1 dX8_write_5 rfl (lv_at hl 1 rfl) ?_
    refine lv_bipush (v := nI 8) B.1 B.2.1 dX8_write_6 (by decide) ?_
    refine lv_icmp_le (tgt := 14) B.1 B.2.1 dX8_write_8 (by decide) (fun c_8 => ?_) (fun c_8 => ?_)
    · obtain ⟨j, hj1, hj8, ej⟩ := n18_t (n := n) (by simp only [n18, Bool.and_eq_true, decide_eq_true_eq]; exact ⟨n_ge c_2, n_le c_8⟩)
      have q : n18 n = true := by simp only [n18, Bool.and_eq_true, decide_eq_true_eq]; exact ⟨n_ge c_2, n_le c_8⟩
      refine lv_aload_n B.1 B.2.1 dX8_write_14 rfl (lv_at hl 0 rfl) ?_
      refine r_cg B hC (i := 0) (by decide) hP (C := RX8) (T := TX8) (n := 8) rfl iwX8_write_X8 0 (by decide) (index := 10) flX8_write_10 rfl (v := .ref (ad (1))) rfl dX8_write_15 ?_
      refine lv_iload_n B.1 B.2.1 dX8_write_18 rfl (lv_at hl 1 rfl) ?_
      refine r_tI (y := nI j) (ej) ?_
      refine r_calli B hC hl.1 (1) 7 rfl rfl (by decide) (hT.1) (As := [.int (nI j)]) (ctX7_hasRoomFor l g lo ad hT okT (n := j) (by omega)) gX8_write_X7_hasRoomFor rfl (n := 1) rfl (by decide +kernel) ⟨Nat.le_of_ble_eq_true rfl, Nat.le_of_ble_eq_true rfl⟩ ⟨Nat.zero_le _, Nat.zero_le _⟩ rfl (Nat.le_of_ble_eq_true rfl) dX8_write_19 (fun r19 F1 H locs hp19 hC => ?_)
      obtain ⟨er, eF⟩ := hp19
      subst er
      rw [eF] at hC
      refine lv_if_ne (tgt := 28) B.1 B.2.1 dX8_write_22 (by decide) (fun c_22 => ?_) (fun c_22 => ?_)
      · have q_22 : tn (xt x) + j ≤ 72 := of_decide_eq_true (bI_t.mp c_22)
        refine lv_aload_n B.1 B.2.1 dX8_write_28 rfl (lv_at hl 0 rfl) ?_
        refine r_cg B hC (i := 0) (by decide) hP (C := RX8) (T := TX8) (n := 8) rfl iwX8_write_X8 0 (by decide) (index := 10) flX8_write_10 rfl (v := .ref (ad (1))) rfl dX8_write_29 ?_
        refine lv_iload_n B.1 B.2.1 dX8_write_32 rfl (lv_at hl 1 rfl) ?_
        refine r_tI (y := nI j) (ej) ?_
        refine lv_lload_n B.1 B.2.1 dX8_write_33 rfl (lv_at hl 2 rfl) ?_
        refine r_callv B hC hl.1 (1) 7 rfl rfl (by decide) (hT.1) (As := [.int (nI j), .long (v)]) (ctX7_append l g lo ad hT okT (n := j) (x := v) (by omega) (by omega)) gX8_write_X7_append rfl (n := 2) rfl (by decide +kernel) ⟨Nat.le_of_ble_eq_true rfl, Nat.le_of_ble_eq_true rfl⟩ ⟨Nat.zero_le _, Nat.zero_le _⟩ rfl (Nat.le_of_ble_eq_true rfl) dX8_write_34 (fun F1 H locs hp34 hC => ?_)
        obtain ⟨hT_F1, hs_F1⟩ := hp34
        refine lv_aload_n B.1 B.2.1 dX8_write_37 rfl (lv_at hl 0 rfl) ?_
        refine r_cg B hC (i := 0) (by decide) (TopC.at hP (fun i h1 h2 => by rw [hs_F1 i (by omega)])) (C := RX8) (T := TX8) (n := 8) rfl iwX8_write_X8 0 (by decide) (index := 10) flX8_write_10 rfl (v := .ref (ad (1))) rfl dX8_write_38 ?_
        refine r_calli B hC hl.1 (1) 7 rfl rfl (by decide) (hT_F1.1) (As := []) (ctX7_size l g lo ad hT_F1 (appTo_ok okT (by omega)).1) gX8_write_X7_size rfl (n := 0) rfl (by decide +kernel) ⟨Nat.le_of_ble_eq_true rfl, Nat.le_of_ble_eq_true rfl⟩ ⟨Nat.zero_le _, Nat.zero_le _⟩ rfl (Nat.le_of_ble_eq_true rfl) dX8_write_41 (fun r41 F2 H locs hp41 hC => ?_)
        obtain ⟨er, eF⟩ := hp41
        subst er
        rw [eF] at hC
        exact r_eI B hC (v := nI (tn (appTo v j (xt x)))) (⟨by rw [writeA, if_pos q, ej, ix_n (by omega), if_pos q_22, (appTo_ok okT q_22).2], by rw [writeN, ej, ix_n (by omega), if_pos ⟨ej ▸ q, q_22⟩]; exact ⟨(TopC.at hP (fun i h1 h2 => by rw [hs_F1 i (by omega)])), hT_F1, (HullC.at hH (fun i h1 h2 => by rw [hs_F1 i (by omega)])), (LoadC.at hL (fun i h1 h2 => by rw [hs_F1 i (by omega)])), (ActC.keep hA (fun i h1 h2 => by rw [hs_F1 i (by omega)])), (SlotC.keep hS (fun i h1 h2 => by rw [hs_F1 i (by omega)])), ⟨_, (LoadC.at hW (fun i h1 h2 => by rw [hs_F1 i (by omega)])), hct⟩, ⟨_, (ChC.at hCh (fun i h1 h2 => by rw [hs_F1 i (by omega)]))⟩, ⟨_, _, (SeaC.at hQ (fun i h1 h2 => by rw [hs_F1 i (by omega)]))⟩, _, (RowsC.keep hR (fun i h1 h2 => by rw [hs_F1 i (by omega)])), okR⟩, (fun i hi => by rw [hs_F1 i (by omega)])⟩) dX8_write_44
      · have q_22 : ¬ tn (xt x) + j ≤ 72 := of_decide_eq_false (bI_f.mp c_22)
        refine lv_bipush (v := (-4)) B.1 B.2.1 dX8_write_25 (by decide) ?_
        exact r_eI B hC (v := (-4)) (⟨by rw [writeA, if_pos q, ej, ix_n (by omega), if_neg q_22], by rw [writeN, ej, ix_n (by omega), if_neg (fun z => q_22 z.2)]; exact hX, Same.rf⟩) dX8_write_27
    · have q : n18 n = false := by simp only [n18, Bool.and_eq_false_iff, decide_eq_false_iff_not]; exact Or.inr (n_nle c_8)
      refine lv_bipush (v := (-2)) B.1 B.2.1 dX8_write_11 (by decide) ?_
      exact r_eI B hC (v := (-2)) (⟨by rw [writeA, if_neg (by rw [q]; decide)], by rw [writeN, if_neg (fun z => by rw [q] at z; exact absurd z.1 (by decide))]; exact hX, Same.rf⟩) dX8_write_13
def watchA (x : XV) : Int32 := if su (xw x) = true then -3 else nI (wa (watchV (xh x) (xw x)))
def watchN (x : XV) : XV := if su (xw x) = true then x else actX x (watchV (xh x) (xw x))
def backA (x : XV) : Int32 := if asz (xa x) = 0 then -3 else nI (asz (xa x) - 1)
def backN (x : XV) : XV := if asz (xa x) = 0 then x else backX x
theorem iwX8_watch_X8 : ∀ w ∈ u_ws RX8 TX8 8, w ∈ wsX8_watch := by decide +kernel
theorem flX8_watch_19 : Cond.fieldLink RX8 19 RX8 (TX8 1).2.1 (TX8 1).2.2.1 ∈ wsX8_watch := by decide +kernel
theorem flX8_watch_26 : Cond.fieldLink RX8 26 RX8 (TX8 2).2.1 (TX8 2).2.2.1 ∈ wsX8_watch := by decide +kernel
theorem flX8_watch_36 : Cond.fieldLink RX8 36 RX8 (TX8 4).2.1 (TX8 4).2.2.1 ∈ wsX8_watch := by decide +kernel
set_option maxHeartbeats 4000000 in
set_option maxRecDepth 100000 in
theorem ctX8_watch (l : Launch) (g : Gx) (lo : Nat) (ad : Nat → Nat) {F : Nat → va_E} {x : XV} (hX : XC g ad F x) (okx : XOK x) : MI l g lo 196 ad yX8_watch wsX8_watch 4 86 [.ref (ad (0))] F (fun r F' => r = watchA x ∧ XC g ad F' (watchN x) ∧ Same 0 175 F F') := by
  obtain ⟨hP, hT, hH, hL, hA, hS, ⟨wt, hW, hct⟩, ⟨c, hCh⟩, ⟨fm, fo, hQ⟩, rv0, hR, okR⟩ := id hX
  obtain ⟨okT, okH, okL, okA, okS, okAu, okSu⟩ := id okx
  have okn := okH.1
  have okt := okT.1
  refine enter (cc := cX8_watch) (maxL := 1) (ret := some .int) (own := RX8) (by decide +kernel) rfl rfl (Nat.le_of_ble_eq_true rfl) ?_
  intro pp ee ss mm below meth cc B hini hC ls hl
  have hl : lv_has ls 1 [(0, .ref (ad (0)))] := hl
  refine lv_aload_n B.1 B.2.1 dX8_watch_0 rfl (lv_at hl 0 rfl) ?_
  refine r_cg B hC (i := 0) (by decide) hP (C := RX8) (T := TX8) (n := 8) rfl iwX8_watch_X8 2 (by decide) (index := 26) flX8_watch_26 rfl (v := .ref (ad (8))) rfl dX8_watch_1 ?_
  refine r_calli B hC hl.1 (8) 3 rfl rfl (by decide) (hL.1) (As := []) (ctX3_isSunk l g lo ad (b := 8) (by decide) hL) gX8_watch_X3_isSunk rfl (n := 0) rfl (by decide +kernel) ⟨Nat.le_of_ble_eq_true rfl, Nat.le_of_ble_eq_true rfl⟩ ⟨Nat.zero_le _, Nat.zero_le _⟩ rfl (Nat.le_of_ble_eq_true rfl) dX8_watch_4 (fun r4 F1 H locs hp4 hC => ?_)
  obtain ⟨er, eF⟩ := hp4
  subst er
  rw [eF] at hC
  refine lv_if_eq (tgt := 13) B.1 B.2.1 dX8_watch_7 (by decide) (fun c_7 => ?_) (fun c_7 => ?_)
  · have hsu : su (xw x) = false := bI_f.mp c_7
    refine lv_aload_n B.1 B.2.1 dX8_watch_13 rfl (lv_at hl 0 rfl) ?_
    refine r_cg B hC (i := 0) (by decide) hP (C := RX8) (T := TX8) (n := 8) rfl iwX8_watch_X8 4 (by decide) (index := 36) flX8_watch_36 rfl (v := .ref (ad (18))) rfl dX8_watch_14 ?_
    refine lv_aload_n B.1 B.2.1 dX8_watch_17 rfl (lv_at hl 0 rfl) ?_
    refine r_cg B hC (i := 0) (by decide) hP (C := RX8) (T := TX8) (n := 8) rfl iwX8_watch_X8 2 (by decide) (index := 26) flX8_watch_26 rfl (v := .ref (ad (8))) rfl dX8_watch_18 ?_
    refine r_callv B hC hl.1 (18) 0 rfl rfl (by decide) (hA.1) (As := [.ref (ad (8))]) (ctX0_remember l g lo ad hA okA hL okL.can) gX8_watch_X0_remember rfl (n := 1) rfl (by decide +kernel) ⟨Nat.le_of_ble_eq_true rfl, Nat.le_of_ble_eq_true rfl⟩ ⟨Nat.zero_le _, Nat.zero_le _⟩ rfl (Nat.le_of_ble_eq_true rfl) dX8_watch_21 (fun F1 H locs hp21 hC => ?_)
    obtain ⟨hA_F1, hs_F1⟩ := hp21
    refine lv_aload_n B.1 B.2.1 dX8_watch_24 rfl (lv_at hl 0 rfl) ?_
    refine r_cg B hC (i := 0) (by decide) (TopC.at hP (fun i h1 h2 => by rw [hs_F1 i (by omega)])) (C := RX8) (T := TX8) (n := 8) rfl iwX8_watch_X8 1 (by decide) (index := 19) flX8_watch_19 rfl (v := .ref (ad (3))) rfl dX8_watch_25 ?_
    refine lv_aload_n B.1 B.2.1 dX8_watch_28 rfl (lv_at hl 0 rfl) ?_
    refine r_cg B hC (i := 0) (by decide) (TopC.at hP (fun i h1 h2 => by rw [hs_F1 i (by omega)])) (C := RX8) (T := TX8) (n := 8) rfl iwX8_watch_X8 2 (by decide) (index := 26) flX8_watch_26 rfl (v := .ref (ad (8))) rfl dX8_watch_29 ?_
    refine r_callv B hC hl.1 (3) 2 rfl rfl (by decide) ((HullC.at hH (fun i h1 h2 => by rw [hs_F1 i (by omega)])).1) (As := [.ref (ad (8))]) (ctX2_passWatch l g lo ad (HullC.at hH (fun i h1 h2 => by rw [hs_F1 i (by omega)])) okH (b := 8) (by decide) (LoadC.at hL (fun i h1 h2 => by rw [hs_F1 i (by omega)])) okL hsu) gX8_watch_X2_passWatch rfl (n := 1) rfl (by decide +kernel) ⟨Nat.le_of_ble_eq_true rfl, Nat.le_of_ble_eq_true rfl⟩ ⟨Nat.zero_le _, Nat.zero_le _⟩ rfl (Nat.le_of_ble_eq_true rfl) dX8_watch_32 (fun F2 H locs hp32 hC => ?_)
    obtain ⟨hL_F2, hs_F2⟩ := hp32
    refine lv_aload_n B.1 B.2.1 dX8_watch_35 rfl (lv_at hl 0 rfl) ?_
    refine r_cg B hC (i := 0) (by decide) (TopC.at hP (fun i h1 h2 => by rw [hs_F2 i (by omega)]; rw [hs_F1 i (by omega)])) (C := RX8) (T := TX8) (n := 8) rfl iwX8_watch_X8 2 (by decide) (index := 26) flX8_watch_26 rfl (v := .ref (ad (8))) rfl dX8_watch_36 ?_
    refine r_calli B hC hl.1 (8) 3 rfl rfl (by decide) (hL_F2.1) (As := []) (ctX3_waterInside l g lo ad (b := 8) (by decide) hL_F2) gX8_watch_X3_waterInside rfl (n := 0) rfl (by decide +kernel) ⟨Nat.le_of_ble_eq_true rfl, Nat.le_of_ble_eq_true rfl⟩ ⟨Nat.zero_le _, Nat.zero_le _⟩ rfl (Nat.le_of_ble_eq_true rfl) dX8_watch_39 (fun r39 F3 H locs hp39 hC => ?_)
    obtain ⟨er, eF⟩ := hp39
    subst er
    rw [eF] at hC
    exact r_eI B hC (v := nI (wa (watchV (xh x) (xw x)))) (⟨by rw [watchA, if_neg (by rw [hsu]; decide)], by rw [watchN, if_neg (by rw [hsu]; decide)]; exact ⟨(TopC.at hP (fun i h1 h2 => by rw [hs_F2 i (by omega)]; rw [hs_F1 i (by omega)])), (TextC.at hT (fun i h1 h2 => by rw [hs_F2 i (by omega)]; rw [hs_F1 i (by omega)])), (HullC.at hH (fun i h1 h2 => by rw [hs_F2 i (by omega)]; rw [hs_F1 i (by omega)])), hL_F2, (ActC.keep hA_F1 (fun i h1 h2 => by rw [hs_F2 i (by omega)])), (SlotC.keep hS (fun i h1 h2 => by rw [hs_F2 i (by omega)]; rw [hs_F1 i (by omega)])), ⟨_, (LoadC.at hW (fun i h1 h2 => by rw [hs_F2 i (by omega)]; rw [hs_F1 i (by omega)])), hct⟩, ⟨_, (ChC.at hCh (fun i h1 h2 => by rw [hs_F2 i (by omega)]; rw [hs_F1 i (by omega)]))⟩, ⟨_, _, (SeaC.at hQ (fun i h1 h2 => by rw [hs_F2 i (by omega)]; rw [hs_F1 i (by omega)]))⟩, _, (RowsC.keep hR (fun i h1 h2 => by rw [hs_F2 i (by omega)]; rw [hs_F1 i (by omega)])), okR⟩, (fun i hi => by rw [hs_F2 i (by omega)]; rw [hs_F1 i (by omega)])⟩) dX8_watch_42
  · have hsu : su (xw x) = true := bI_t.mp c_7
    refine lv_bipush (v := (-3)) B.1 B.2.1 dX8_watch_10 (by decide) ?_
    exact r_eI B hC (v := (-3)) (⟨by rw [watchA, if_pos hsu], by rw [watchN, if_pos hsu]; exact hX, Same.rf⟩) dX8_watch_12
theorem iwX8_back_X8 : ∀ w ∈ u_ws RX8 TX8 8, w ∈ wsX8_back := by decide +kernel
theorem flX8_back_26 : Cond.fieldLink RX8 26 RX8 (TX8 2).2.1 (TX8 2).2.2.1 ∈ wsX8_back := by decide +kernel
theorem flX8_back_36 : Cond.fieldLink RX8 36 RX8 (TX8 4).2.1 (TX8 4).2.2.1 ∈ wsX8_back := by decide +kernel
set_option maxHeartbeats 4000000 in
set_option maxRecDepth 100000 in
theorem ctX8_back (l : Launch) (g : Gx) (lo : Nat) (ad : Nat → Nat) {F : Nat → va_E} {x : XV} (hX : XC g ad F x) (okx : XOK x) : MI l g lo 196 ad yX8_back wsX8_back 3 82 [.ref (ad (0))] F (fun r F' => r = backA x ∧ XC g ad F' (backN x) ∧ Same 0 175 F F') := by
  obtain ⟨hP, hT, hH, hL, hA, hS, ⟨wt, hW, hct⟩, ⟨c, hCh⟩, ⟨fm, fo, hQ⟩, rv0, hR, okR⟩ := id hX
  obtain ⟨okT, okH, okL, okA, okS, okAu, okSu⟩ := id okx
  have okn := okH.1
  have okt := okT.1
  have okaf := okA.1
  have okaz := okA.2.1
  refine enter (cc := cX8_back) (maxL := 1) (ret := some .int) (own := RX8) (by decide +kernel) rfl rfl (Nat.le_of_ble_eq_true rfl) ?_
  intro pp ee ss mm below meth cc B hini hC ls hl
  have hl : lv_has ls 1 [(0, .ref (ad (0)))] := hl
  refine lv_aload_n B.1 B.2.1 dX8_back_0 rfl (lv_at hl 0 rfl) ?_
  refine r_cg B hC (i := 0) (by decide) hP (C := RX8) (T := TX8) (n := 8) rfl iwX8_back_X8 4 (by decide) (index := 36) flX8_back_36 rfl (v := .ref (ad (18))) rfl dX8_back_1 ?_
  refine r_calli B hC hl.1 (18) 0 rfl rfl (by decide) (hA.1) (As := []) (ctX0_size l g lo ad (fi := afi (xa x)) (sz := asz (xa x)) hA.1 (by omega) (by omega)) gX8_back_X0_size rfl (n := 0) rfl (by decide +kernel) ⟨Nat.le_of_ble_eq_true rfl, Nat.le_of_ble_eq_true rfl⟩ ⟨Nat.zero_le _, Nat.zero_le _⟩ rfl (Nat.le_of_ble_eq_true rfl) dX8_back_4 (fun r4 F1 H locs hp4 hC => ?_)
  obtain ⟨er, eF⟩ := hp4
  subst er
  rw [eF] at hC
  refine lv_iconst (v := nI 1) B.1 B.2.1 dX8_back_7 (by decide) ?_
  refine lv_icmp_ge (tgt := 14) B.1 B.2.1 dX8_back_8 (by decide) (fun c_8 => ?_) (fun c_8 => ?_)
  · have q_8 : ¬ asz (xa x) = 0 := by have z := (nI_leI (by omega) (by omega)).mp c_8; omega
    refine lv_aload_n B.1 B.2.1 dX8_back_14 rfl (lv_at hl 0 rfl) ?_
    refine r_cg B hC (i := 0) (by decide) hP (C := RX8) (T := TX8) (n := 8) rfl iwX8_back_X8 4 (by decide) (index := 36) flX8_back_36 rfl (v := .ref (ad (18))) rfl dX8_back_15 ?_
    refine lv_aload_n B.1 B.2.1 dX8_back_18 rfl (lv_at hl 0 rfl) ?_
    refine r_cg B hC (i := 0) (by decide) hP (C := RX8) (T := TX8) (n := 8) rfl iwX8_back_X8 2 (by decide) (index := 26) flX8_back_26 rfl (v := .ref (ad (8))) rfl dX8_back_19 ?_
    refine r_callv B hC hl.1 (18) 0 rfl rfl (by decide) (hA.1) (As := [.ref (ad (8))]) (ctX0_undoLast l g lo ad hA okA hL okL.can (by omega)) gX8_back_X0_undoLast rfl (n := 1) rfl (by decide +kernel) ⟨Nat.le_of_ble_eq_true rfl, Nat.le_of_ble_eq_true rfl⟩ ⟨Nat.zero_le _, Nat.zero_le _⟩ rfl (Nat.le_of_ble_eq_true rfl) dX8_back_22 (fun F1 H locs hp22 hC => ?_)
    obtain ⟨hA_F1, hL_F1, hs_F1⟩ := hp22
    refine lv_aload_n B.1 B.2.1 dX8_back_25 rfl (lv_at hl 0 rfl) ?_
    refine r_cg B hC (i := 0) (by decide) (TopC.at hP (fun i h1 h2 => by rw [hs_F1 i (by omega) (by omega)])) (C := RX8) (T := TX8) (n := 8) rfl iwX8_back_X8 4 (by decide) (index := 36) flX8_back_36 rfl (v := .ref (ad (18))) rfl dX8_back_26 ?_
    refine r_calli B hC hl.1 (18) 0 rfl rfl (by decide) (hA_F1.1) (As := []) (ctX0_size l g lo ad (fi := afi (xa x)) (sz := asz (xa x) - 1) hA_F1.1 (by omega) (by omega)) gX8_back_X0_size rfl (n := 0) rfl (by decide +kernel) ⟨Nat.le_of_ble_eq_true rfl, Nat.le_of_ble_eq_true rfl⟩ ⟨Nat.zero_le _, Nat.zero_le _⟩ rfl (Nat.le_of_ble_eq_true rfl) dX8_back_29 (fun r29 F2 H locs hp29 hC => ?_)
    obtain ⟨er, eF⟩ := hp29
    subst er
    rw [eF] at hC
    exact r_eI B hC (v := nI (asz (xa x) - 1)) (⟨by rw [backA, if_neg q_8], by rw [backN, if_neg q_8]; exact ⟨(TopC.at hP (fun i h1 h2 => by rw [hs_F1 i (by omega) (by omega)])), (TextC.at hT (fun i h1 h2 => by rw [hs_F1 i (by omega) (by omega)])), (HullC.at hH (fun i h1 h2 => by rw [hs_F1 i (by omega) (by omega)])), hL_F1, hA_F1, (SlotC.keep hS (fun i h1 h2 => by rw [hs_F1 i (by omega) (by omega)])), ⟨_, (LoadC.at hW (fun i h1 h2 => by rw [hs_F1 i (by omega) (by omega)])), hct⟩, ⟨_, (ChC.at hCh (fun i h1 h2 => by rw [hs_F1 i (by omega) (by omega)]))⟩, ⟨_, _, (SeaC.at hQ (fun i h1 h2 => by rw [hs_F1 i (by omega) (by omega)]))⟩, _, (RowsC.keep hR (fun i h1 h2 => by rw [hs_F1 i (by omega) (by omega)])), okR⟩, (fun i hi => by rw [hs_F1 i (by omega) (by omega)])⟩) dX8_back_32
  · have q_9 : ¬ 1 ≤ asz (xa x) := fun z => c_8 ((nI_leI (by omega) (by omega)).mpr z)
    have q_8 : asz (xa x) = 0 := by omega
    refine lv_bipush (v := (-3)) B.1 B.2.1 dX8_back_11 (by decide) ?_
    exact r_eI B hC (v := (-3)) (⟨by rw [backA, if_pos q_8], by rw [backN, if_pos q_8]; exact hX, Same.rf⟩) dX8_back_13
