/-! HULL: what its methods answer and change -/
theorem iwX2_places_X2 : ∀ w ∈ u_ws RX2 TX2 7, w ∈ wsX2_places := by decide +kernel
theorem flX2_places_24 : Cond.fieldLink RX2 24 RX2 (TX2 4).2.1 (TX2 4).2.2.1 ∈ wsX2_places := by decide +kernel
set_option maxHeartbeats 4000000 in
set_option maxRecDepth 100000 in
theorem ctX2_places (l : Launch) (g : Gx) (lo : Nat) (ad : Nat → Nat) {F : Nat → va_E} {h : HV} (hH : HullC g ad F h) (ok : HOK h) : MI l g lo 196 ad yX2_places wsX2_places 0 0 [.ref (ad (3))] F (fun r F' => r = nI (hn h) ∧ F' = F) := by
  obtain ⟨g0, g1, g2, g3, g4⟩ := id hH
  have okn := ok.1
  have okp := ok.2.1
  have okh := ok.2.2.1
  refine enter (cc := cX2_places) (maxL := 1) (ret := some .int) (own := RX2) (by decide +kernel) rfl rfl (Nat.le_of_ble_eq_true rfl) ?_
  intro pp ee ss mm below meth cc B hini hC ls hl
  have hl : lv_has ls 1 [(0, .ref (ad (3)))] := hl
  refine lv_aload_n B.1 B.2.1 dX2_places_0 rfl (lv_at hl 0 rfl) ?_
  refine r_cg B hC (i := 3) (by decide) g0 (C := RX2) (T := TX2) (n := 7) rfl iwX2_places_X2 4 (by decide) (index := 24) flX2_places_24 rfl (v := .int (nI (hn h))) rfl dX2_places_1 ?_
  exact r_eI B hC (v := nI (hn h)) (⟨rfl, rfl⟩) dX2_places_4
theorem iwX2_pumps_X2 : ∀ w ∈ u_ws RX2 TX2 7, w ∈ wsX2_pumps := by decide +kernel
theorem flX2_pumps_28 : Cond.fieldLink RX2 28 RX2 (TX2 5).2.1 (TX2 5).2.2.1 ∈ wsX2_pumps := by decide +kernel
set_option maxHeartbeats 4000000 in
set_option maxRecDepth 100000 in
theorem ctX2_pumps (l : Launch) (g : Gx) (lo : Nat) (ad : Nat → Nat) {F : Nat → va_E} {h : HV} (hH : HullC g ad F h) (ok : HOK h) : MI l g lo 196 ad yX2_pumps wsX2_pumps 0 0 [.ref (ad (3))] F (fun r F' => r = nI (hpu h) ∧ F' = F) := by
  obtain ⟨g0, g1, g2, g3, g4⟩ := id hH
  have okn := ok.1
  have okp := ok.2.1
  have okh := ok.2.2.1
  refine enter (cc := cX2_pumps) (maxL := 1) (ret := some .int) (own := RX2) (by decide +kernel) rfl rfl (Nat.le_of_ble_eq_true rfl) ?_
  intro pp ee ss mm below meth cc B hini hC ls hl
  have hl : lv_has ls 1 [(0, .ref (ad (3)))] := hl
  refine lv_aload_n B.1 B.2.1 dX2_pumps_0 rfl (lv_at hl 0 rfl) ?_
  refine r_cg B hC (i := 3) (by decide) g0 (C := RX2) (T := TX2) (n := 7) rfl iwX2_pumps_X2 5 (by decide) (index := 28) flX2_pumps_28 rfl (v := .int (nI (hpu h))) rfl dX2_pumps_1 ?_
  exact r_eI B hC (v := nI (hpu h)) (⟨rfl, rfl⟩) dX2_pumps_4
theorem iwX2_hold_X2 : ∀ w ∈ u_ws RX2 TX2 7, w ∈ wsX2_hold := by decide +kernel
theorem flX2_hold_31 : Cond.fieldLink RX2 31 RX2 (TX2 6).2.1 (TX2 6).2.2.1 ∈ wsX2_hold := by decide +kernel
set_option maxHeartbeats 4000000 in
set_option maxRecDepth 100000 in
theorem ctX2_hold (l : Launch) (g : Gx) (lo : Nat) (ad : Nat → Nat) {F : Nat → va_E} {h : HV} (hH : HullC g ad F h) (ok : HOK h) : MI l g lo 196 ad yX2_hold wsX2_hold 0 0 [.ref (ad (3))] F (fun r F' => r = nI (hho h) ∧ F' = F) := by
  obtain ⟨g0, g1, g2, g3, g4⟩ := id hH
  have okn := ok.1
  have okp := ok.2.1
  have okh := ok.2.2.1
  refine enter (cc := cX2_hold) (maxL := 1) (ret := some .int) (own := RX2) (by decide +kernel) rfl rfl (Nat.le_of_ble_eq_true rfl) ?_
  intro pp ee ss mm below meth cc B hini hC ls hl
  have hl : lv_has ls 1 [(0, .ref (ad (3)))] := hl
  refine lv_aload_n B.1 B.2.1 dX2_hold_0 rfl (lv_at hl 0 rfl) ?_
  refine r_cg B hC (i := 3) (by decide) g0 (C := RX2) (T := TX2) (n := 7) rfl iwX2_hold_X2 6 (by decide) (index := 31) flX2_hold_31 rfl (v := .int (nI (hho h))) rfl dX2_hold_1 ?_
  exact r_eI B hC (v := nI (hho h)) (⟨rfl, rfl⟩) dX2_hold_4
theorem iwX2_isPlace_X2 : ∀ w ∈ u_ws RX2 TX2 7, w ∈ wsX2_isPlace := by decide +kernel
theorem flX2_isPlace_24 : Cond.fieldLink RX2 24 RX2 (TX2 4).2.1 (TX2 4).2.2.1 ∈ wsX2_isPlace := by decide +kernel
set_option maxHeartbeats 4000000 in
set_option maxRecDepth 100000 in
theorem ctX2_isPlace (l : Launch) (g : Gx) (lo : Nat) (ad : Nat → Nat) {F : Nat → va_E} {h : HV} (hH : HullC g ad F h) (ok : HOK h) {p : Nat} (hp : p < 2 ^ 30) : MI l g lo 196 ad yX2_isPlace wsX2_isPlace 0 0 [.ref (ad (3)), .int (nI p)] F (fun r F' => r = bI (decide (p < hn h)) ∧ F' = F) := by
  obtain ⟨g0, g1, g2, g3, g4⟩ := id hH
  have okn := ok.1
  have okp := ok.2.1
  have okh := ok.2.2.1
  refine enter (cc := cX2_isPlace) (maxL := 2) (ret := some .boolean) (own := RX2) (by decide +kernel) rfl rfl (Nat.le_of_ble_eq_true rfl) ?_
  intro pp ee ss mm below meth cc B hini hC ls hl
  have hl : lv_has ls 2 [(0, .ref (ad (3))), (1, .int (nI p))] := hl
  refine lv_iload_n B.1 B.2.1 dX2_isPlace_0 rfl (lv_at hl 1 rfl) ?_
  refine lv_if_lt (tgt := 22) B.1 B.2.1 dX2_isPlace_1 (by decide) (fun z => absurd z (nI_pos (by omega))) (fun _ => ?_)
  refine lv_iload_n B.1 B.2.1 dX2_isPlace_4 rfl (lv_at hl 1 rfl) ?_
  refine lv_aload_n B.1 B.2.1 dX2_isPlace_5 rfl (lv_at hl 0 rfl) ?_
  refine r_cg B hC (i := 3) (by decide) g0 (C := RX2) (T := TX2) (n := 7) rfl iwX2_isPlace_X2 4 (by decide) (index := 24) flX2_isPlace_24 rfl (v := .int (nI (hn h))) rfl dX2_isPlace_6 ?_
  refine lv_icmp_ge (tgt := 22) B.1 B.2.1 dX2_isPlace_9 (by decide) (fun c_9 => ?_) (fun c_9 => ?_)
  · have q_9 : (hn h) ≤ p := (nI_leI (by omega) (by omega)).mp c_9
    refine lv_iconst (v := nI 0) B.1 B.2.1 dX2_isPlace_22 (by decide) ?_
    exact r_eZ B hC (v := nI 0) (rfl) (⟨by rw [decide_eq_false (show ¬ p < hn h by omega)]; rfl, rfl⟩) dX2_isPlace_23
  · have q_9 : ¬ (hn h) ≤ p := fun z => c_9 ((nI_leI (by omega) (by omega)).mpr z)
    refine lv_iload_n B.1 B.2.1 dX2_isPlace_12 rfl (lv_at hl 1 rfl) ?_
    refine lv_bipush (v := nI 10) B.1 B.2.1 dX2_isPlace_13 (by decide) ?_
    refine lv_icmp_ge (tgt := 22) B.1 B.2.1 dX2_isPlace_15 (by decide) (fun z => absurd z (nI_ge (by omega) (by omega))) (fun _ => ?_)
    refine lv_iconst (v := nI 1) B.1 B.2.1 dX2_isPlace_18 (by decide) ?_
    refine lv_goto (tgt := 23) B.1 B.2.1 dX2_isPlace_19 (by decide) ?_
    exact r_eZ B hC (v := nI 1) (rfl) (⟨by rw [decide_eq_true (show p < hn h by omega)]; rfl, rfl⟩) dX2_isPlace_23
/-- a number that names a place -/
def isP (h : HV) (x : Int32) : Bool := decide (0 ≤ x) && decide (x < nI (hn h))
theorem isP_t {h : HV} (ok : HOK h) {x : Int32} (q : isP h x = true) : ∃ j, j < hn h ∧ x = nI j := by
  simp only [isP, Bool.and_eq_true, decide_eq_true_eq] at q
  have q0 : ¬ x < 0 := fun z => by
    rw [Int32.lt_iff_toInt_lt] at z
    have q1 := Int32.le_iff_toInt_le.mp q.1
    omega
  obtain ⟨j, hj, rfl⟩ := nI_of q0
  have := ok.1
  exact ⟨j, (nI_ltI hj (by omega)).mp q.2, rfl⟩
theorem isP_n {h : HV} (ok : HOK h) {j : Nat} (hj : j < hn h) : isP h (nI j) = true := by
  have := ok.1
  simp only [isP, Bool.and_eq_true, decide_eq_true_eq]
  exact ⟨nI_pos' (by omega), nI_lt hj (by omega)⟩
set_option maxHeartbeats 4000000 in
set_option maxRecDepth 100000 in
theorem ctX2_isPlace_any (l : Launch) (g : Gx) (lo : Nat) (ad : Nat → Nat) {F : Nat → va_E} {h : HV} (hH : HullC g ad F h) (ok : HOK h) {x : Int32} : MI l g lo 196 ad yX2_isPlace wsX2_isPlace 0 0 [.ref (ad (3)), .int (x)] F (fun r F' => r = bI (isP h x) ∧ F' = F) := by
  obtain ⟨g0, g1, g2, g3, g4⟩ := id hH
  have okn := ok.1
  have okp := ok.2.1
  have okh := ok.2.2.1
  refine enter (cc := cX2_isPlace) (maxL := 2) (ret := some .boolean) (own := RX2) (by decide +kernel) rfl rfl (Nat.le_of_ble_eq_true rfl) ?_
  intro pp ee ss mm below meth cc B hini hC ls hl
  have hl : lv_has ls 2 [(0, .ref (ad (3))), (1, .int (x))] := hl
  refine lv_iload_n B.1 B.2.1 dX2_isPlace_0 rfl (lv_at hl 1 rfl) ?_
  refine lv_if_lt (tgt := 22) B.1 B.2.1 dX2_isPlace_1 (by decide) (fun c_1 => ?_) (fun c_1 => ?_)
  · refine lv_iconst (v := nI 0) B.1 B.2.1 dX2_isPlace_22 (by decide) ?_
    exact r_eZ B hC (v := nI 0) (rfl) (⟨by rw [show isP h x = false by simp only [isP, Bool.and_eq_false_iff, decide_eq_false_iff_not]; exact Or.inl (fun z => by rw [Int32.le_iff_toInt_le] at z; rw [Int32.lt_iff_toInt_lt] at c_1; omega)]; rfl, rfl⟩) dX2_isPlace_23
  · refine lv_iload_n B.1 B.2.1 dX2_isPlace_4 rfl (lv_at hl 1 rfl) ?_
    refine lv_aload_n B.1 B.2.1 dX2_isPlace_5 rfl (lv_at hl 0 rfl) ?_
    refine r_cg B hC (i := 3) (by decide) g0 (C := RX2) (T := TX2) (n := 7) rfl iwX2_isPlace_X2 4 (by decide) (index := 24) flX2_isPlace_24 rfl (v := .int (nI (hn h))) rfl dX2_isPlace_6 ?_
    refine lv_icmp_ge (tgt := 22) B.1 B.2.1 dX2_isPlace_9 (by decide) (fun c_9 => ?_) (fun c_9 => ?_)
    · refine lv_iconst (v := nI 0) B.1 B.2.1 dX2_isPlace_22 (by decide) ?_
      exact r_eZ B hC (v := nI 0) (rfl) (⟨by rw [show isP h x = false by simp only [isP, Bool.and_eq_false_iff, decide_eq_false_iff_not]; exact Or.inr (fun z => by rw [Int32.lt_iff_toInt_lt] at z; rw [Int32.le_iff_toInt_le] at c_9; omega)]; rfl, rfl⟩) dX2_isPlace_23
    · have q_0 : 0 ≤ x := by rw [Int32.le_iff_toInt_le]; rw [Int32.lt_iff_toInt_lt] at c_1; omega
      have q_9 : x < nI (hn h) := by rw [Int32.lt_iff_toInt_lt]; rw [Int32.le_iff_toInt_le] at c_9; omega
      obtain ⟨j, hjn, hj⟩ := isP_t ok (show isP h x = true by simp only [isP, Bool.and_eq_true, decide_eq_true_eq]; exact ⟨q_0, q_9⟩)
      have hj31 : j < 2 ^ 31 := by omega
      refine lv_iload_n B.1 B.2.1 dX2_isPlace_12 rfl (lv_at hl 1 rfl) ?_
      refine lv_bipush (v := nI 10) B.1 B.2.1 dX2_isPlace_13 (by decide) ?_
      refine lv_icmp_ge (tgt := 22) B.1 B.2.1 dX2_isPlace_15 (by decide) (fun z => absurd z (fun z => absurd ((nI_leI (by decide) hj31).mp (hj ▸ z)) (by omega))) (fun _ => ?_)
      refine lv_iconst (v := nI 1) B.1 B.2.1 dX2_isPlace_18 (by decide) ?_
      refine lv_goto (tgt := 23) B.1 B.2.1 dX2_isPlace_19 (by decide) ?_
      exact r_eZ B hC (v := nI 1) (rfl) (⟨by rw [show isP h x = true by simp only [isP, Bool.and_eq_true, decide_eq_true_eq]; exact ⟨q_0, q_9⟩]; rfl, rfl⟩) dX2_isPlace_23
theorem iwX2_lengthOf_X2 : ∀ w ∈ u_ws RX2 TX2 7, w ∈ wsX2_lengthOf := by decide +kernel
theorem flX2_lengthOf_9 : Cond.fieldLink RX2 9 RX2 (TX2 0).2.1 (TX2 0).2.2.1 ∈ wsX2_lengthOf := by decide +kernel
theorem flX2_lengthOf_24 : Cond.fieldLink RX2 24 RX2 (TX2 4).2.1 (TX2 4).2.2.1 ∈ wsX2_lengthOf := by decide +kernel
set_option maxHeartbeats 4000000 in
set_option maxRecDepth 100000 in
theorem ctX2_lengthOf (l : Launch) (g : Gx) (lo : Nat) (ad : Nat → Nat) {F : Nat → va_E} {h : HV} (hH : HullC g ad F h) (ok : HOK h) {p : Nat} (hp : p < hn h) : MI l g lo 196 ad yX2_lengthOf wsX2_lengthOf 0 0 [.ref (ad (3)), .int (nI p)] F (fun r F' => r = nI (hle h p) ∧ F' = F) := by
  obtain ⟨g0, g1, g2, g3, g4⟩ := id hH
  have okn := ok.1
  have okp := ok.2.1
  have okh := ok.2.2.1
  refine enter (cc := cX2_lengthOf) (maxL := 2) (ret := some .int) (own := RX2) (by decide +kernel) rfl rfl (Nat.le_of_ble_eq_true rfl) ?_
  intro pp ee ss mm below meth cc B hini hC ls hl
  have hl : lv_has ls 2 [(0, .ref (ad (3))), (1, .int (nI p))] := hl
  refine lv_iload_n B.1 B.2.1 dX2_lengthOf_0 rfl (lv_at hl 1 rfl) ?_
  refine lv_if_lt (tgt := 30) B.1 B.2.1 dX2_lengthOf_1 (by decide) (fun z => absurd z (nI_pos (by omega))) (fun _ => ?_)
  refine lv_iload_n B.1 B.2.1 dX2_lengthOf_4 rfl (lv_at hl 1 rfl) ?_
  refine lv_aload_n B.1 B.2.1 dX2_lengthOf_5 rfl (lv_at hl 0 rfl) ?_
  refine r_cg B hC (i := 3) (by decide) g0 (C := RX2) (T := TX2) (n := 7) rfl iwX2_lengthOf_X2 4 (by decide) (index := 24) flX2_lengthOf_24 rfl (v := .int (nI (hn h))) rfl dX2_lengthOf_6 ?_
  refine lv_icmp_ge (tgt := 30) B.1 B.2.1 dX2_lengthOf_9 (by decide) (fun z => absurd z (nI_ge (by omega) (by omega))) (fun _ => ?_)
  refine lv_iload_n B.1 B.2.1 dX2_lengthOf_12 rfl (lv_at hl 1 rfl) ?_
  refine lv_aload_n B.1 B.2.1 dX2_lengthOf_13 rfl (lv_at hl 0 rfl) ?_
  refine r_cg B hC (i := 3) (by decide) g0 (C := RX2) (T := TX2) (n := 7) rfl iwX2_lengthOf_X2 0 (by decide) (index := 9) flX2_lengthOf_9 rfl (v := .ref (ad (4))) rfl dX2_lengthOf_14 ?_
  refine r_calen B hC (i := 4) (by decide) g1 0 rfl (n := 10) rfl dX2_lengthOf_17 ?_
  refine lv_icmp_ge (tgt := 30) B.1 B.2.1 dX2_lengthOf_18 (by decide) (fun z => absurd z (nI_ge (by omega) (by omega))) (fun _ => ?_)
  refine lv_aload_n B.1 B.2.1 dX2_lengthOf_21 rfl (lv_at hl 0 rfl) ?_
  refine r_cg B hC (i := 3) (by decide) g0 (C := RX2) (T := TX2) (n := 7) rfl iwX2_lengthOf_X2 0 (by decide) (index := 9) flX2_lengthOf_9 rfl (v := .ref (ad (4))) rfl dX2_lengthOf_22 ?_
  refine lv_iload_n B.1 B.2.1 dX2_lengthOf_25 rfl (lv_at hl 1 rfl) ?_
  refine r_cald B hC (i := 4) (by decide) g1 (j := p) (by omega) (by decide) dX2_lengthOf_26 ?_
  refine r_tI (y := nI (hle h p)) rfl ?_
  refine lv_goto (tgt := 31) B.1 B.2.1 dX2_lengthOf_27 (by decide) ?_
  exact r_eI B hC (v := nI (hle h p)) (⟨rfl, rfl⟩) dX2_lengthOf_31
theorem iwX2_letsIn_X2 : ∀ w ∈ u_ws RX2 TX2 7, w ∈ wsX2_letsIn := by decide +kernel
theorem flX2_letsIn_15 : Cond.fieldLink RX2 15 RX2 (TX2 1).2.1 (TX2 1).2.2.1 ∈ wsX2_letsIn := by decide +kernel
theorem flX2_letsIn_24 : Cond.fieldLink RX2 24 RX2 (TX2 4).2.1 (TX2 4).2.2.1 ∈ wsX2_letsIn := by decide +kernel
set_option maxHeartbeats 4000000 in
set_option maxRecDepth 100000 in
theorem ctX2_letsIn (l : Launch) (g : Gx) (lo : Nat) (ad : Nat → Nat) {F : Nat → va_E} {h : HV} (hH : HullC g ad F h) (ok : HOK h) {p : Nat} (hp : p < hn h) : MI l g lo 196 ad yX2_letsIn wsX2_letsIn 0 0 [.ref (ad (3)), .int (nI p)] F (fun r F' => r = nI (hin_ h p) ∧ F' = F) := by
  obtain ⟨g0, g1, g2, g3, g4⟩ := id hH
  have okn := ok.1
  have okp := ok.2.1
  have okh := ok.2.2.1
  refine enter (cc := cX2_letsIn) (maxL := 2) (ret := some .int) (own := RX2) (by decide +kernel) rfl rfl (Nat.le_of_ble_eq_true rfl) ?_
  intro pp ee ss mm below meth cc B hini hC ls hl
  have hl : lv_has ls 2 [(0, .ref (ad (3))), (1, .int (nI p))] := hl
  refine lv_iload_n B.1 B.2.1 dX2_letsIn_0 rfl (lv_at hl 1 rfl) ?_
  refine lv_if_lt (tgt := 30) B.1 B.2.1 dX2_letsIn_1 (by decide) (fun z => absurd z (nI_pos (by omega))) (fun _ => ?_)
  refine lv_iload_n B.1 B.2.1 dX2_letsIn_4 rfl (lv_at hl 1 rfl) ?_
  refine lv_aload_n B.1 B.2.1 dX2_letsIn_5 rfl (lv_at hl 0 rfl) ?_
  refine r_cg B hC (i := 3) (by decide) g0 (C := RX2) (T := TX2) (n := 7) rfl iwX2_letsIn_X2 4 (by decide) (index := 24) flX2_letsIn_24 rfl (v := .int (nI (hn h))) rfl dX2_letsIn_6 ?_
  refine lv_icmp_ge (tgt := 30) B.1 B.2.1 dX2_letsIn_9 (by decide) (fun z => absurd z (nI_ge (by omega) (by omega))) (fun _ => ?_)
  refine lv_iload_n B.1 B.2.1 dX2_letsIn_12 rfl (lv_at hl 1 rfl) ?_
  refine lv_aload_n B.1 B.2.1 dX2_letsIn_13 rfl (lv_at hl 0 rfl) ?_
  refine r_cg B hC (i := 3) (by decide) g0 (C := RX2) (T := TX2) (n := 7) rfl iwX2_letsIn_X2 1 (by decide) (index := 15) flX2_letsIn_15 rfl (v := .ref (ad (5))) rfl dX2_letsIn_14 ?_
  refine r_calen B hC (i := 5) (by decide) g2 0 rfl (n := 10) rfl dX2_letsIn_17 ?_
  refine lv_icmp_ge (tgt := 30) B.1 B.2.1 dX2_letsIn_18 (by decide) (fun z => absurd z (nI_ge (by omega) (by omega))) (fun _ => ?_)
  refine lv_aload_n B.1 B.2.1 dX2_letsIn_21 rfl (lv_at hl 0 rfl) ?_
  refine r_cg B hC (i := 3) (by decide) g0 (C := RX2) (T := TX2) (n := 7) rfl iwX2_letsIn_X2 1 (by decide) (index := 15) flX2_letsIn_15 rfl (v := .ref (ad (5))) rfl dX2_letsIn_22 ?_
  refine lv_iload_n B.1 B.2.1 dX2_letsIn_25 rfl (lv_at hl 1 rfl) ?_
  refine r_cald B hC (i := 5) (by decide) g2 (j := p) (by omega) (by decide) dX2_letsIn_26 ?_
  refine r_tI (y := nI (hin_ h p)) rfl ?_
  refine lv_goto (tgt := 31) B.1 B.2.1 dX2_letsIn_27 (by decide) ?_
  exact r_eI B hC (v := nI (hin_ h p)) (⟨rfl, rfl⟩) dX2_letsIn_31
theorem iwX2_shipOf_X2 : ∀ w ∈ u_ws RX2 TX2 7, w ∈ wsX2_shipOf := by decide +kernel
theorem flX2_shipOf_21 : Cond.fieldLink RX2 21 RX2 (TX2 3).2.1 (TX2 3).2.2.1 ∈ wsX2_shipOf := by decide +kernel
theorem flX2_shipOf_24 : Cond.fieldLink RX2 24 RX2 (TX2 4).2.1 (TX2 4).2.2.1 ∈ wsX2_shipOf := by decide +kernel
set_option maxHeartbeats 4000000 in
set_option maxRecDepth 100000 in
theorem ctX2_shipOf (l : Launch) (g : Gx) (lo : Nat) (ad : Nat → Nat) {F : Nat → va_E} {h : HV} (hH : HullC g ad F h) (ok : HOK h) {p : Nat} (hp : p < hn h) : MI l g lo 196 ad yX2_shipOf wsX2_shipOf 0 0 [.ref (ad (3)), .int (nI p)] F (fun r F' => r = oI (hsh h p) ∧ F' = F) := by
  obtain ⟨g0, g1, g2, g3, g4⟩ := id hH
  have okn := ok.1
  have okp := ok.2.1
  have okh := ok.2.2.1
  refine enter (cc := cX2_shipOf) (maxL := 2) (ret := some .int) (own := RX2) (by decide +kernel) rfl rfl (Nat.le_of_ble_eq_true rfl) ?_
  intro pp ee ss mm below meth cc B hini hC ls hl
  have hl : lv_has ls 2 [(0, .ref (ad (3))), (1, .int (nI p))] := hl
  refine lv_iload_n B.1 B.2.1 dX2_shipOf_0 rfl (lv_at hl 1 rfl) ?_
  refine lv_if_lt (tgt := 30) B.1 B.2.1 dX2_shipOf_1 (by decide) (fun z => absurd z (nI_pos (by omega))) (fun _ => ?_)
  refine lv_iload_n B.1 B.2.1 dX2_shipOf_4 rfl (lv_at hl 1 rfl) ?_
  refine lv_aload_n B.1 B.2.1 dX2_shipOf_5 rfl (lv_at hl 0 rfl) ?_
  refine r_cg B hC (i := 3) (by decide) g0 (C := RX2) (T := TX2) (n := 7) rfl iwX2_shipOf_X2 4 (by decide) (index := 24) flX2_shipOf_24 rfl (v := .int (nI (hn h))) rfl dX2_shipOf_6 ?_
  refine lv_icmp_ge (tgt := 30) B.1 B.2.1 dX2_shipOf_9 (by decide) (fun z => absurd z (nI_ge (by omega) (by omega))) (fun _ => ?_)
  refine lv_iload_n B.1 B.2.1 dX2_shipOf_12 rfl (lv_at hl 1 rfl) ?_
  refine lv_aload_n B.1 B.2.1 dX2_shipOf_13 rfl (lv_at hl 0 rfl) ?_
  refine r_cg B hC (i := 3) (by decide) g0 (C := RX2) (T := TX2) (n := 7) rfl iwX2_shipOf_X2 3 (by decide) (index := 21) flX2_shipOf_21 rfl (v := .ref (ad (7))) rfl dX2_shipOf_14 ?_
  refine r_calen B hC (i := 7) (by decide) g4 0 rfl (n := 10) rfl dX2_shipOf_17 ?_
  refine lv_icmp_ge (tgt := 30) B.1 B.2.1 dX2_shipOf_18 (by decide) (fun z => absurd z (nI_ge (by omega) (by omega))) (fun _ => ?_)
  refine lv_aload_n B.1 B.2.1 dX2_shipOf_21 rfl (lv_at hl 0 rfl) ?_
  refine r_cg B hC (i := 3) (by decide) g0 (C := RX2) (T := TX2) (n := 7) rfl iwX2_shipOf_X2 3 (by decide) (index := 21) flX2_shipOf_21 rfl (v := .ref (ad (7))) rfl dX2_shipOf_22 ?_
  refine lv_iload_n B.1 B.2.1 dX2_shipOf_25 rfl (lv_at hl 1 rfl) ?_
  refine r_cald B hC (i := 7) (by decide) g4 (j := p) (by omega) (by decide) dX2_shipOf_26 ?_
  refine r_tI (y := oI (hsh h p)) rfl ?_
  refine lv_goto (tgt := 32) B.1 B.2.1 dX2_shipOf_27 (by decide) ?_
  exact r_eI B hC (v := oI (hsh h p)) (⟨rfl, rfl⟩) dX2_shipOf_32
theorem iwX2_restsOn_X2 : ∀ w ∈ u_ws RX2 TX2 7, w ∈ wsX2_restsOn := by decide +kernel
theorem flX2_restsOn_18 : Cond.fieldLink RX2 18 RX2 (TX2 2).2.1 (TX2 2).2.2.1 ∈ wsX2_restsOn := by decide +kernel
theorem flX2_restsOn_24 : Cond.fieldLink RX2 24 RX2 (TX2 4).2.1 (TX2 4).2.2.1 ∈ wsX2_restsOn := by decide +kernel
set_option maxHeartbeats 4000000 in
set_option maxRecDepth 100000 in
theorem ctX2_restsOn (l : Launch) (g : Gx) (lo : Nat) (ad : Nat → Nat) {F : Nat → va_E} {h : HV} (hH : HullC g ad F h) (ok : HOK h) {p : Nat} (hp : p < 10) : MI l g lo 196 ad yX2_restsOn wsX2_restsOn 0 0 [.ref (ad (3)), .int (nI p)] F (fun r F' => r = oI (hreN h p) ∧ F' = F) := by
  obtain ⟨g0, g1, g2, g3, g4⟩ := id hH
  have okn := ok.1
  have okp := ok.2.1
  have okh := ok.2.2.1
  refine enter (cc := cX2_restsOn) (maxL := 2) (ret := some .int) (own := RX2) (by decide +kernel) rfl rfl (Nat.le_of_ble_eq_true rfl) ?_
  intro pp ee ss mm below meth cc B hini hC ls hl
  have hl : lv_has ls 2 [(0, .ref (ad (3))), (1, .int (nI p))] := hl
  refine lv_iload_n B.1 B.2.1 dX2_restsOn_0 rfl (lv_at hl 1 rfl) ?_
  refine lv_if_lt (tgt := 30) B.1 B.2.1 dX2_restsOn_1 (by decide) (fun z => absurd z (nI_pos (by omega))) (fun _ => ?_)
  refine lv_iload_n B.1 B.2.1 dX2_restsOn_4 rfl (lv_at hl 1 rfl) ?_
  refine lv_aload_n B.1 B.2.1 dX2_restsOn_5 rfl (lv_at hl 0 rfl) ?_
  refine r_cg B hC (i := 3) (by decide) g0 (C := RX2) (T := TX2) (n := 7) rfl iwX2_restsOn_X2 4 (by decide) (index := 24) flX2_restsOn_24 rfl (v := .int (nI (hn h))) rfl dX2_restsOn_6 ?_
  refine lv_icmp_ge (tgt := 30) B.1 B.2.1 dX2_restsOn_9 (by decide) (fun c_9 => ?_) (fun c_9 => ?_)
  · have q_9 : (hn h) ≤ p := (nI_leI (by omega) (by omega)).mp c_9
    refine lv_bipush (v := (-9)) B.1 B.2.1 dX2_restsOn_30 (by decide) ?_
    exact r_eI B hC (v := (-9)) (⟨by rw [hreN, if_neg (by omega)]; rfl, rfl⟩) dX2_restsOn_32
  · have q_9 : ¬ (hn h) ≤ p := fun z => c_9 ((nI_leI (by omega) (by omega)).mpr z)
    refine lv_iload_n B.1 B.2.1 dX2_restsOn_12 rfl (lv_at hl 1 rfl) ?_
    refine lv_aload_n B.1 B.2.1 dX2_restsOn_13 rfl (lv_at hl 0 rfl) ?_
    refine r_cg B hC (i := 3) (by decide) g0 (C := RX2) (T := TX2) (n := 7) rfl iwX2_restsOn_X2 2 (by decide) (index := 18) flX2_restsOn_18 rfl (v := .ref (ad (6))) rfl dX2_restsOn_14 ?_
    refine r_calen B hC (i := 6) (by decide) g3 0 rfl (n := 10) rfl dX2_restsOn_17 ?_
    refine lv_icmp_ge (tgt := 30) B.1 B.2.1 dX2_restsOn_18 (by decide) (fun z => absurd z (nI_ge (by omega) (by omega))) (fun _ => ?_)
    refine lv_aload_n B.1 B.2.1 dX2_restsOn_21 rfl (lv_at hl 0 rfl) ?_
    refine r_cg B hC (i := 3) (by decide) g0 (C := RX2) (T := TX2) (n := 7) rfl iwX2_restsOn_X2 2 (by decide) (index := 18) flX2_restsOn_18 rfl (v := .ref (ad (6))) rfl dX2_restsOn_22 ?_
    refine lv_iload_n B.1 B.2.1 dX2_restsOn_25 rfl (lv_at hl 1 rfl) ?_
    refine r_cald B hC (i := 6) (by decide) g3 (j := p) (by omega) (by decide) dX2_restsOn_26 ?_
    refine r_tI (y := oI (hre h p)) rfl ?_
    refine lv_goto (tgt := 32) B.1 B.2.1 dX2_restsOn_27 (by decide) ?_
    exact r_eI B hC (v := oI (hre h p)) (⟨by rw [hreN, if_pos (by omega)], rfl⟩) dX2_restsOn_32
theorem iwX2_leakOf_X2 : ∀ w ∈ u_ws RX2 TX2 7, w ∈ wsX2_leakOf := by decide +kernel
theorem flX2_leakOf_24 : Cond.fieldLink RX2 24 RX2 (TX2 4).2.1 (TX2 4).2.2.1 ∈ wsX2_leakOf := by decide +kernel
set_option maxHeartbeats 4000000 in
set_option maxRecDepth 100000 in
theorem ctX2_leakOf (l : Launch) (g : Gx) (lo : Nat) (ad : Nat → Nat) {F : Nat → va_E} {h : HV} (hH : HullC g ad F h) (ok : HOK h) {b : Nat} {w : LV} (hb : 8 ≤ b ∧ b + 5 ≤ 196) (hL : LoadC g ad F b w) (hw : LOK h w) : MI l g lo 196 ad yX2_leakOf wsX2_leakOf 1 21 [.ref (ad (3)), .ref (ad (b))] F (fun r F' => r = nI (leakV h w) ∧ F' = F) := by
  obtain ⟨g0, g1, g2, g3, g4⟩ := id hH
  have okn := ok.1
  have okp := ok.2.1
  have okh := ok.2.2.1
  obtain ⟨h0, h1, h2, h3, h4⟩ := id hL
  refine enter (cc := cX2_leakOf) (maxL := 4) (ret := some .int) (own := RX2) (by decide +kernel) rfl rfl (Nat.le_of_ble_eq_true rfl) ?_
  intro pp ee ss mm below meth cc B hini hC ls hl
  have hl : lv_has ls 4 [(0, .ref (ad (3))), (1, .ref (ad (b)))] := hl
  refine lv_iconst (v := nI 0) B.1 B.2.1 dX2_leakOf_0 (by decide) ?_
  refine lv_istore_n (lv' := [(2, .int (nI 0)), (0, .ref (ad (3))), (1, .ref (ad (b)))]) B.1 B.2.1 dX2_leakOf_1 rfl hl (by decide) rfl (fun ls hl => ?_)
  refine lv_iconst (v := nI 0) B.1 B.2.1 dX2_leakOf_2 (by decide) ?_
  refine lv_istore_n (lv' := [(3, .int (nI 0)), (2, .int (nI 0)), (0, .ref (ad (3))), (1, .ref (ad (b)))]) B.1 B.2.1 dX2_leakOf_3 rfl hl (by decide) rfl (fun ls hl => ?_)
  have loop4 : ∀ (k : Nat) (p a : Nat), (p + k = hn h) → (a = leakTo h w p) → ∀ (H : Heap) (locs : List Loc) (ls : Array Slot), Cu g lo 196 ad F ss ss.heap H locs → lv_has ls 4 [(3, .int (nI p)), (2, .int (nI a)), (0, .ref (ad (3))), (1, .ref (ad (b)))] → W pp l ee { frames := 1, cells := 0, slots := 0, locals := 21 } ss mm ([.ref (ad (3)), .ref (ad (b))] : List Value).toArray below meth cc H locs 0 0 (MQ below (va_Qi (fun r F' => r = nI (leakV h w) ∧ F' = F) (fun F' t => Wd g lo 196 ad F' t) (fun q => lo ≤ q)) ([.ref (ad (3)), .ref (ad (b))] : List Value).toArray ss 0 0 (fun q => lo ≤ q)) (F0 mm 4 ls []) := by
    intro k
    induction k with
    | zero =>
      intro p a hpk ha H locs ls hC hl
      refine lv_iload_n B.1 B.2.1 dX2_leakOf_4 rfl (lv_at hl 0 rfl) ?_
      refine lv_aload_n B.1 B.2.1 dX2_leakOf_5 rfl (lv_at hl 2 rfl) ?_
      refine r_cg B hC (i := 3) (by decide) g0 (C := RX2) (T := TX2) (n := 7) rfl iwX2_leakOf_X2 4 (by decide) (index := 24) flX2_leakOf_24 rfl (v := .int (nI (hn h))) rfl dX2_leakOf_6 ?_
      refine lv_icmp_ge (tgt := 38) B.1 B.2.1 dX2_leakOf_9 (by decide) (fun _ => ?_) (fun z => absurd (nI_le (by omega) (by omega)) z)
      refine lv_iload_n B.1 B.2.1 dX2_leakOf_38 rfl (lv_at hl 1 rfl) ?_
      exact r_eI B hC (v := nI a) (⟨by rw [ha, show p = hn h by omega]; rfl, rfl⟩) dX2_leakOf_39
    | succ k ih4 =>
      intro p a hpk ha H locs ls hC hl
      refine lv_iload_n B.1 B.2.1 dX2_leakOf_4 rfl (lv_at hl 0 rfl) ?_
      refine lv_aload_n B.1 B.2.1 dX2_leakOf_5 rfl (lv_at hl 2 rfl) ?_
      refine r_cg B hC (i := 3) (by decide) g0 (C := RX2) (T := TX2) (n := 7) rfl iwX2_leakOf_X2 4 (by decide) (index := 24) flX2_leakOf_24 rfl (v := .int (nI (hn h))) rfl dX2_leakOf_6 ?_
      refine lv_icmp_ge (tgt := 38) B.1 B.2.1 dX2_leakOf_9 (by decide) (fun z => absurd z (nI_ge (by omega) (by omega))) (fun _ => ?_)
      refine lv_iload_n B.1 B.2.1 dX2_leakOf_12 rfl (lv_at hl 1 rfl) ?_
      refine lv_aload_n B.1 B.2.1 dX2_leakOf_13 rfl (lv_at hl 3 rfl) ?_
      refine lv_iload_n B.1 B.2.1 dX2_leakOf_14 rfl (lv_at hl 0 rfl) ?_
      refine r_calli B hC hl.1 (b) 3 rfl rfl (by omega) h0 (As := [.int (nI p)]) (ctX3_isOpen l g lo ad hb hL (t := p) (by omega) (hw.t10 (by omega))) gX2_leakOf_X3_isOpen rfl (n := 1) rfl (by decide +kernel) ⟨Nat.le_of_ble_eq_true rfl, Nat.le_of_ble_eq_true rfl⟩ ⟨Nat.zero_le _, Nat.zero_le _⟩ rfl (Nat.le_of_ble_eq_true rfl) dX2_leakOf_15 (fun r15 F1 H locs hp15 hC => ?_)
      obtain ⟨er, eF⟩ := hp15
      subst er
      rw [eF] at hC
      refine lv_if_eq (tgt := 29) B.1 B.2.1 dX2_leakOf_18 (by decide) (fun c_18 => ?_) (fun c_18 => ?_)
      · have q_18 : (ti w p).isNone = false := bI_f.mp c_18
        refine lv_iconst (v := nI 0) B.1 B.2.1 dX2_leakOf_29 (by decide) ?_
        refine lv_iadd B.1 B.2.1 dX2_leakOf_30 ?_
        refine r_tI (y := nI (a + 0)) (nI_add _ _) ?_
        refine lv_istore_n (lv' := [(2, .int (nI (a + 0))), (3, .int (nI p)), (0, .ref (ad (3))), (1, .ref (ad (b)))]) B.1 B.2.1 dX2_leakOf_31 rfl hl (by decide) rfl (fun ls hl => ?_)
        refine lv_iinc (v := nI (p + 1)) (lv' := [(3, .int (nI (p + 1))), (2, .int (nI (a + 0))), (0, .ref (ad (3))), (1, .ref (ad (b)))]) B.1 B.2.1 dX2_leakOf_32 hl (k := 1) rfl (nI_1 _) (by decide) rfl (fun ls hl => ?_)
        refine lv_goto (tgt := 4) B.1 B.2.1 dX2_leakOf_35 (by decide) ?_
        exact ih4 (p + 1) ((a + 0)) (by omega) (by simp only [leakTo, ha]; cases hh : ti w p <;> simp_all) _ _ ls hC (lv_sub hl [0, 1, 2, 3] rfl)
      · have q_18 : (ti w p).isNone = true := bI_t.mp c_18
        refine lv_aload_n B.1 B.2.1 dX2_leakOf_21 rfl (lv_at hl 2 rfl) ?_
        refine lv_iload_n B.1 B.2.1 dX2_leakOf_22 rfl (lv_at hl 0 rfl) ?_
        refine r_calli B hC hl.1 (3) 2 rfl rfl (by decide) g0 (As := [.int (nI p)]) (ctX2_letsIn l g lo ad hH ok (p := p) (by omega)) gX2_leakOf_X2_letsIn rfl (n := 1) rfl (by decide +kernel) ⟨Nat.le_of_ble_eq_true rfl, Nat.le_of_ble_eq_true rfl⟩ ⟨Nat.zero_le _, Nat.zero_le _⟩ rfl (Nat.le_of_ble_eq_true rfl) dX2_leakOf_23 (fun r23 F1 H locs hp23 hC => ?_)
        obtain ⟨er, eF⟩ := hp23
        subst er
        rw [eF] at hC
        refine lv_goto (tgt := 30) B.1 B.2.1 dX2_leakOf_26 (by decide) ?_
        refine lv_iadd B.1 B.2.1 dX2_leakOf_30 ?_
        refine r_tI (y := nI (a + (hin_ h p))) (nI_add _ _) ?_
        refine lv_istore_n (lv' := [(2, .int (nI (a + (hin_ h p)))), (3, .int (nI p)), (0, .ref (ad (3))), (1, .ref (ad (b)))]) B.1 B.2.1 dX2_leakOf_31 rfl hl (by decide) rfl (fun ls hl => ?_)
        refine lv_iinc (v := nI (p + 1)) (lv' := [(3, .int (nI (p + 1))), (2, .int (nI (a + (hin_ h p)))), (0, .ref (ad (3))), (1, .ref (ad (b)))]) B.1 B.2.1 dX2_leakOf_32 hl (k := 1) rfl (nI_1 _) (by decide) rfl (fun ls hl => ?_)
        refine lv_goto (tgt := 4) B.1 B.2.1 dX2_leakOf_35 (by decide) ?_
        exact ih4 (p + 1) ((a + (hin_ h p))) (by omega) (by simp only [leakTo, ha]; cases hh : ti w p <;> simp_all) _ _ ls hC (lv_sub hl [0, 1, 2, 3] rfl)
  exact loop4 (hn h) 0 0 (by omega) rfl _ _ ls hC (lv_sub hl [0, 1, 2, 3] rfl)
theorem iwX2_openPlaces_X2 : ∀ w ∈ u_ws RX2 TX2 7, w ∈ wsX2_openPlaces := by decide +kernel
theorem flX2_openPlaces_24 : Cond.fieldLink RX2 24 RX2 (TX2 4).2.1 (TX2 4).2.2.1 ∈ wsX2_openPlaces := by decide +kernel
set_option maxHeartbeats 4000000 in
set_option maxRecDepth 100000 in
theorem ctX2_openPlaces (l : Launch) (g : Gx) (lo : Nat) (ad : Nat → Nat) {F : Nat → va_E} {h : HV} (hH : HullC g ad F h) (ok : HOK h) {b : Nat} {w : LV} (hb : 8 ≤ b ∧ b + 5 ≤ 196) (hL : LoadC g ad F b w) (hw : LOK h w) : MI l g lo 196 ad yX2_openPlaces wsX2_openPlaces 1 21 [.ref (ad (3)), .ref (ad (b))] F (fun r F' => r = nI (openTo w (hn h)) ∧ F' = F) := by
  obtain ⟨g0, g1, g2, g3, g4⟩ := id hH
  have okn := ok.1
  have okp := ok.2.1
  have okh := ok.2.2.1
  obtain ⟨h0, h1, h2, h3, h4⟩ := id hL
  refine enter (cc := cX2_openPlaces) (maxL := 4) (ret := some .int) (own := RX2) (by decide +kernel) rfl rfl (Nat.le_of_ble_eq_true rfl) ?_
  intro pp ee ss mm below meth cc B hini hC ls hl
  have hl : lv_has ls 4 [(0, .ref (ad (3))), (1, .ref (ad (b)))] := hl
  refine lv_iconst (v := nI 0) B.1 B.2.1 dX2_openPlaces_0 (by decide) ?_
  refine lv_istore_n (lv' := [(2, .int (nI 0)), (0, .ref (ad (3))), (1, .ref (ad (b)))]) B.1 B.2.1 dX2_openPlaces_1 rfl hl (by decide) rfl (fun ls hl => ?_)
  refine lv_iconst (v := nI 0) B.1 B.2.1 dX2_openPlaces_2 (by decide) ?_
  refine lv_istore_n (lv' := [(3, .int (nI 0)), (2, .int (nI 0)), (0, .ref (ad (3))), (1, .ref (ad (b)))]) B.1 B.2.1 dX2_openPlaces_3 rfl hl (by decide) rfl (fun ls hl => ?_)
  have loop4 : ∀ (k : Nat) (p a : Nat), (p + k = hn h) → (a = openTo w p) → ∀ (H : Heap) (locs : List Loc) (ls : Array Slot), Cu g lo 196 ad F ss ss.heap H locs → lv_has ls 4 [(3, .int (nI p)), (2, .int (nI a)), (0, .ref (ad (3))), (1, .ref (ad (b)))] → W pp l ee { frames := 1, cells := 0, slots := 0, locals := 21 } ss mm ([.ref (ad (3)), .ref (ad (b))] : List Value).toArray below meth cc H locs 0 0 (MQ below (va_Qi (fun r F' => r = nI (openTo w (hn h)) ∧ F' = F) (fun F' t => Wd g lo 196 ad F' t) (fun q => lo ≤ q)) ([.ref (ad (3)), .ref (ad (b))] : List Value).toArray ss 0 0 (fun q => lo ≤ q)) (F0 mm 4 ls []) := by
    intro k
    induction k with
    | zero =>
      intro p a hpk ha H locs ls hC hl
      refine lv_iload_n B.1 B.2.1 dX2_openPlaces_4 rfl (lv_at hl 0 rfl) ?_
      refine lv_aload_n B.1 B.2.1 dX2_openPlaces_5 rfl (lv_at hl 2 rfl) ?_
      refine r_cg B hC (i := 3) (by decide) g0 (C := RX2) (T := TX2) (n := 7) rfl iwX2_openPlaces_X2 4 (by decide) (index := 24) flX2_openPlaces_24 rfl (v := .int (nI (hn h))) rfl dX2_openPlaces_6 ?_
      refine lv_icmp_ge (tgt := 36) B.1 B.2.1 dX2_openPlaces_9 (by decide) (fun _ => ?_) (fun z => absurd (nI_le (by omega) (by omega)) z)
      refine lv_iload_n B.1 B.2.1 dX2_openPlaces_36 rfl (lv_at hl 1 rfl) ?_
      exact r_eI B hC (v := nI a) (⟨by rw [ha, show p = hn h by omega], rfl⟩) dX2_openPlaces_37
    | succ k ih4 =>
      intro p a hpk ha H locs ls hC hl
      refine lv_iload_n B.1 B.2.1 dX2_openPlaces_4 rfl (lv_at hl 0 rfl) ?_
      refine lv_aload_n B.1 B.2.1 dX2_openPlaces_5 rfl (lv_at hl 2 rfl) ?_
      refine r_cg B hC (i := 3) (by decide) g0 (C := RX2) (T := TX2) (n := 7) rfl iwX2_openPlaces_X2 4 (by decide) (index := 24) flX2_openPlaces_24 rfl (v := .int (nI (hn h))) rfl dX2_openPlaces_6 ?_
      refine lv_icmp_ge (tgt := 36) B.1 B.2.1 dX2_openPlaces_9 (by decide) (fun z => absurd z (nI_ge (by omega) (by omega))) (fun _ => ?_)
      refine lv_iload_n B.1 B.2.1 dX2_openPlaces_12 rfl (lv_at hl 1 rfl) ?_
      refine lv_aload_n B.1 B.2.1 dX2_openPlaces_13 rfl (lv_at hl 3 rfl) ?_
      refine lv_iload_n B.1 B.2.1 dX2_openPlaces_14 rfl (lv_at hl 0 rfl) ?_
      refine r_calli B hC hl.1 (b) 3 rfl rfl (by omega) h0 (As := [.int (nI p)]) (ctX3_isOpen l g lo ad hb hL (t := p) (by omega) (hw.t10 (by omega))) gX2_openPlaces_X3_isOpen rfl (n := 1) rfl (by decide +kernel) ⟨Nat.le_of_ble_eq_true rfl, Nat.le_of_ble_eq_true rfl⟩ ⟨Nat.zero_le _, Nat.zero_le _⟩ rfl (Nat.le_of_ble_eq_true rfl) dX2_openPlaces_15 (fun r15 F1 H locs hp15 hC => ?_)
      obtain ⟨er, eF⟩ := hp15
      subst er
      rw [eF] at hC
      refine lv_if_eq (tgt := 27) B.1 B.2.1 dX2_openPlaces_18 (by decide) (fun c_18 => ?_) (fun c_18 => ?_)
      · have q_18 : (ti w p).isNone = false := bI_f.mp c_18
        refine lv_iconst (v := nI 0) B.1 B.2.1 dX2_openPlaces_27 (by decide) ?_
        refine lv_ior B.1 B.2.1 dX2_openPlaces_28 ?_
        refine r_tI (y := nI (a + 0)) (by first | exact or_bit (by rw [ha]; exact openTo_lt w p) | (rw [nI_or, Nat.or_zero]; rfl)) ?_
        refine lv_istore_n (lv' := [(2, .int (nI (a + 0))), (3, .int (nI p)), (0, .ref (ad (3))), (1, .ref (ad (b)))]) B.1 B.2.1 dX2_openPlaces_29 rfl hl (by decide) rfl (fun ls hl => ?_)
        refine lv_iinc (v := nI (p + 1)) (lv' := [(3, .int (nI (p + 1))), (2, .int (nI (a + 0))), (0, .ref (ad (3))), (1, .ref (ad (b)))]) B.1 B.2.1 dX2_openPlaces_30 hl (k := 1) rfl (nI_1 _) (by decide) rfl (fun ls hl => ?_)
        refine lv_goto (tgt := 4) B.1 B.2.1 dX2_openPlaces_33 (by decide) ?_
        exact ih4 (p + 1) ((a + 0)) (by omega) (by simp only [openTo, ha]; cases hh : ti w p <;> simp_all) _ _ ls hC (lv_sub hl [0, 1, 2, 3] rfl)
      · have q_18 : (ti w p).isNone = true := bI_t.mp c_18
        refine lv_iconst (v := nI 1) B.1 B.2.1 dX2_openPlaces_21 (by decide) ?_
        refine lv_iload_n B.1 B.2.1 dX2_openPlaces_22 rfl (lv_at hl 0 rfl) ?_
        refine lv_ishl B.1 B.2.1 dX2_openPlaces_23 ?_
        refine r_tI (y := nI (2 ^ p)) (shl_1 p (by omega)) ?_
        refine lv_goto (tgt := 28) B.1 B.2.1 dX2_openPlaces_24 (by decide) ?_
        refine lv_ior B.1 B.2.1 dX2_openPlaces_28 ?_
        refine r_tI (y := nI (a + 2 ^ p)) (by first | exact or_bit (by rw [ha]; exact openTo_lt w p) | (rw [nI_or, Nat.or_zero]; rfl)) ?_
        refine lv_istore_n (lv' := [(2, .int (nI (a + 2 ^ p))), (3, .int (nI p)), (0, .ref (ad (3))), (1, .ref (ad (b)))]) B.1 B.2.1 dX2_openPlaces_29 rfl hl (by decide) rfl (fun ls hl => ?_)
        refine lv_iinc (v := nI (p + 1)) (lv' := [(3, .int (nI (p + 1))), (2, .int (nI (a + 2 ^ p))), (0, .ref (ad (3))), (1, .ref (ad (b)))]) B.1 B.2.1 dX2_openPlaces_30 hl (k := 1) rfl (nI_1 _) (by decide) rfl (fun ls hl => ?_)
        refine lv_goto (tgt := 4) B.1 B.2.1 dX2_openPlaces_33 (by decide) ?_
        exact ih4 (p + 1) ((a + 2 ^ p)) (by omega) (by simp only [openTo, ha]; cases hh : ti w p <;> simp_all) _ _ ls hC (lv_sub hl [0, 1, 2, 3] rfl)
  exact loop4 (hn h) 0 0 (by omega) rfl _ _ ls hC (lv_sub hl [0, 1, 2, 3] rfl)
theorem iwX2_mayBeTakenFrom_X2 : ∀ w ∈ u_ws RX2 TX2 7, w ∈ wsX2_mayBeTakenFrom := by decide +kernel
theorem flX2_mayBeTakenFrom_24 : Cond.fieldLink RX2 24 RX2 (TX2 4).2.1 (TX2 4).2.2.1 ∈ wsX2_mayBeTakenFrom := by decide +kernel
set_option maxHeartbeats 4000000 in
set_option maxRecDepth 100000 in
theorem ctX2_mayBeTakenFrom (l : Launch) (g : Gx) (lo : Nat) (ad : Nat → Nat) {F : Nat → va_E} {h : HV} (hH : HullC g ad F h) (ok : HOK h) {b : Nat} {w : LV} (hb : 8 ≤ b ∧ b + 5 ≤ 196) (hL : LoadC g ad F b w) (hw : LOK h w) {p : Nat} (hp : p < 10) : MI l g lo 196 ad yX2_mayBeTakenFrom wsX2_mayBeTakenFrom 1 21 [.ref (ad (3)), .int (nI p), .ref (ad (b))] F (fun r F' => r = bI (takeV h w p) ∧ F' = F) := by
  obtain ⟨g0, g1, g2, g3, g4⟩ := id hH
  have okn := ok.1
  have okp := ok.2.1
  have okh := ok.2.2.1
  obtain ⟨h0, h1, h2, h3, h4⟩ := id hL
  refine enter (cc := cX2_mayBeTakenFrom) (maxL := 4) (ret := some .boolean) (own := RX2) (by decide +kernel) rfl rfl (Nat.le_of_ble_eq_true rfl) ?_
  intro pp ee ss mm below meth cc B hini hC ls hl
  have hl : lv_has ls 4 [(0, .ref (ad (3))), (1, .int (nI p)), (2, .ref (ad (b)))] := hl
  refine lv_aload_n B.1 B.2.1 dX2_mayBeTakenFrom_0 rfl (lv_at hl 2 rfl) ?_
  refine lv_iload_n B.1 B.2.1 dX2_mayBeTakenFrom_1 rfl (lv_at hl 1 rfl) ?_
  refine r_calli B hC hl.1 (b) 3 rfl rfl (by omega) h0 (As := [.int (nI p)]) (ctX3_isOpen l g lo ad hb hL (t := p) (by omega) (hw.t10 (by omega))) gX2_mayBeTakenFrom_X3_isOpen rfl (n := 1) rfl (by decide +kernel) ⟨Nat.le_of_ble_eq_true rfl, Nat.le_of_ble_eq_true rfl⟩ ⟨Nat.zero_le _, Nat.zero_le _⟩ rfl (Nat.le_of_ble_eq_true rfl) dX2_mayBeTakenFrom_2 (fun r2 F1 H locs hp2 hC => ?_)
  obtain ⟨er, eF⟩ := hp2
  subst er
  rw [eF] at hC
  refine lv_if_eq (tgt := 10) B.1 B.2.1 dX2_mayBeTakenFrom_5 (by decide) (fun c_5 => ?_) (fun c_5 => ?_)
  · have q_5 : (ti w p).isNone = false := bI_f.mp c_5
    refine lv_iconst (v := nI 0) B.1 B.2.1 dX2_mayBeTakenFrom_10 (by decide) ?_
    refine lv_istore_n (lv' := [(3, .int (nI 0)), (0, .ref (ad (3))), (1, .int (nI p)), (2, .ref (ad (b)))]) B.1 B.2.1 dX2_mayBeTakenFrom_11 rfl hl (by decide) rfl (fun ls hl => ?_)
    have loop12 : ∀ (k : Nat) (o : Nat), (o + k = hn h) → (borneTo h w p o = false) → ∀ (H : Heap) (locs : List Loc) (ls : Array Slot), Cu g lo 196 ad F ss ss.heap H locs → lv_has ls 4 [(3, .int (nI o)), (0, .ref (ad (3))), (1, .int (nI p)), (2, .ref (ad (b)))] → W pp l ee { frames := 1, cells := 0, slots := 0, locals := 21 } ss mm ([.ref (ad (3)), .int (nI p), .ref (ad (b))] : List Value).toArray below meth cc H locs 0 0 (MQ below (va_Qi (fun r F' => r = bI (takeV h w p) ∧ F' = F) (fun F' t => Wd g lo 196 ad F' t) (fun q => lo ≤ q)) ([.ref (ad (3)), .int (nI p), .ref (ad (b))] : List Value).toArray ss 0 0 (fun q => lo ≤ q)) (F0 mm 12 ls []) := by
      intro k
      induction k with
      | zero =>
        intro o hpk hbo H locs ls hC hl
        refine lv_iload_n B.1 B.2.1 dX2_mayBeTakenFrom_12 rfl (lv_at hl 0 rfl) ?_
        refine lv_aload_n B.1 B.2.1 dX2_mayBeTakenFrom_13 rfl (lv_at hl 1 rfl) ?_
        refine r_cg B hC (i := 3) (by decide) g0 (C := RX2) (T := TX2) (n := 7) rfl iwX2_mayBeTakenFrom_X2 4 (by decide) (index := 24) flX2_mayBeTakenFrom_24 rfl (v := .int (nI (hn h))) rfl dX2_mayBeTakenFrom_14 ?_
        refine lv_icmp_ge (tgt := 45) B.1 B.2.1 dX2_mayBeTakenFrom_17 (by decide) (fun _ => ?_) (fun z => absurd (nI_le (by omega) (by omega)) z)
        refine lv_iconst (v := nI 1) B.1 B.2.1 dX2_mayBeTakenFrom_45 (by decide) ?_
        exact r_eZ B hC (v := nI 1) (rfl) (⟨by rw [takeV, show hn h = o by omega, hbo]; cases hh : ti w p <;> simp_all [bI]; rfl, rfl⟩) dX2_mayBeTakenFrom_46
      | succ k ih12 =>
        intro o hpk hbo H locs ls hC hl
        refine lv_iload_n B.1 B.2.1 dX2_mayBeTakenFrom_12 rfl (lv_at hl 0 rfl) ?_
        refine lv_aload_n B.1 B.2.1 dX2_mayBeTakenFrom_13 rfl (lv_at hl 1 rfl) ?_
        refine r_cg B hC (i := 3) (by decide) g0 (C := RX2) (T := TX2) (n := 7) rfl iwX2_mayBeTakenFrom_X2 4 (by decide) (index := 24) flX2_mayBeTakenFrom_24 rfl (v := .int (nI (hn h))) rfl dX2_mayBeTakenFrom_14 ?_
        refine lv_icmp_ge (tgt := 45) B.1 B.2.1 dX2_mayBeTakenFrom_17 (by decide) (fun z => absurd z (nI_ge (by omega) (by omega))) (fun _ => ?_)
        refine lv_aload_n B.1 B.2.1 dX2_mayBeTakenFrom_20 rfl (lv_at hl 1 rfl) ?_
        refine lv_iload_n B.1 B.2.1 dX2_mayBeTakenFrom_21 rfl (lv_at hl 0 rfl) ?_
        refine r_calli B hC hl.1 (3) 2 rfl rfl (by decide) g0 (As := [.int (nI o)]) (ctX2_restsOn l g lo ad hH ok (p := o) (by omega)) gX2_mayBeTakenFrom_X2_restsOn rfl (n := 1) rfl (by decide +kernel) ⟨Nat.le_of_ble_eq_true rfl, Nat.le_of_ble_eq_true rfl⟩ ⟨Nat.zero_le _, Nat.zero_le _⟩ rfl (Nat.le_of_ble_eq_true rfl) dX2_mayBeTakenFrom_22 (fun r22 F1 H locs hp22 hC => ?_)
        obtain ⟨er, eF⟩ := hp22
        subst er
        rw [eF] at hC
        refine lv_iload_n B.1 B.2.1 dX2_mayBeTakenFrom_25 rfl (lv_at hl 2 rfl) ?_
        refine lv_icmp_ne (tgt := 39) B.1 B.2.1 dX2_mayBeTakenFrom_26 (by decide) (fun c_26 => ?_) (fun c_26 => ?_)
        · have q_26 : ¬ hreN h o = some p := fun z => c_26 ((oI_eq (fun j hj => Nat.lt_trans (hreN_lt ok hj).1 (by decide)) (by omega)).mpr z)
          have q_27 : ¬ hre h o = some p := by rw [hreN, if_pos (by omega)] at q_26; exact q_26
          refine lv_iinc (v := nI (o + 1)) (lv' := [(3, .int (nI (o + 1))), (0, .ref (ad (3))), (1, .int (nI p)), (2, .ref (ad (b)))]) B.1 B.2.1 dX2_mayBeTakenFrom_39 hl (k := 0) rfl (nI_1 _) (by decide) rfl (fun ls hl => ?_)
          refine lv_goto (tgt := 12) B.1 B.2.1 dX2_mayBeTakenFrom_42 (by decide) ?_
          exact ih12 (o + 1) (by omega) (by simp only [borneTo, hbo, q_27]; cases hh : ti w o <;> simp_all) _ _ ls hC (lv_sub hl [0, 1, 2, 3] rfl)
        · have q_26 := (oI_eq (fun j hj => Nat.lt_trans (hreN_lt ok hj).1 (by decide)) (by omega)).mp c_26
          have q_27 : hre h o = some p := by rw [hreN, if_pos (by omega)] at q_26; exact q_26
          refine lv_aload_n B.1 B.2.1 dX2_mayBeTakenFrom_29 rfl (lv_at hl 3 rfl) ?_
          refine lv_iload_n B.1 B.2.1 dX2_mayBeTakenFrom_30 rfl (lv_at hl 0 rfl) ?_
          refine r_calli B hC hl.1 (b) 3 rfl rfl (by omega) h0 (As := [.int (nI o)]) (ctX3_isOpen l g lo ad hb hL (t := o) (by omega) (hw.t10 (by omega))) gX2_mayBeTakenFrom_X3_isOpen rfl (n := 1) rfl (by decide +kernel) ⟨Nat.le_of_ble_eq_true rfl, Nat.le_of_ble_eq_true rfl⟩ ⟨Nat.zero_le _, Nat.zero_le _⟩ rfl (Nat.le_of_ble_eq_true rfl) dX2_mayBeTakenFrom_31 (fun r31 F1 H locs hp31 hC => ?_)
          obtain ⟨er, eF⟩ := hp31
          subst er
          rw [eF] at hC
          refine lv_if_ne (tgt := 39) B.1 B.2.1 dX2_mayBeTakenFrom_34 (by decide) (fun c_34 => ?_) (fun c_34 => ?_)
          · have q_34 : (ti w o).isNone = true := bI_t.mp c_34
            refine lv_iinc (v := nI (o + 1)) (lv' := [(3, .int (nI (o + 1))), (0, .ref (ad (3))), (1, .int (nI p)), (2, .ref (ad (b)))]) B.1 B.2.1 dX2_mayBeTakenFrom_39 hl (k := 0) rfl (nI_1 _) (by decide) rfl (fun ls hl => ?_)
            refine lv_goto (tgt := 12) B.1 B.2.1 dX2_mayBeTakenFrom_42 (by decide) ?_
            exact ih12 (o + 1) (by omega) (by simp only [borneTo, hbo, q_27]; cases hh : ti w o <;> simp_all) _ _ ls hC (lv_sub hl [0, 1, 2, 3] rfl)
          · have q_34 : (ti w o).isNone = false := bI_f.mp c_34
            refine lv_iconst (v := nI 0) B.1 B.2.1 dX2_mayBeTakenFrom_37 (by decide) ?_
            exact r_eZ B hC (v := nI 0) (rfl) (⟨by
      have z : borneTo h w p (hn h) = true := by
        have z1 : borneTo h w p (o + 1) = true := by simp only [borneTo, q_27]; cases hh : ti w o <;> simp_all
        have z2 := borneTo_up z1 k
        rwa [show o + 1 + k = hn h by omega] at z2
      rw [takeV, z]; simp; rfl, rfl⟩) dX2_mayBeTakenFrom_38
    exact loop12 (hn h) 0 (by omega) rfl _ _ ls hC (lv_sub hl [0, 1, 2, 3] rfl)
  · have q_5 : (ti w p).isNone = true := bI_t.mp c_5
    refine lv_iconst (v := nI 0) B.1 B.2.1 dX2_mayBeTakenFrom_8 (by decide) ?_
    exact r_eZ B hC (v := nI 0) (rfl) (⟨by rw [takeV]; cases hh : ti w p <;> simp_all [bI]; rfl, rfl⟩) dX2_mayBeTakenFrom_9
set_option maxHeartbeats 4000000 in
set_option maxRecDepth 100000 in
theorem ctX2_fits (l : Launch) (g : Gx) (lo : Nat) (ad : Nat → Nat) {F : Nat → va_E} {h : HV} (hH : HullC g ad F h) (ok : HOK h) {b : Nat} {w : LV} (hb : 8 ≤ b ∧ b + 5 ≤ 196) (hL : LoadC g ad F b w) (hw : LOK h w) {t p : Nat} (ht : t < 10) (hp : p < 10) : MI l g lo 196 ad yX2_fits wsX2_fits 1 21 [.ref (ad (3)), .int (nI t), .int (nI p), .ref (ad (b))] F (fun r F' => r = bI (fitsV h w t p) ∧ F' = F) := by
  obtain ⟨g0, g1, g2, g3, g4⟩ := id hH
  have okn := ok.1
  have okp := ok.2.1
  have okh := ok.2.2.1
  obtain ⟨h0, h1, h2, h3, h4⟩ := id hL
  refine enter (cc := cX2_fits) (maxL := 5) (ret := some .boolean) (own := RX2) (by decide +kernel) rfl rfl (Nat.le_of_ble_eq_true rfl) ?_
  intro pp ee ss mm below meth cc B hini hC ls hl
  have hl : lv_has ls 5 [(0, .ref (ad (3))), (1, .int (nI t)), (2, .int (nI p)), (3, .ref (ad (b)))] := hl
  refine lv_aload_n B.1 B.2.1 dX2_fits_0 rfl (lv_at hl 0 rfl) ?_
  refine lv_iload_n B.1 B.2.1 dX2_fits_1 rfl (lv_at hl 2 rfl) ?_
  refine r_calli B hC hl.1 (3) 2 rfl rfl (by decide) g0 (As := [.int (nI p)]) (ctX2_restsOn l g lo ad hH ok (p := p) (by omega)) gX2_fits_X2_restsOn rfl (n := 1) rfl (by decide +kernel) ⟨Nat.le_of_ble_eq_true rfl, Nat.le_of_ble_eq_true rfl⟩ ⟨Nat.zero_le _, Nat.zero_le _⟩ rfl (Nat.le_of_ble_eq_true rfl) dX2_fits_2 (fun r2 F1 H locs hp2 hC => ?_)
  obtain ⟨er, eF⟩ := hp2
  subst er
  rw [eF] at hC
  refine lv_istore (lv' := [(4, .int (oI (hreN h p))), (0, .ref (ad (3))), (1, .int (nI t)), (2, .int (nI p)), (3, .ref (ad (b)))]) B.1 B.2.1 dX2_fits_5 hl (by decide) rfl (fun ls hl => ?_)
  refine lv_aload_n B.1 B.2.1 dX2_fits_7 rfl (lv_at hl 1 rfl) ?_
  refine lv_iload_n B.1 B.2.1 dX2_fits_8 rfl (lv_at hl 3 rfl) ?_
  refine r_calli B hC hl.1 (3) 2 rfl rfl (by decide) g0 (As := [.int (nI p)]) (ctX2_isPlace l g lo ad hH ok (p := p) (by omega)) gX2_fits_X2_isPlace rfl (n := 1) rfl (by decide +kernel) ⟨Nat.le_of_ble_eq_true rfl, Nat.le_of_ble_eq_true rfl⟩ ⟨Nat.zero_le _, Nat.zero_le _⟩ rfl (Nat.le_of_ble_eq_true rfl) dX2_fits_9 (fun r9 F1 H locs hp9 hC => ?_)
  obtain ⟨er, eF⟩ := hp9
  subst er
  rw [eF] at hC
  refine lv_if_eq (tgt := 56) B.1 B.2.1 dX2_fits_12 (by decide) (fun c_12 => ?_) (fun c_12 => ?_)
  · have q_12 : ¬ p < hn h := of_decide_eq_false (bI_f.mp c_12)
    refine lv_iconst (v := nI 0) B.1 B.2.1 dX2_fits_56 (by decide) ?_
    exact r_eZ B hC (v := nI 0) (rfl) (⟨by
      have z : fitsV h w t p = false := by
        simp [fitsV, bornV, q_12]
      rw [z]; rfl, rfl⟩) dX2_fits_57
  · have q_12 : p < hn h := of_decide_eq_true (bI_t.mp c_12)
    have w1 := (ok.2.2.2.1 p).1
    have w2 := (hw.1 t).2.1
    refine lv_aload_n B.1 B.2.1 dX2_fits_15 rfl (lv_at hl 4 rfl) ?_
    refine lv_iload_n B.1 B.2.1 dX2_fits_16 rfl (lv_at hl 3 rfl) ?_
    refine r_calli B hC hl.1 (b) 3 rfl rfl (by omega) h0 (As := [.int (nI p)]) (ctX3_isOpen l g lo ad hb hL (t := p) (by omega) (hw.t10 (by omega))) gX2_fits_X3_isOpen rfl (n := 1) rfl (by decide +kernel) ⟨Nat.le_of_ble_eq_true rfl, Nat.le_of_ble_eq_true rfl⟩ ⟨Nat.zero_le _, Nat.zero_le _⟩ rfl (Nat.le_of_ble_eq_true rfl) dX2_fits_17 (fun r17 F1 H locs hp17 hC => ?_)
    obtain ⟨er, eF⟩ := hp17
    subst er
    rw [eF] at hC
    refine lv_if_eq (tgt := 56) B.1 B.2.1 dX2_fits_20 (by decide) (fun c_20 => ?_) (fun c_20 => ?_)
    · have q_20 : (ti w p).isNone = false := bI_f.mp c_20
      refine lv_iconst (v := nI 0) B.1 B.2.1 dX2_fits_56 (by decide) ?_
      exact r_eZ B hC (v := nI 0) (rfl) (⟨by
      have z : fitsV h w t p = false := by
        simp [fitsV, bornV, q_12, q_20]
      rw [z]; rfl, rfl⟩) dX2_fits_57
    · have q_20 : (ti w p).isNone = true := bI_t.mp c_20
      refine lv_aload_n B.1 B.2.1 dX2_fits_23 rfl (lv_at hl 4 rfl) ?_
      refine lv_iload_n B.1 B.2.1 dX2_fits_24 rfl (lv_at hl 2 rfl) ?_
      refine r_calli B hC hl.1 (b) 3 rfl rfl (by omega) h0 (As := [.int (nI t)]) (ctX3_lengthOf l g lo ad hb hL (t := t) (by omega)) gX2_fits_X3_lengthOf rfl (n := 1) rfl (by decide +kernel) ⟨Nat.le_of_ble_eq_true rfl, Nat.le_of_ble_eq_true rfl⟩ ⟨Nat.zero_le _, Nat.zero_le _⟩ rfl (Nat.le_of_ble_eq_true rfl) dX2_fits_25 (fun r25 F1 H locs hp25 hC => ?_)
      obtain ⟨er, eF⟩ := hp25
      subst er
      rw [eF] at hC
      refine lv_aload_n B.1 B.2.1 dX2_fits_28 rfl (lv_at hl 1 rfl) ?_
      refine lv_iload_n B.1 B.2.1 dX2_fits_29 rfl (lv_at hl 3 rfl) ?_
      refine r_calli B hC hl.1 (3) 2 rfl rfl (by decide) g0 (As := [.int (nI p)]) (ctX2_lengthOf l g lo ad hH ok (p := p) (by omega)) gX2_fits_X2_lengthOf rfl (n := 1) rfl (by decide +kernel) ⟨Nat.le_of_ble_eq_true rfl, Nat.le_of_ble_eq_true rfl⟩ ⟨Nat.zero_le _, Nat.zero_le _⟩ rfl (Nat.le_of_ble_eq_true rfl) dX2_fits_30 (fun r30 F1 H locs hp30 hC => ?_)
      obtain ⟨er, eF⟩ := hp30
      subst er
      rw [eF] at hC
      refine lv_icmp_lt (tgt := 56) B.1 B.2.1 dX2_fits_33 (by decide) (fun c_33 => ?_) (fun c_33 => ?_)
      · have q_33 : (ln w t) < (hle h p) := (nI_ltI (by omega) (by omega)).mp c_33
        refine lv_iconst (v := nI 0) B.1 B.2.1 dX2_fits_56 (by decide) ?_
        exact r_eZ B hC (v := nI 0) (rfl) (⟨by
      have z : fitsV h w t p = false := by
        simp [fitsV, bornV, q_12, q_20, Nat.not_le.mpr q_33]
      rw [z]; rfl, rfl⟩) dX2_fits_57
      · have q_33 : ¬ (ln w t) < (hle h p) := fun z => c_33 ((nI_ltI (by omega) (by omega)).mpr z)
        refine lv_iload B.1 B.2.1 dX2_fits_36 (lv_at hl 0 rfl) ?_
        refine lv_bipush (v := (-9)) B.1 B.2.1 dX2_fits_38 (by decide) ?_
        refine lv_icmp_eq (tgt := 52) B.1 B.2.1 dX2_fits_40 (by decide) (fun c_40 => ?_) (fun c_40 => ?_)
        · have q_40 := (oI_9 (fun j hj => Nat.lt_trans (hreN_lt ok hj).1 (by decide))).mp c_40
          refine lv_iconst (v := nI 1) B.1 B.2.1 dX2_fits_52 (by decide) ?_
          refine lv_goto (tgt := 57) B.1 B.2.1 dX2_fits_53 (by decide) ?_
          exact r_eZ B hC (v := nI 1) (rfl) (⟨by
      have z : fitsV h w t p = true := by
        simp [fitsV, bornV, q_12, q_20, Nat.not_lt.mp q_33, q_40]
      rw [z]; rfl, rfl⟩) dX2_fits_57
        · have q_40 : ¬ hreN h p = none := fun z => c_40 ((oI_9 (fun j hj => Nat.lt_trans (hreN_lt ok hj).1 (by decide))).mpr z)
          obtain ⟨u, hu⟩ := Option.ne_none_iff_exists'.mp q_40
          have hu10 := (hreN_lt ok hu).1
          refine lv_aload_n B.1 B.2.1 dX2_fits_43 rfl (lv_at hl 4 rfl) ?_
          refine lv_iload B.1 B.2.1 dX2_fits_44 (lv_at hl 0 rfl) ?_
          refine r_tI (y := nI u) (by rw [hu]; rfl) ?_
          refine r_calli B hC hl.1 (b) 3 rfl rfl (by omega) h0 (As := [.int (nI u)]) (ctX3_isOpen l g lo ad hb hL (t := u) (by omega) (hw.t10 (by omega))) gX2_fits_X3_isOpen rfl (n := 1) rfl (by decide +kernel) ⟨Nat.le_of_ble_eq_true rfl, Nat.le_of_ble_eq_true rfl⟩ ⟨Nat.zero_le _, Nat.zero_le _⟩ rfl (Nat.le_of_ble_eq_true rfl) dX2_fits_46 (fun r46 F1 H locs hp46 hC => ?_)
          obtain ⟨er, eF⟩ := hp46
          subst er
          rw [eF] at hC
          refine lv_if_ne (tgt := 56) B.1 B.2.1 dX2_fits_49 (by decide) (fun c_49 => ?_) (fun c_49 => ?_)
          · have q_49 : (ti w u).isNone = true := bI_t.mp c_49
            refine lv_iconst (v := nI 0) B.1 B.2.1 dX2_fits_56 (by decide) ?_
            exact r_eZ B hC (v := nI 0) (rfl) (⟨by
      have z : fitsV h w t p = false := by
        have b49 : (ti w u).isSome = false := by cases hh : ti w u <;> simp_all
        simp [fitsV, bornV, q_12, q_20, Nat.not_lt.mp q_33, hu, b49]
      rw [z]; rfl, rfl⟩) dX2_fits_57
          · have q_49 : (ti w u).isNone = false := bI_f.mp c_49
            refine lv_iconst (v := nI 1) B.1 B.2.1 dX2_fits_52 (by decide) ?_
            refine lv_goto (tgt := 57) B.1 B.2.1 dX2_fits_53 (by decide) ?_
            exact r_eZ B hC (v := nI 1) (rfl) (⟨by
      have z : fitsV h w t p = true := by
        have b49 : (ti w u).isSome = true := by cases hh : ti w u <;> simp_all
        simp [fitsV, bornV, q_12, q_20, Nat.not_lt.mp q_33, hu, b49]
      rw [z]; rfl, rfl⟩) dX2_fits_57
set_option maxHeartbeats 4000000 in
set_option maxRecDepth 100000 in
theorem ctX2_mayBeMoved (l : Launch) (g : Gx) (lo : Nat) (ad : Nat → Nat) {F : Nat → va_E} {h : HV} (hH : HullC g ad F h) (ok : HOK h) {b : Nat} {w : LV} (hb : 8 ≤ b ∧ b + 5 ≤ 196) (hL : LoadC g ad F b w) (hw : LOK h w) {t p : Nat} (ht : t < 10) (hp : p < 10) : MI l g lo 196 ad yX2_mayBeMoved wsX2_mayBeMoved 2 45 [.ref (ad (3)), .int (nI t), .int (nI p), .ref (ad (b))] F (fun r F' => r = bI (mayV h w t p) ∧ F' = F) := by
  obtain ⟨g0, g1, g2, g3, g4⟩ := id hH
  have okn := ok.1
  have okp := ok.2.1
  have okh := ok.2.2.1
  obtain ⟨h0, h1, h2, h3, h4⟩ := id hL
  have hwt := (hw.1 t).1
  refine enter (cc := cX2_mayBeMoved) (maxL := 5) (ret := some .boolean) (own := RX2) (by decide +kernel) rfl rfl (Nat.le_of_ble_eq_true rfl) ?_
  intro pp ee ss mm below meth cc B hini hC ls hl
  have hl : lv_has ls 5 [(0, .ref (ad (3))), (1, .int (nI t)), (2, .int (nI p)), (3, .ref (ad (b)))] := hl
  refine lv_aload_n B.1 B.2.1 dX2_mayBeMoved_0 rfl (lv_at hl 3 rfl) ?_
  refine lv_iload_n B.1 B.2.1 dX2_mayBeMoved_1 rfl (lv_at hl 1 rfl) ?_
  refine r_calli B hC hl.1 (b) 3 rfl rfl (by omega) h0 (As := [.int (nI t)]) (ctX3_whereIs l g lo ad hb hL (t := t) (by omega)) gX2_mayBeMoved_X3_whereIs rfl (n := 1) rfl (by decide +kernel) ⟨Nat.le_of_ble_eq_true rfl, Nat.le_of_ble_eq_true rfl⟩ ⟨Nat.zero_le _, Nat.zero_le _⟩ rfl (Nat.le_of_ble_eq_true rfl) dX2_mayBeMoved_2 (fun r2 F1 H locs hp2 hC => ?_)
  obtain ⟨er, eF⟩ := hp2
  subst er
  rw [eF] at hC
  refine lv_istore (lv' := [(4, .int (nI (wh w t))), (0, .ref (ad (3))), (1, .int (nI t)), (2, .int (nI p)), (3, .ref (ad (b)))]) B.1 B.2.1 dX2_mayBeMoved_5 hl (by decide) rfl (fun ls hl => ?_)
  refine lv_iload B.1 B.2.1 dX2_mayBeMoved_7 (lv_at hl 0 rfl) ?_
  refine lv_bipush (v := nI 100) B.1 B.2.1 dX2_mayBeMoved_9 (by decide) ?_
  refine lv_icmp_ne (tgt := 22) B.1 B.2.1 dX2_mayBeMoved_11 (by decide) (fun c_11 => ?_) (fun c_11 => ?_)
  · have q_11 : ¬ (wh w t) = 100 := fun z => c_11 ((nI_eq (by omega) (by omega)).mpr z)
    refine lv_aload_n B.1 B.2.1 dX2_mayBeMoved_22 rfl (lv_at hl 1 rfl) ?_
    refine lv_iload B.1 B.2.1 dX2_mayBeMoved_23 (lv_at hl 0 rfl) ?_
    refine r_calli B hC hl.1 (3) 2 rfl rfl (by decide) g0 (As := [.int (nI (wh w t))]) (ctX2_isPlace l g lo ad hH ok (p := (wh w t)) (by omega)) gX2_mayBeMoved_X2_isPlace rfl (n := 1) rfl (by decide +kernel) ⟨Nat.le_of_ble_eq_true rfl, Nat.le_of_ble_eq_true rfl⟩ ⟨Nat.zero_le _, Nat.zero_le _⟩ rfl (Nat.le_of_ble_eq_true rfl) dX2_mayBeMoved_25 (fun r25 F1 H locs hp25 hC => ?_)
    obtain ⟨er, eF⟩ := hp25
    subst er
    rw [eF] at hC
    refine lv_if_eq (tgt := 65) B.1 B.2.1 dX2_mayBeMoved_28 (by decide) (fun c_28 => ?_) (fun c_28 => ?_)
    · have q_28 : ¬ wh w t < hn h := of_decide_eq_false (bI_f.mp c_28)
      refine lv_iconst (v := nI 0) B.1 B.2.1 dX2_mayBeMoved_65 (by decide) ?_
      exact r_eZ B hC (v := nI 0) (rfl) (⟨by
      have z : mayV h w t p = false := by
        rw [mayV, if_neg q_11]
        simp [q_28]
      rw [z]; rfl, rfl⟩) dX2_mayBeMoved_66
    · have q_28 : wh w t < hn h := of_decide_eq_true (bI_t.mp c_28)
      refine lv_aload_n B.1 B.2.1 dX2_mayBeMoved_31 rfl (lv_at hl 1 rfl) ?_
      refine lv_iload B.1 B.2.1 dX2_mayBeMoved_32 (lv_at hl 0 rfl) ?_
      refine lv_aload_n B.1 B.2.1 dX2_mayBeMoved_34 rfl (lv_at hl 4 rfl) ?_
      refine r_calli B hC hl.1 (3) 2 rfl rfl (by decide) g0 (As := [.int (nI (wh w t)), .ref (ad (b))]) (ctX2_mayBeTakenFrom l g lo ad hH ok hb hL hw (p := (wh w t)) (by omega)) gX2_mayBeMoved_X2_mayBeTakenFrom rfl (n := 2) rfl (by decide +kernel) ⟨Nat.le_of_ble_eq_true rfl, Nat.le_of_ble_eq_true rfl⟩ ⟨Nat.zero_le _, Nat.zero_le _⟩ rfl (Nat.le_of_ble_eq_true rfl) dX2_mayBeMoved_35 (fun r35 F1 H locs hp35 hC => ?_)
      obtain ⟨er, eF⟩ := hp35
      subst er
      rw [eF] at hC
      refine lv_if_eq (tgt := 65) B.1 B.2.1 dX2_mayBeMoved_38 (by decide) (fun c_38 => ?_) (fun c_38 => ?_)
      · have q_38 : (takeV h w ((wh w t))) = false := bI_f.mp c_38
        refine lv_iconst (v := nI 0) B.1 B.2.1 dX2_mayBeMoved_65 (by decide) ?_
        exact r_eZ B hC (v := nI 0) (rfl) (⟨by
      have z : mayV h w t p = false := by
        rw [mayV, if_neg q_11]
        simp [q_28, q_38]
      rw [z]; rfl, rfl⟩) dX2_mayBeMoved_66
      · have q_38 : (takeV h w ((wh w t))) = true := bI_t.mp c_38
        refine lv_aload_n B.1 B.2.1 dX2_mayBeMoved_41 rfl (lv_at hl 1 rfl) ?_
        refine lv_iload_n B.1 B.2.1 dX2_mayBeMoved_42 rfl (lv_at hl 3 rfl) ?_
        refine r_calli B hC hl.1 (3) 2 rfl rfl (by decide) g0 (As := [.int (nI p)]) (ctX2_restsOn l g lo ad hH ok (p := p) (by omega)) gX2_mayBeMoved_X2_restsOn rfl (n := 1) rfl (by decide +kernel) ⟨Nat.le_of_ble_eq_true rfl, Nat.le_of_ble_eq_true rfl⟩ ⟨Nat.zero_le _, Nat.zero_le _⟩ rfl (Nat.le_of_ble_eq_true rfl) dX2_mayBeMoved_43 (fun r43 F1 H locs hp43 hC => ?_)
        obtain ⟨er, eF⟩ := hp43
        subst er
        rw [eF] at hC
        refine lv_iload B.1 B.2.1 dX2_mayBeMoved_46 (lv_at hl 0 rfl) ?_
        refine lv_icmp_eq (tgt := 65) B.1 B.2.1 dX2_mayBeMoved_48 (by decide) (fun c_48 => ?_) (fun c_48 => ?_)
        · have q_48 := (oI_eq (fun j hj => Nat.lt_trans (hreN_lt ok hj).1 (by decide)) (by omega)).mp c_48
          refine lv_iconst (v := nI 0) B.1 B.2.1 dX2_mayBeMoved_65 (by decide) ?_
          exact r_eZ B hC (v := nI 0) (rfl) (⟨by
      have z : mayV h w t p = false := by
        rw [mayV, if_neg q_11]
        simp [q_28, q_38, q_48]
      rw [z]; rfl, rfl⟩) dX2_mayBeMoved_66
        · have q_48 : ¬ hreN h p = some (wh w t) := fun z => c_48 ((oI_eq (fun j hj => Nat.lt_trans (hreN_lt ok hj).1 (by decide)) (by omega)).mpr z)
          refine lv_aload_n B.1 B.2.1 dX2_mayBeMoved_51 rfl (lv_at hl 1 rfl) ?_
          refine lv_iload_n B.1 B.2.1 dX2_mayBeMoved_52 rfl (lv_at hl 2 rfl) ?_
          refine lv_iload_n B.1 B.2.1 dX2_mayBeMoved_53 rfl (lv_at hl 3 rfl) ?_
          refine lv_aload_n B.1 B.2.1 dX2_mayBeMoved_54 rfl (lv_at hl 4 rfl) ?_
          refine r_calli B hC hl.1 (3) 2 rfl rfl (by decide) g0 (As := [.int (nI t), .int (nI p), .ref (ad (b))]) (ctX2_fits l g lo ad hH ok hb hL hw (t := t) (p := p) (by omega) (by omega)) gX2_mayBeMoved_X2_fits rfl (n := 3) rfl (by decide +kernel) ⟨Nat.le_of_ble_eq_true rfl, Nat.le_of_ble_eq_true rfl⟩ ⟨Nat.zero_le _, Nat.zero_le _⟩ rfl (Nat.le_of_ble_eq_true rfl) dX2_mayBeMoved_55 (fun r55 F1 H locs hp55 hC => ?_)
          obtain ⟨er, eF⟩ := hp55
          subst er
          rw [eF] at hC
          refine lv_if_eq (tgt := 65) B.1 B.2.1 dX2_mayBeMoved_58 (by decide) (fun c_58 => ?_) (fun c_58 => ?_)
          · have q_58 : (fitsV h w t p) = false := bI_f.mp c_58
            refine lv_iconst (v := nI 0) B.1 B.2.1 dX2_mayBeMoved_65 (by decide) ?_
            exact r_eZ B hC (v := nI 0) (rfl) (⟨by
      have z : mayV h w t p = false := by
        rw [mayV, if_neg q_11]
        simp [q_28, q_38, q_48, q_58]
      rw [z]; rfl, rfl⟩) dX2_mayBeMoved_66
          · have q_58 : (fitsV h w t p) = true := bI_t.mp c_58
            refine lv_iconst (v := nI 1) B.1 B.2.1 dX2_mayBeMoved_61 (by decide) ?_
            refine lv_goto (tgt := 66) B.1 B.2.1 dX2_mayBeMoved_62 (by decide) ?_
            exact r_eZ B hC (v := nI 1) (rfl) (⟨by
      have z : mayV h w t p = true := by
        rw [mayV, if_neg q_11]
        simp [q_28, q_38, q_48, q_58]
      rw [z]; rfl, rfl⟩) dX2_mayBeMoved_66
  · have q_11 : (wh w t) = 100 := (nI_eq (by omega) (by omega)).mp c_11
    refine lv_aload_n B.1 B.2.1 dX2_mayBeMoved_14 rfl (lv_at hl 1 rfl) ?_
    refine lv_iload_n B.1 B.2.1 dX2_mayBeMoved_15 rfl (lv_at hl 2 rfl) ?_
    refine lv_iload_n B.1 B.2.1 dX2_mayBeMoved_16 rfl (lv_at hl 3 rfl) ?_
    refine lv_aload_n B.1 B.2.1 dX2_mayBeMoved_17 rfl (lv_at hl 4 rfl) ?_
    refine r_calli B hC hl.1 (3) 2 rfl rfl (by decide) g0 (As := [.int (nI t), .int (nI p), .ref (ad (b))]) (ctX2_fits l g lo ad hH ok hb hL hw (t := t) (p := p) (by omega) (by omega)) gX2_mayBeMoved_X2_fits rfl (n := 3) rfl (by decide +kernel) ⟨Nat.le_of_ble_eq_true rfl, Nat.le_of_ble_eq_true rfl⟩ ⟨Nat.zero_le _, Nat.zero_le _⟩ rfl (Nat.le_of_ble_eq_true rfl) dX2_mayBeMoved_18 (fun r18 F1 H locs hp18 hC => ?_)
    obtain ⟨er, eF⟩ := hp18
    subst er
    rw [eF] at hC
    exact r_eZ B hC (v := bI (fitsV h w t p)) (nar_b _) (⟨by rw [mayV, if_pos q_11], rfl⟩) dX2_mayBeMoved_21
set_option maxHeartbeats 4000000 in
set_option maxRecDepth 100000 in
theorem ctX2_hangsInAir (l : Launch) (g : Gx) (lo : Nat) (ad : Nat → Nat) {F : Nat → va_E} {h : HV} (hH : HullC g ad F h) (ok : HOK h) {b : Nat} {w : LV} (hb : 8 ≤ b ∧ b + 5 ≤ 196) (hL : LoadC g ad F b w) (hw : LOK h w) {p : Nat} (hp : p < hn h) : MI l g lo 196 ad yX2_hangsInAir wsX2_hangsInAir 1 21 [.ref (ad (3)), .int (nI p), .ref (ad (b))] F (fun r F' => r = bI (hangV h w p) ∧ F' = F) := by
  obtain ⟨g0, g1, g2, g3, g4⟩ := id hH
  have okn := ok.1
  have okp := ok.2.1
  have okh := ok.2.2.1
  obtain ⟨h0, h1, h2, h3, h4⟩ := id hL
  refine enter (cc := cX2_hangsInAir) (maxL := 3) (ret := some .boolean) (own := RX2) (by decide +kernel) rfl rfl (Nat.le_of_ble_eq_true rfl) ?_
  intro pp ee ss mm below meth cc B hini hC ls hl
  have hl : lv_has ls 3 [(0, .ref (ad (3))), (1, .int (nI p)), (2, .ref (ad (b)))] := hl
  refine lv_aload_n B.1 B.2.1 dX2_hangsInAir_0 rfl (lv_at hl 0 rfl) ?_
  refine lv_iload_n B.1 B.2.1 dX2_hangsInAir_1 rfl (lv_at hl 1 rfl) ?_
  refine r_calli B hC hl.1 (3) 2 rfl rfl (by decide) g0 (As := [.int (nI p)]) (ctX2_restsOn l g lo ad hH ok (p := p) (by omega)) gX2_hangsInAir_X2_restsOn rfl (n := 1) rfl (by decide +kernel) ⟨Nat.le_of_ble_eq_true rfl, Nat.le_of_ble_eq_true rfl⟩ ⟨Nat.zero_le _, Nat.zero_le _⟩ rfl (Nat.le_of_ble_eq_true rfl) dX2_hangsInAir_2 (fun r2 F1 H locs hp2 hC => ?_)
  obtain ⟨er, eF⟩ := hp2
  subst er
  rw [eF] at hC
  refine lv_bipush (v := (-9)) B.1 B.2.1 dX2_hangsInAir_5 (by decide) ?_
  refine lv_icmp_eq (tgt := 26) B.1 B.2.1 dX2_hangsInAir_7 (by decide) (fun c_7 => ?_) (fun c_7 => ?_)
  · have q_7 := (oI_9 (fun j hj => Nat.lt_trans (hreN_lt ok hj).1 (by decide))).mp c_7
    rw [hreN, if_pos hp] at q_7
    refine lv_iconst (v := nI 0) B.1 B.2.1 dX2_hangsInAir_26 (by decide) ?_
    exact r_eZ B hC (v := nI 0) (rfl) (⟨by
      have z : hangV h w p = false := by
        simp [hangV, q_7]
      rw [z]; rfl, rfl⟩) dX2_hangsInAir_27
  · have q_7 : ¬ hreN h p = none := fun z => c_7 ((oI_9 (fun j hj => Nat.lt_trans (hreN_lt ok hj).1 (by decide))).mpr z)
    obtain ⟨u, hu⟩ := Option.ne_none_iff_exists'.mp q_7
    have hu10 := (hreN_lt ok hu).1
    have hu2 := (hreN_lt ok hu).2.2.2
    refine lv_aload_n B.1 B.2.1 dX2_hangsInAir_10 rfl (lv_at hl 2 rfl) ?_
    refine lv_aload_n B.1 B.2.1 dX2_hangsInAir_11 rfl (lv_at hl 0 rfl) ?_
    refine lv_iload_n B.1 B.2.1 dX2_hangsInAir_12 rfl (lv_at hl 1 rfl) ?_
    refine r_calli B hC hl.1 (3) 2 rfl rfl (by decide) g0 (As := [.int (nI p)]) (ctX2_restsOn l g lo ad hH ok (p := p) (by omega)) gX2_hangsInAir_X2_restsOn rfl (n := 1) rfl (by decide +kernel) ⟨Nat.le_of_ble_eq_true rfl, Nat.le_of_ble_eq_true rfl⟩ ⟨Nat.zero_le _, Nat.zero_le _⟩ rfl (Nat.le_of_ble_eq_true rfl) dX2_hangsInAir_13 (fun r13 F1 H locs hp13 hC => ?_)
    obtain ⟨er, eF⟩ := hp13
    subst er
    rw [eF] at hC
    refine r_tI (y := nI u) (by rw [hu]; rfl) ?_
    refine r_calli B hC hl.1 (b) 3 rfl rfl (by omega) h0 (As := [.int (nI u)]) (ctX3_isOpen l g lo ad hb hL (t := u) (by omega) (hw.t10 (by omega))) gX2_hangsInAir_X3_isOpen rfl (n := 1) rfl (by decide +kernel) ⟨Nat.le_of_ble_eq_true rfl, Nat.le_of_ble_eq_true rfl⟩ ⟨Nat.zero_le _, Nat.zero_le _⟩ rfl (Nat.le_of_ble_eq_true rfl) dX2_hangsInAir_16 (fun r16 F1 H locs hp16 hC => ?_)
    obtain ⟨er, eF⟩ := hp16
    subst er
    rw [eF] at hC
    refine lv_if_eq (tgt := 26) B.1 B.2.1 dX2_hangsInAir_19 (by decide) (fun c_19 => ?_) (fun c_19 => ?_)
    · have q_19 : (ti w u).isNone = false := bI_f.mp c_19
      refine lv_iconst (v := nI 0) B.1 B.2.1 dX2_hangsInAir_26 (by decide) ?_
      exact r_eZ B hC (v := nI 0) (rfl) (⟨by
      have z : hangV h w p = false := by
        simp [hangV, hu2, q_19]
      rw [z]; rfl, rfl⟩) dX2_hangsInAir_27
    · have q_19 : (ti w u).isNone = true := bI_t.mp c_19
      refine lv_iconst (v := nI 1) B.1 B.2.1 dX2_hangsInAir_22 (by decide) ?_
      refine lv_goto (tgt := 27) B.1 B.2.1 dX2_hangsInAir_23 (by decide) ?_
      exact r_eZ B hC (v := nI 1) (rfl) (⟨by
      have z : hangV h w p = true := by
        simp [hangV, hu2, q_19]
      rw [z]; rfl, rfl⟩) dX2_hangsInAir_27
