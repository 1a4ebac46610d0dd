/-! SLOTS: two Loads, and which of them are kept -/
abbrev SV : Type := (Nat → LV) × (Nat → Bool)
def slo (v : SV) : Nat → LV := v.1
def sfl (v : SV) : Nat → Bool := v.2
def SlotC (g : Gx) (ad : Nat → Nat) (F : Nat → va_E) (v : SV) : Prop := F 140 = .inr (6, [.ref (ad 141), .ref (ad 142)]) ∧ F 141 = .inl (g.2.2 4, 2, .inr (.inr (.inr (.inr (fun k => some (ad (143 + 5 * k))))))) ∧ F 142 = .inl (g.2.2 3, 2, .inl (fun j => bI (sfl v j))) ∧ ∀ k, k < 2 → LoadC g ad F (143 + 5 * k) (slo v k)
def SOK (v : SV) : Prop := ∀ k, k < 2 → CAN (slo v k)
theorem SlotC.keep {g : Gx} {ad : Nat → Nat} {F F' : Nat → va_E} {v : SV} (h : SlotC g ad F v) (hs : ∀ i, 140 ≤ i → i < 153 → F' i = F i) : SlotC g ad F' v :=
  ⟨by rw [hs _ (by omega) (by omega)]; exact h.1, by rw [hs _ (by omega) (by omega)]; exact h.2.1, by rw [hs _ (by omega) (by omega)]; exact h.2.2.1, fun k hk => (h.2.2.2 k hk).at (fun i h1 h2 => hs i (by omega) (by omega))⟩
theorem slots_upd {g : Gx} {ad : Nat → Nat} {F F' : Nat → va_E} {al : Nat → LV} {j : Nat} {w : LV} (h : ∀ k, k < 2 → LoadC g ad F (143 + 5 * k) (al k)) (hj : LoadC g ad F' (143 + 5 * j) w) (hs : ∀ i, 143 ≤ i → i < 153 → (i < 143 + 5 * j ∨ 148 + 5 * j ≤ i) → F' i = F i) : ∀ k, k < 2 → LoadC g ad F' (143 + 5 * k) (va_up al j w k) := by
  intro k hk
  by_cases e : k = j
  · subst e; rw [va_up_self]; exact hj
  · rw [va_up_ne _ _ e]
    exact (h k hk).at (fun i h1 h2 => hs i (by omega) (by omega) (by omega))
def isS (x : Int32) : Bool := decide (0 ≤ x) && decide (x < nI 2)
theorem isS_t {x : Int32} (q : isS x = true) : ∃ j, j < 2 ∧ x = nI j := by
  simp only [isS, Bool.and_eq_true, decide_eq_true_eq] at q
  have q0 : ¬ x < 0 := fun z => by
    rw [Int32.lt_iff_toInt_lt] at z
    have q1 := Int32.le_iff_toInt_le.mp q.1
    omega
  obtain ⟨j, hj, rfl⟩ := nI_of q0
  exact ⟨j, (nI_ltI hj (by decide)).mp q.2, rfl⟩
theorem isS_n : ∀ j, j < 2 → isS (nI j) = true := by decide
theorem upd_bZ (f : Nat → Bool) (k : Nat) (o : Bool) {z : Int32} (h : z = bI o) : upd (fun j => bI (f j)) k z = fun j => bI (va_up f k o j) := by
  subst h; exact upd_bI f k o
set_option maxHeartbeats 4000000 in
set_option maxRecDepth 100000 in
theorem ctX6_isSlot (l : Launch) (g : Gx) (lo : Nat) (ad : Nat → Nat) {F : Nat → va_E} {x : Int32} : MI l g lo 196 ad yX6_isSlot wsX6_isSlot 0 0 [.ref (ad (140)), .int (x)] F (fun r F' => r = bI (isS x) ∧ F' = F) := by
  refine enter (cc := cX6_isSlot) (maxL := 2) (ret := some .boolean) (own := RX6) (by decide +kernel) rfl rfl (Nat.le_of_ble_eq_true rfl) ?_
  intro pp ee ss mm below meth cc B hini hC ls hl
  have hl : lv_has ls 2 [(0, .ref (ad (140))), (1, .int (x))] := hl
  refine lv_iload_n B.1 B.2.1 dX6_isSlot_0 rfl (lv_at hl 1 rfl) ?_
  refine lv_if_lt (tgt := 13) B.1 B.2.1 dX6_isSlot_1 (by decide) (fun c_1 => ?_) (fun c_1 => ?_)
  · have q : isS x = false := by simp only [isS, Bool.and_eq_false_iff, decide_eq_false_iff_not]; exact Or.inl (fun z => by rw [Int32.le_iff_toInt_le] at z; rw [Int32.lt_iff_toInt_lt] at c_1; omega)
    refine lv_iconst (v := nI 0) B.1 B.2.1 dX6_isSlot_13 (by decide) ?_
    exact r_eZ B hC (v := nI 0) (rfl) (⟨by rw [q]; rfl, rfl⟩) dX6_isSlot_14
  · have q0 : 0 ≤ x := by rw [Int32.le_iff_toInt_le]; rw [Int32.lt_iff_toInt_lt] at c_1; omega
    refine lv_iload_n B.1 B.2.1 dX6_isSlot_4 rfl (lv_at hl 1 rfl) ?_
    refine lv_iconst (v := nI 2) B.1 B.2.1 dX6_isSlot_5 (by decide) ?_
    refine lv_icmp_ge (tgt := 13) B.1 B.2.1 dX6_isSlot_6 (by decide) (fun c_6 => ?_) (fun c_6 => ?_)
    · have q : isS x = false := by simp only [isS, Bool.and_eq_false_iff, decide_eq_false_iff_not]; exact Or.inr (fun z => by rw [Int32.lt_iff_toInt_lt] at z; rw [Int32.le_iff_toInt_le] at c_6; omega)
      refine lv_iconst (v := nI 0) B.1 B.2.1 dX6_isSlot_13 (by decide) ?_
      exact r_eZ B hC (v := nI 0) (rfl) (⟨by rw [q]; rfl, rfl⟩) dX6_isSlot_14
    · have q : isS x = true := by simp only [isS, Bool.and_eq_true, decide_eq_true_eq]; exact ⟨q0, by rw [Int32.lt_iff_toInt_lt]; rw [Int32.le_iff_toInt_le] at c_6; omega⟩
      refine lv_iconst (v := nI 1) B.1 B.2.1 dX6_isSlot_9 (by decide) ?_
      refine lv_goto (tgt := 14) B.1 B.2.1 dX6_isSlot_10 (by decide) ?_
      exact r_eZ B hC (v := nI 1) (rfl) (⟨by rw [q]; rfl, rfl⟩) dX6_isSlot_14
theorem iwX6_isFilled_X6 : ∀ w ∈ u_ws RX6 TX6 2, w ∈ wsX6_isFilled := by decide +kernel
theorem flX6_isFilled_17 : Cond.fieldLink RX6 17 RX6 (TX6 1).2.1 (TX6 1).2.2.1 ∈ wsX6_isFilled := by decide +kernel
set_option maxHeartbeats 4000000 in
set_option maxRecDepth 100000 in
theorem ctX6_isFilled (l : Launch) (g : Gx) (lo : Nat) (ad : Nat → Nat) {F : Nat → va_E} {v : SV} (hS : SlotC g ad F v) (ok : SOK v) {j : Nat} (hj : j < 2) : MI l g lo 196 ad yX6_isFilled wsX6_isFilled 1 21 [.ref (ad (140)), .int (nI j)] F (fun r F' => r = bI (sfl v j) ∧ F' = F) := by
  obtain ⟨s0, s1, s2, sL⟩ := id hS
  refine enter (cc := cX6_isFilled) (maxL := 2) (ret := some .boolean) (own := RX6) (by decide +kernel) rfl rfl (Nat.le_of_ble_eq_true rfl) ?_
  intro pp ee ss mm below meth cc B hini hC ls hl
  have hl : lv_has ls 2 [(0, .ref (ad (140))), (1, .int (nI j))] := hl
  refine lv_aload_n B.1 B.2.1 dX6_isFilled_0 rfl (lv_at hl 0 rfl) ?_
  refine lv_iload_n B.1 B.2.1 dX6_isFilled_1 rfl (lv_at hl 1 rfl) ?_
  refine r_calli B hC hl.1 (140) 6 rfl rfl (by decide) s0 (As := [.int (nI j)]) (ctX6_isSlot l g lo ad (x := nI j)) gX6_isFilled_X6_isSlot rfl (n := 1) rfl (by decide +kernel) ⟨Nat.le_of_ble_eq_true rfl, Nat.le_of_ble_eq_true rfl⟩ ⟨Nat.zero_le _, Nat.zero_le _⟩ rfl (Nat.le_of_ble_eq_true rfl) dX6_isFilled_2 (fun r2 F1 H locs hp2 hC => ?_)
  obtain ⟨er, eF⟩ := hp2
  subst er
  rw [eF] at hC
  refine r_tI (y := bI true) (by rw [isS_n j hj]) ?_
  refine lv_if_eq (tgt := 21) B.1 B.2.1 dX6_isFilled_5 (by decide) (fun z => absurd z (by decide)) (fun _ => ?_)
  refine lv_aload_n B.1 B.2.1 dX6_isFilled_8 rfl (lv_at hl 0 rfl) ?_
  refine r_cg B hC (i := 140) (by decide) s0 (C := RX6) (T := TX6) (n := 2) rfl iwX6_isFilled_X6 1 (by decide) (index := 17) flX6_isFilled_17 rfl (v := .ref (ad (142))) rfl dX6_isFilled_9 ?_
  refine lv_iload_n B.1 B.2.1 dX6_isFilled_12 rfl (lv_at hl 1 rfl) ?_
  refine r_czald B hC (i := 142) (by decide) s2 (j := j) (by omega) (by decide) dX6_isFilled_13 ?_
  refine r_tI (y := bI (sfl v j)) rfl ?_
  refine lv_if_eq (tgt := 21) B.1 B.2.1 dX6_isFilled_14 (by decide) (fun c_14 => ?_) (fun c_14 => ?_)
  · have q_14 : (sfl v j) = false := bI_f.mp c_14
    refine lv_iconst (v := nI 0) B.1 B.2.1 dX6_isFilled_21 (by decide) ?_
    exact r_eZ B hC (v := nI 0) (rfl) (⟨by rw [q_14]; rfl, rfl⟩) dX6_isFilled_22
  · have q_14 : (sfl v j) = true := bI_t.mp c_14
    refine lv_iconst (v := nI 1) B.1 B.2.1 dX6_isFilled_17 (by decide) ?_
    refine lv_goto (tgt := 22) B.1 B.2.1 dX6_isFilled_18 (by decide) ?_
    exact r_eZ B hC (v := nI 1) (rfl) (⟨by rw [q_14]; rfl, rfl⟩) dX6_isFilled_22
theorem iwX6_store_X6 : ∀ w ∈ u_ws RX6 TX6 2, w ∈ wsX6_store := by decide +kernel
theorem flX6_store_11 : Cond.fieldLink RX6 11 RX6 (TX6 0).2.1 (TX6 0).2.2.1 ∈ wsX6_store := by decide +kernel
theorem flX6_store_17 : Cond.fieldLink RX6 17 RX6 (TX6 1).2.1 (TX6 1).2.2.1 ∈ wsX6_store := by decide +kernel
set_option maxHeartbeats 4000000 in
set_option maxRecDepth 100000 in
theorem ctX6_store (l : Launch) (g : Gx) (lo : Nat) (ad : Nat → Nat) {F : Nat → va_E} {v : SV} (hS : SlotC g ad F v) (ok : SOK v) {j : Nat} (hj : j < 2) {w : LV} (hL : LoadC g ad F 8 w) (hc : CAN w) : MV l g lo 196 ad yX6_store wsX6_store 2 61 [.ref (ad (140)), .int (nI j), .ref (ad (8))] F (fun F' => SlotC g ad F' (va_up (slo v) j w, va_up (sfl v) j true) ∧ Same 140 153 F F') := by
  obtain ⟨s0, s1, s2, sL⟩ := id hS
  obtain ⟨h0, h1, h2, h3, h4⟩ := id hL
  refine enter (cc := cX6_store) (maxL := 3) (ret := none) (own := RX6) (by decide +kernel) rfl rfl (Nat.le_of_ble_eq_true rfl) ?_
  intro pp ee ss mm below meth cc B hini hC ls hl
  have hl : lv_has ls 3 [(0, .ref (ad (140))), (1, .int (nI j)), (2, .ref (ad (8)))] := hl
  refine lv_aload_n B.1 B.2.1 dX6_store_0 rfl (lv_at hl 0 rfl) ?_
  refine lv_iload_n B.1 B.2.1 dX6_store_1 rfl (lv_at hl 1 rfl) ?_
  refine r_calli B hC hl.1 (140) 6 rfl rfl (by decide) s0 (As := [.int (nI j)]) (ctX6_isSlot l g lo ad (x := nI j)) gX6_store_X6_isSlot rfl (n := 1) rfl (by decide +kernel) ⟨Nat.le_of_ble_eq_true rfl, Nat.le_of_ble_eq_true rfl⟩ ⟨Nat.zero_le _, Nat.zero_le _⟩ rfl (Nat.le_of_ble_eq_true rfl) dX6_store_2 (fun r2 F1 H locs hp2 hC => ?_)
  obtain ⟨er, eF⟩ := hp2
  subst er
  rw [eF] at hC
  refine r_tI (y := bI true) (by rw [isS_n j hj]) ?_
  refine lv_if_eq (tgt := 25) B.1 B.2.1 dX6_store_5 (by decide) (fun z => absurd z (by decide)) (fun _ => ?_)
  refine lv_aload_n B.1 B.2.1 dX6_store_8 rfl (lv_at hl 0 rfl) ?_
  refine r_cg B hC (i := 140) (by decide) s0 (C := RX6) (T := TX6) (n := 2) rfl iwX6_store_X6 0 (by decide) (index := 11) flX6_store_11 rfl (v := .ref (ad (141))) rfl dX6_store_9 ?_
  refine lv_iload_n B.1 B.2.1 dX6_store_12 rfl (lv_at hl 1 rfl) ?_
  refine r_cqald B hC (i := 141) (by decide) s1 (j := j) (by omega) (by decide) (t := ad (143 + 5 * j)) (rfl) dX6_store_13 ?_
  refine lv_aload_n B.1 B.2.1 dX6_store_14 rfl (lv_at hl 2 rfl) ?_
  have sLj : LoadC g ad F (143 + 5 * j) (slo v j) := sL j hj
  obtain ⟨n0, n1, n2, n3, n4⟩ := id sLj
  refine r_callv B hC hl.1 (143 + 5 * j) 3 rfl rfl (by omega) n0 (As := [.ref (ad (8))]) (ctX3_copyFrom l g lo ad (b := 143 + 5 * j) (by omega) sLj (b2 := 8) (by omega) (by omega) hL (ok j hj) hc) gX6_store_X3_copyFrom rfl (n := 1) rfl (by decide +kernel) ⟨Nat.le_of_ble_eq_true rfl, Nat.le_of_ble_eq_true rfl⟩ ⟨Nat.zero_le _, Nat.zero_le _⟩ rfl (Nat.le_of_ble_eq_true rfl) dX6_store_15 (fun F1 H locs hp15 hC => ?_)
  obtain ⟨hLj, hs_F1⟩ := hp15
  have s0_F1 : F1 140 = .inr (6, [.ref (ad (141)), .ref (ad (142))]) := (hs_F1 _ (by omega)).trans s0
  have s1_F1 : F1 141 = .inl (g.2.2 4, 2, .inr (.inr (.inr (.inr (fun k => some (ad (143 + 5 * k))))))) := (hs_F1 _ (by omega)).trans s1
  have s2_F1 : F1 142 = .inl (g.2.2 3, 2, .inl (fun j => bI (sfl v j))) := (hs_F1 _ (by omega)).trans s2
  refine lv_aload_n B.1 B.2.1 dX6_store_18 rfl (lv_at hl 0 rfl) ?_
  refine r_cg B hC (i := 140) (by decide) s0_F1 (C := RX6) (T := TX6) (n := 2) rfl iwX6_store_X6 1 (by decide) (index := 17) flX6_store_17 rfl (v := .ref (ad (142))) rfl dX6_store_19 ?_
  refine lv_iload_n B.1 B.2.1 dX6_store_22 rfl (lv_at hl 1 rfl) ?_
  refine lv_iconst (v := nI 1) B.1 B.2.1 dX6_store_23 (by decide) ?_
  refine r_czast B hC (i := 142) (by decide) s2_F1 (j := j) (by omega) (by decide) dX6_store_24 ?_
  intro H locs hC
  obtain ⟨F2, eF2⟩ : ∃ f : Nat → va_E, f = va_up F1 (142) (.inl (g.2.2 3, 2, .inl (fun k => bI (va_up (sfl v) j true k)))) := ⟨_, rfl⟩
  have hC : Cu g lo 196 ad F2 ss ss.heap H locs := by rw [eF2]; exact (by rw [← upd_bZ (sfl v) j true rfl]; exact hC)
  have k142_F2 : F2 142 = .inl (g.2.2 3, 2, .inl (fun k => bI (va_up (sfl v) j true k))) := by rw [eF2]; exact va_up_self _ _ _
  have s0_F2 : F2 140 = .inr (6, [.ref (ad (141)), .ref (ad (142))]) := by rw [eF2, va_up_ne _ _ (by decide)]; exact s0_F1
  have s1_F2 : F2 141 = .inl (g.2.2 4, 2, .inr (.inr (.inr (.inr (fun k => some (ad (143 + 5 * k))))))) := by rw [eF2, va_up_ne _ _ (by decide)]; exact s1_F1
  exact r_eV B hC (⟨⟨s0_F2, s1_F2, k142_F2, slots_upd (j := j) sL (LoadC.at hLj (fun i h1 h2 => by rw [eF2, va_up_ne _ _ (by omega)])) (fun i h1 h2 h3 => by rw [eF2, va_up_ne _ _ (by omega)]; rw [hs_F1 i (by omega)])⟩, fun i h1 => by rw [eF2, va_up_ne _ _ (by omega)]; rw [hs_F1 i (by omega)]⟩) dX6_store_25
theorem iwX6_bringBack_X6 : ∀ w ∈ u_ws RX6 TX6 2, w ∈ wsX6_bringBack := by decide +kernel
theorem flX6_bringBack_11 : Cond.fieldLink RX6 11 RX6 (TX6 0).2.1 (TX6 0).2.2.1 ∈ wsX6_bringBack := by decide +kernel
set_option maxHeartbeats 4000000 in
set_option maxRecDepth 100000 in
theorem ctX6_bringBack (l : Launch) (g : Gx) (lo : Nat) (ad : Nat → Nat) {F : Nat → va_E} {v : SV} (hS : SlotC g ad F v) (ok : SOK v) {j : Nat} (hj : j < 2) (hfl : sfl v j = true) {w : LV} (hL : LoadC g ad F 8 w) (hc : CAN w) : MV l g lo 196 ad yX6_bringBack wsX6_bringBack 2 61 [.ref (ad (140)), .int (nI j), .ref (ad (8))] F (fun F' => LoadC g ad F' 8 (slo v j) ∧ Same 8 13 F F') := by
  obtain ⟨s0, s1, s2, sL⟩ := id hS
  obtain ⟨h0, h1, h2, h3, h4⟩ := id hL
  refine enter (cc := cX6_bringBack) (maxL := 3) (ret := none) (own := RX6) (by decide +kernel) rfl rfl (Nat.le_of_ble_eq_true rfl) ?_
  intro pp ee ss mm below meth cc B hini hC ls hl
  have hl : lv_has ls 3 [(0, .ref (ad (140))), (1, .int (nI j)), (2, .ref (ad (8)))] := hl
  refine lv_aload_n B.1 B.2.1 dX6_bringBack_0 rfl (lv_at hl 0 rfl) ?_
  refine lv_iload_n B.1 B.2.1 dX6_bringBack_1 rfl (lv_at hl 1 rfl) ?_
  refine r_calli B hC hl.1 (140) 6 rfl rfl (by decide) s0 (As := [.int (nI j)]) (ctX6_isFilled l g lo ad hS ok (j := j) hj) gX6_bringBack_X6_isFilled rfl (n := 1) rfl (by decide +kernel) ⟨Nat.le_of_ble_eq_true rfl, Nat.le_of_ble_eq_true rfl⟩ ⟨Nat.zero_le _, Nat.zero_le _⟩ rfl (Nat.le_of_ble_eq_true rfl) dX6_bringBack_2 (fun r2 F1 H locs hp2 hC => ?_)
  obtain ⟨er, eF⟩ := hp2
  subst er
  rw [eF] at hC
  refine lv_if_eq (tgt := 18) B.1 B.2.1 dX6_bringBack_5 (by decide) (fun z => absurd z (by rw [hfl]; decide)) (fun _ => ?_)
  refine lv_aload_n B.1 B.2.1 dX6_bringBack_8 rfl (lv_at hl 2 rfl) ?_
  refine lv_aload_n B.1 B.2.1 dX6_bringBack_9 rfl (lv_at hl 0 rfl) ?_
  refine r_cg B hC (i := 140) (by decide) s0 (C := RX6) (T := TX6) (n := 2) rfl iwX6_bringBack_X6 0 (by decide) (index := 11) flX6_bringBack_11 rfl (v := .ref (ad (141))) rfl dX6_bringBack_10 ?_
  refine lv_iload_n B.1 B.2.1 dX6_bringBack_13 rfl (lv_at hl 1 rfl) ?_
  refine r_cqald B hC (i := 141) (by decide) s1 (j := j) (by omega) (by decide) (t := ad (143 + 5 * j)) (rfl) dX6_bringBack_14 ?_
  have sLj : LoadC g ad F (143 + 5 * j) (slo v j) := sL j hj
  obtain ⟨n0, n1, n2, n3, n4⟩ := id sLj
  refine r_callv B hC hl.1 (8) 3 rfl rfl (by decide) h0 (As := [.ref (ad (143 + 5 * j))]) (ctX3_copyFrom l g lo ad (b := 8) (by omega) hL (b2 := 143 + 5 * j) (by omega) (by omega) sLj hc (ok j hj)) gX6_bringBack_X3_copyFrom rfl (n := 1) rfl (by decide +kernel) ⟨Nat.le_of_ble_eq_true rfl, Nat.le_of_ble_eq_true rfl⟩ ⟨Nat.zero_le _, Nat.zero_le _⟩ rfl (Nat.le_of_ble_eq_true rfl) dX6_bringBack_15 (fun F1 H locs hp15 hC => ?_)
  obtain ⟨hLj, hs_F1⟩ := hp15
  have s0_F1 : F1 140 = .inr (6, [.ref (ad (141)), .ref (ad (142))]) := (hs_F1 _ (by omega)).trans s0
  have s1_F1 : F1 141 = .inl (g.2.2 4, 2, .inr (.inr (.inr (.inr (fun k => some (ad (143 + 5 * k))))))) := (hs_F1 _ (by omega)).trans s1
  have s2_F1 : F1 142 = .inl (g.2.2 3, 2, .inl (fun j => bI (sfl v j))) := (hs_F1 _ (by omega)).trans s2
  exact r_eV B hC (⟨hLj, hs_F1⟩) dX6_bringBack_18
theorem iwX6_forgetAll_X6 : ∀ w ∈ u_ws RX6 TX6 2, w ∈ wsX6_forgetAll := by decide +kernel
theorem flX6_forgetAll_17 : Cond.fieldLink RX6 17 RX6 (TX6 1).2.1 (TX6 1).2.2.1 ∈ wsX6_forgetAll := by decide +kernel
set_option maxHeartbeats 4000000 in
set_option maxRecDepth 100000 in
theorem ctX6_forgetAll (l : Launch) (g : Gx) (lo : Nat) (ad : Nat → Nat) {F : Nat → va_E} {v : SV} (hS : SlotC g ad F v) (ok : SOK v) : MV l g lo 196 ad yX6_forgetAll wsX6_forgetAll 0 0 [.ref (ad (140))] F (fun F' => SlotC g ad F' (slo v, va_up (va_up (sfl v) 0 false) 1 false) ∧ Same 140 153 F F') := by
  obtain ⟨s0, s1, s2, sL⟩ := id hS
  refine enter (cc := cX6_forgetAll) (maxL := 2) (ret := none) (own := RX6) (by decide +kernel) rfl rfl (Nat.le_of_ble_eq_true rfl) ?_
  intro pp ee ss mm below meth cc B hini hC ls hl
  have hl : lv_has ls 2 [(0, .ref (ad (140)))] := hl
  refine lv_iconst (v := nI 0) B.1 B.2.1 dX6_forgetAll_0 (by decide) ?_
  refine lv_istore_n (lv' := [(1, .int (nI 0)), (0, .ref (ad (140)))]) B.1 B.2.1 dX6_forgetAll_1 rfl hl (by decide) rfl (fun ls hl => ?_)
  refine lv_iload_n B.1 B.2.1 dX6_forgetAll_2 rfl (lv_at hl 0 rfl) ?_
  refine lv_iconst (v := nI 2) B.1 B.2.1 dX6_forgetAll_3 (by decide) ?_
  refine lv_icmp_ge (tgt := 20) B.1 B.2.1 dX6_forgetAll_4 (by decide) (fun z => absurd z (nI_ge (by omega) (by omega))) (fun _ => ?_)
  refine lv_aload_n B.1 B.2.1 dX6_forgetAll_7 rfl (lv_at hl 1 rfl) ?_
  refine r_cg B hC (i := 140) (by decide) s0 (C := RX6) (T := TX6) (n := 2) rfl iwX6_forgetAll_X6 1 (by decide) (index := 17) flX6_forgetAll_17 rfl (v := .ref (ad (142))) rfl dX6_forgetAll_8 ?_
  refine lv_iload_n B.1 B.2.1 dX6_forgetAll_11 rfl (lv_at hl 0 rfl) ?_
  refine lv_iconst (v := nI 0) B.1 B.2.1 dX6_forgetAll_12 (by decide) ?_
  refine r_czast B hC (i := 142) (by decide) s2 (j := 0) (by omega) (by decide) dX6_forgetAll_13 ?_
  intro H locs hC
  obtain ⟨F1, eF1⟩ : ∃ f : Nat → va_E, f = va_up F (142) (.inl (g.2.2 3, 2, .inl (fun k => bI (va_up (sfl v) 0 false k)))) := ⟨_, rfl⟩
  have hC : Cu g lo 196 ad F1 ss ss.heap H locs := by rw [eF1]; exact (by rw [← upd_bZ (sfl v) 0 false rfl]; exact hC)
  have k142_F1 : F1 142 = .inl (g.2.2 3, 2, .inl (fun k => bI (va_up (sfl v) 0 false k))) := by rw [eF1]; exact va_up_self _ _ _
  have s0_F1 : F1 140 = .inr (6, [.ref (ad (141)), .ref (ad (142))]) := by rw [eF1, va_up_ne _ _ (by decide)]; exact s0
  have s1_F1 : F1 141 = .inl (g.2.2 4, 2, .inr (.inr (.inr (.inr (fun k => some (ad (143 + 5 * k))))))) := by rw [eF1, va_up_ne _ _ (by decide)]; exact s1
  refine lv_iinc (v := nI 1) (lv' := [(1, .int (nI 1)), (0, .ref (ad (140)))]) B.1 B.2.1 dX6_forgetAll_14 hl (k := 0) rfl (by decide) (by decide) rfl (fun ls hl => ?_)
  refine lv_goto (tgt := 2) B.1 B.2.1 dX6_forgetAll_17 (by decide) ?_
  refine lv_iload_n B.1 B.2.1 dX6_forgetAll_2 rfl (lv_at hl 0 rfl) ?_
  refine lv_iconst (v := nI 2) B.1 B.2.1 dX6_forgetAll_3 (by decide) ?_
  refine lv_icmp_ge (tgt := 20) B.1 B.2.1 dX6_forgetAll_4 (by decide) (fun z => absurd z (nI_ge (by omega) (by omega))) (fun _ => ?_)
  refine lv_aload_n B.1 B.2.1 dX6_forgetAll_7 rfl (lv_at hl 1 rfl) ?_
  refine r_cg B hC (i := 140) (by decide) s0_F1 (C := RX6) (T := TX6) (n := 2) rfl iwX6_forgetAll_X6 1 (by decide) (index := 17) flX6_forgetAll_17 rfl (v := .ref (ad (142))) rfl dX6_forgetAll_8 ?_
  refine lv_iload_n B.1 B.2.1 dX6_forgetAll_11 rfl (lv_at hl 0 rfl) ?_
  refine lv_iconst (v := nI 0) B.1 B.2.1 dX6_forgetAll_12 (by decide) ?_
  refine r_czast B hC (i := 142) (by decide) k142_F1 (j := 1) (by omega) (by decide) dX6_forgetAll_13 ?_
  intro H locs hC
  obtain ⟨F2, eF2⟩ : ∃ f : Nat → va_E, f = va_up F1 (142) (.inl (g.2.2 3, 2, .inl (fun k => bI (va_up (va_up (sfl v) 0 false) 1 false k)))) := ⟨_, rfl⟩
  have hC : Cu g lo 196 ad F2 ss ss.heap H locs := by rw [eF2]; exact (by rw [← upd_bZ (va_up (sfl v) 0 false) 1 false rfl]; exact hC)
  have k142_F2 : F2 142 = .inl (g.2.2 3, 2, .inl (fun k => bI (va_up (va_up (sfl v) 0 false) 1 false k))) := by rw [eF2]; exact va_up_self _ _ _
  have s0_F2 : F2 140 = .inr (6, [.ref (ad (141)), .ref (ad (142))]) := by rw [eF2, va_up_ne _ _ (by decide)]; exact s0_F1
  have s1_F2 : F2 141 = .inl (g.2.2 4, 2, .inr (.inr (.inr (.inr (fun k => some (ad (143 + 5 * k))))))) := by rw [eF2, va_up_ne _ _ (by decide)]; exact s1_F1
  refine lv_iinc (v := nI 2) (lv' := [(1, .int (nI 2)), (0, .ref (ad (140)))]) B.1 B.2.1 dX6_forgetAll_14 hl (k := 0) rfl (by decide) (by decide) rfl (fun ls hl => ?_)
  refine lv_goto (tgt := 2) B.1 B.2.1 dX6_forgetAll_17 (by decide) ?_
  refine lv_iload_n B.1 B.2.1 dX6_forgetAll_2 rfl (lv_at hl 0 rfl) ?_
  refine lv_iconst (v := nI 2) B.1 B.2.1 dX6_forgetAll_3 (by decide) ?_
  refine lv_icmp_ge (tgt := 20) B.1 B.2.1 dX6_forgetAll_4 (by decide) (fun _ => ?_) (fun z => absurd (nI_le (by omega) (by omega)) z)
  exact r_eV B hC (⟨⟨s0_F2, s1_F2, k142_F2, fun k hk => (sL k hk).at (fun i h1 h2 => by rw [eF2, va_up_ne _ _ (by omega)]; rw [eF1, va_up_ne _ _ (by omega)])⟩, fun i h1 => by rw [eF2, va_up_ne _ _ (by omega)]; rw [eF1, va_up_ne _ _ (by omega)]⟩) dX6_forgetAll_20
