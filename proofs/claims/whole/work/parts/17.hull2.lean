/-! HULL: what changes a Load -/
set_option maxHeartbeats 4000000 in
set_option maxRecDepth 100000 in
theorem ctX2_bringInto (l : Launch) (g : Gx) (lo : Nat) (ad : Nat → Nat) {F : Nat → va_E} {h : HV} (hH : HullC g ad F h) (ok : HOK h) {b : Nat} {w : LV} (hb : 8 ≤ b ∧ b + 5 ≤ 196) (hL : LoadC g ad F b w) (hw : LOK h w) {t p : Nat} (ht : t < 10) (hp : p < hn h) : MV l g lo 196 ad yX2_bringInto wsX2_bringInto 1 23 [.ref (ad (3)), .int (nI t), .int (nI p), .ref (ad (b))] F (fun F' => LoadC g ad F' b (cutV' h w t p) ∧ Same b (b + 5) F F') := by
  obtain ⟨g0, g1, g2, g3, g4⟩ := id hH
  have okn := ok.1
  have okp := ok.2.1
  have okh := ok.2.2.1
  obtain ⟨h0, h1, h2, h3, h4⟩ := id hL
  have hwt := (hw.1 t).1
  refine enter (cc := cX2_bringInto) (maxL := 4) (ret := none) (own := RX2) (by decide +kernel) rfl rfl (Nat.le_of_ble_eq_true rfl) ?_
  intro pp ee ss mm below meth cc B hini hC ls hl
  have hl : lv_has ls 4 [(0, .ref (ad (3))), (1, .int (nI t)), (2, .int (nI p)), (3, .ref (ad (b)))] := hl
  refine lv_aload_n B.1 B.2.1 dX2_bringInto_0 rfl (lv_at hl 3 rfl) ?_
  refine lv_iload_n B.1 B.2.1 dX2_bringInto_1 rfl (lv_at hl 1 rfl) ?_
  refine lv_iload_n B.1 B.2.1 dX2_bringInto_2 rfl (lv_at hl 2 rfl) ?_
  refine r_callv B hC hl.1 (b) 3 rfl rfl (by omega) h0 (As := [.int (nI t), .int (nI p)]) (ctX3_bringTo l g lo ad hb hL (t := t) (x := p) ht hwt (by omega)) gX2_bringInto_X3_bringTo rfl (n := 2) rfl (by decide +kernel) ⟨Nat.le_of_ble_eq_true rfl, Nat.le_of_ble_eq_true rfl⟩ ⟨Nat.zero_le _, Nat.zero_le _⟩ rfl (Nat.le_of_ble_eq_true rfl) dX2_bringInto_3 (fun F1 H locs hp3 hC => ?_)
  obtain ⟨hL_F1, hs_F1⟩ := hp3
  have hH_F1 := HullC.keep hH hs_F1 (by omega)
  obtain ⟨h0_F1, h1_F1, h2_F1, h3_F1, h4_F1⟩ := id hL_F1
  obtain ⟨g0_F1, g1_F1, g2_F1, g3_F1, g4_F1⟩ := id hH_F1
  refine lv_aload_n B.1 B.2.1 dX2_bringInto_6 rfl (lv_at hl 3 rfl) ?_
  refine lv_iload_n B.1 B.2.1 dX2_bringInto_7 rfl (lv_at hl 1 rfl) ?_
  refine lv_aload_n B.1 B.2.1 dX2_bringInto_8 rfl (lv_at hl 0 rfl) ?_
  refine lv_iload_n B.1 B.2.1 dX2_bringInto_9 rfl (lv_at hl 2 rfl) ?_
  refine r_calli B hC hl.1 (3) 2 rfl rfl (by decide) g0_F1 (As := [.int (nI p)]) (ctX2_lengthOf l g lo ad hH_F1 ok (p := p) (by omega)) gX2_bringInto_X2_lengthOf rfl (n := 1) rfl (by decide +kernel) ⟨Nat.le_of_ble_eq_true rfl, Nat.le_of_ble_eq_true rfl⟩ ⟨Nat.zero_le _, Nat.zero_le _⟩ rfl (Nat.le_of_ble_eq_true rfl) dX2_bringInto_10 (fun r10 F2 H locs hp10 hC => ?_)
  obtain ⟨er, eF⟩ := hp10
  subst er
  rw [eF] at hC
  refine r_callv B hC hl.1 (b) 3 rfl rfl (by omega) h0_F1 (As := [.int (nI t), .int (nI (hle h p))]) (ctX3_cutTo l g lo ad hb hL_F1 (t := t) (x := hle h p) ht) gX2_bringInto_X3_cutTo rfl (n := 2) rfl (by decide +kernel) ⟨Nat.le_of_ble_eq_true rfl, Nat.le_of_ble_eq_true rfl⟩ ⟨Nat.zero_le _, Nat.zero_le _⟩ rfl (Nat.le_of_ble_eq_true rfl) dX2_bringInto_13 (fun F2 H locs hp13 hC => ?_)
  obtain ⟨hL_F2, hs_F2⟩ := hp13
  have hH_F2 := HullC.keep hH_F1 hs_F2 (by omega)
  obtain ⟨h0_F2, h1_F2, h2_F2, h3_F2, h4_F2⟩ := id hL_F2
  obtain ⟨g0_F2, g1_F2, g2_F2, g3_F2, g4_F2⟩ := id hH_F2
  exact r_eV B hC (⟨hL_F2, (Same.tr2 (Same.wide hs_F1 (by omega) (by omega)) hs_F2 (by omega) (by omega))⟩) dX2_bringInto_16
theorem iwX2_letComeDown_X2 : ∀ w ∈ u_ws RX2 TX2 7, w ∈ wsX2_letComeDown := by decide +kernel
theorem flX2_letComeDown_24 : Cond.fieldLink RX2 24 RX2 (TX2 4).2.1 (TX2 4).2.2.1 ∈ wsX2_letComeDown := by decide +kernel
set_option maxHeartbeats 4000000 in
set_option maxRecDepth 100000 in
theorem ctX2_letComeDown (l : Launch) (g : Gx) (lo : Nat) (ad : Nat → Nat) {F : Nat → va_E} {h : HV} (hH : HullC g ad F h) (ok : HOK h) {b : Nat} {w : LV} (hb : 8 ≤ b ∧ b + 5 ≤ 196) (hL : LoadC g ad F b w) (hw : LOK h w) : MV l g lo 196 ad yX2_letComeDown wsX2_letComeDown 2 43 [.ref (ad (3)), .ref (ad (b))] F (fun F' => LoadC g ad F' b (downTo h w (hn h)) ∧ Same b (b + 5) F F') := by
  obtain ⟨g0, g1, g2, g3, g4⟩ := id hH
  have okn := ok.1
  have okp := ok.2.1
  have okh := ok.2.2.1
  obtain ⟨h0, h1, h2, h3, h4⟩ := id hL
  refine enter (cc := cX2_letComeDown) (maxL := 3) (ret := none) (own := RX2) (by decide +kernel) rfl rfl (Nat.le_of_ble_eq_true rfl) ?_
  intro pp ee ss mm below meth cc B hini hC ls hl
  have hl : lv_has ls 3 [(0, .ref (ad (3))), (1, .ref (ad (b)))] := hl
  refine lv_iconst (v := nI 0) B.1 B.2.1 dX2_letComeDown_0 (by decide) ?_
  refine lv_istore_n (lv' := [(2, .int (nI 0)), (0, .ref (ad (3))), (1, .ref (ad (b)))]) B.1 B.2.1 dX2_letComeDown_1 rfl hl (by decide) rfl (fun ls hl => ?_)
  have loop2 : ∀ (k : Nat) (p : Nat) (u : LV) (G : Nat → va_E), (p + k = hn h) → (LoadC g ad G b u) → (HullC g ad G h) → (LOK h u) → (Same b (b + 5) F G) → (u = downTo h w p) → ∀ (H : Heap) (locs : List Loc) (ls : Array Slot), Cu g lo 196 ad G ss ss.heap H locs → lv_has ls 3 [(2, .int (nI p)), (0, .ref (ad (3))), (1, .ref (ad (b)))] → W pp l ee { frames := 2, cells := 0, slots := 0, locals := 43 } ss mm ([.ref (ad (3)), .ref (ad (b))] : List Value).toArray below meth cc H locs 0 0 (MQ below (va_Qv (fun F' => LoadC g ad F' b (downTo h w (hn h)) ∧ Same b (b + 5) F F') (fun F' t => Wd g lo 196 ad F' t) (fun q => lo ≤ q)) ([.ref (ad (3)), .ref (ad (b))] : List Value).toArray ss 0 0 (fun q => lo ≤ q)) (F0 mm 2 ls []) := by
    intro k
    induction k with
    | zero =>
      intro p u G hpk hLG hHG hu hs hu0 H locs ls hC hl
      obtain ⟨g0, g1, g2, g3, g4⟩ := id hHG
      obtain ⟨h0, h1, h2, h3, h4⟩ := id hLG
      refine lv_iload_n B.1 B.2.1 dX2_letComeDown_2 rfl (lv_at hl 0 rfl) ?_
      refine lv_aload_n B.1 B.2.1 dX2_letComeDown_3 rfl (lv_at hl 1 rfl) ?_
      refine r_cg B hC (i := 3) (by decide) g0 (C := RX2) (T := TX2) (n := 7) rfl iwX2_letComeDown_X2 4 (by decide) (index := 24) flX2_letComeDown_24 rfl (v := .int (nI (hn h))) rfl dX2_letComeDown_4 ?_
      refine lv_icmp_ge (tgt := 44) B.1 B.2.1 dX2_letComeDown_7 (by decide) (fun _ => ?_) (fun z => absurd (nI_le (by omega) (by omega)) z)
      exact r_eV B hC (⟨by rw [show hn h = p by omega, ← hu0]; exact hLG, hs⟩) dX2_letComeDown_44
    | succ k ih2 =>
      intro p u G hpk hLG hHG hu hs hu0 H locs ls hC hl
      obtain ⟨g0, g1, g2, g3, g4⟩ := id hHG
      obtain ⟨h0, h1, h2, h3, h4⟩ := id hLG
      refine lv_iload_n B.1 B.2.1 dX2_letComeDown_2 rfl (lv_at hl 0 rfl) ?_
      refine lv_aload_n B.1 B.2.1 dX2_letComeDown_3 rfl (lv_at hl 1 rfl) ?_
      refine r_cg B hC (i := 3) (by decide) g0 (C := RX2) (T := TX2) (n := 7) rfl iwX2_letComeDown_X2 4 (by decide) (index := 24) flX2_letComeDown_24 rfl (v := .int (nI (hn h))) rfl dX2_letComeDown_4 ?_
      refine lv_icmp_ge (tgt := 44) B.1 B.2.1 dX2_letComeDown_7 (by decide) (fun z => absurd z (nI_ge (by omega) (by omega))) (fun _ => ?_)
      refine lv_aload_n B.1 B.2.1 dX2_letComeDown_10 rfl (lv_at hl 2 rfl) ?_
      refine lv_iload_n B.1 B.2.1 dX2_letComeDown_11 rfl (lv_at hl 0 rfl) ?_
      refine r_calli B hC hl.1 (b) 3 rfl rfl (by omega) h0 (As := [.int (nI p)]) (ctX3_isOpen l g lo ad hb hLG (t := p) (by omega) (hu.t10 (by omega))) gX2_letComeDown_X3_isOpen rfl (n := 1) rfl (by decide +kernel) ⟨Nat.le_of_ble_eq_true rfl, Nat.le_of_ble_eq_true rfl⟩ ⟨Nat.zero_le _, Nat.zero_le _⟩ rfl (Nat.le_of_ble_eq_true rfl) dX2_letComeDown_12 (fun r12 F21 H locs hp12 hC => ?_)
      obtain ⟨er, eF⟩ := hp12
      subst er
      rw [eF] at hC
      refine lv_if_ne (tgt := 38) B.1 B.2.1 dX2_letComeDown_15 (by decide) (fun c_15 => ?_) (fun c_15 => ?_)
      · have q_15 : (ti u p).isNone = true := bI_t.mp c_15
        have q_16 : ti u p = none := Option.isNone_iff_eq_none.mp q_15
        refine lv_iinc (v := nI (p + 1)) (lv' := [(2, .int (nI (p + 1))), (0, .ref (ad (3))), (1, .ref (ad (b)))]) B.1 B.2.1 dX2_letComeDown_38 hl (k := 0) rfl (nI_1 _) (by decide) rfl (fun ls hl => ?_)
        refine lv_goto (tgt := 2) B.1 B.2.1 dX2_letComeDown_41 (by decide) ?_
        exact ih2 (p + 1) u G (by omega) hLG hHG hu hs (by rw [downTo, ← hu0, down1, q_16]) _ _ ls hC (lv_sub hl [0, 1, 2] rfl)
      · have q_15 : (ti u p).isNone = false := bI_f.mp c_15
        obtain ⟨t, ht0⟩ : ∃ t, ti u p = some t := by cases hh : ti u p <;> simp_all
        have ht10 := hu.t10 (by omega) t ht0
        refine lv_aload_n B.1 B.2.1 dX2_letComeDown_18 rfl (lv_at hl 1 rfl) ?_
        refine lv_iload_n B.1 B.2.1 dX2_letComeDown_19 rfl (lv_at hl 0 rfl) ?_
        refine lv_aload_n B.1 B.2.1 dX2_letComeDown_20 rfl (lv_at hl 2 rfl) ?_
        refine r_calli B hC hl.1 (3) 2 rfl rfl (by decide) g0 (As := [.int (nI p), .ref (ad (b))]) (ctX2_hangsInAir l g lo ad hHG ok hb hLG hu (p := p) (by omega)) gX2_letComeDown_X2_hangsInAir rfl (n := 2) rfl (by decide +kernel) ⟨Nat.le_of_ble_eq_true rfl, Nat.le_of_ble_eq_true rfl⟩ ⟨Nat.zero_le _, Nat.zero_le _⟩ rfl (Nat.le_of_ble_eq_true rfl) dX2_letComeDown_21 (fun r21 F21 H locs hp21 hC => ?_)
        obtain ⟨er, eF⟩ := hp21
        subst er
        rw [eF] at hC
        refine lv_if_eq (tgt := 38) B.1 B.2.1 dX2_letComeDown_24 (by decide) (fun c_24 => ?_) (fun c_24 => ?_)
        · have q_24 : (hangV h u p) = false := bI_f.mp c_24
          refine lv_iinc (v := nI (p + 1)) (lv' := [(2, .int (nI (p + 1))), (0, .ref (ad (3))), (1, .ref (ad (b)))]) B.1 B.2.1 dX2_letComeDown_38 hl (k := 0) rfl (nI_1 _) (by decide) rfl (fun ls hl => ?_)
          refine lv_goto (tgt := 2) B.1 B.2.1 dX2_letComeDown_41 (by decide) ?_
          exact ih2 (p + 1) u G (by omega) hLG hHG hu hs (by rw [downTo, ← hu0, down1, ht0]; simp [q_24]) _ _ ls hC (lv_sub hl [0, 1, 2] rfl)
        · have q_24 : (hangV h u p) = true := bI_t.mp c_24
          refine lv_aload_n B.1 B.2.1 dX2_letComeDown_27 rfl (lv_at hl 2 rfl) ?_
          refine lv_aload_n B.1 B.2.1 dX2_letComeDown_28 rfl (lv_at hl 2 rfl) ?_
          refine lv_iload_n B.1 B.2.1 dX2_letComeDown_29 rfl (lv_at hl 0 rfl) ?_
          refine r_calli B hC hl.1 (b) 3 rfl rfl (by omega) h0 (As := [.int (nI p)]) (ctX3_timberIn l g lo ad hb hLG (t := p) (by omega)) gX2_letComeDown_X3_timberIn rfl (n := 1) rfl (by decide +kernel) ⟨Nat.le_of_ble_eq_true rfl, Nat.le_of_ble_eq_true rfl⟩ ⟨Nat.zero_le _, Nat.zero_le _⟩ rfl (Nat.le_of_ble_eq_true rfl) dX2_letComeDown_30 (fun r30 F21 H locs hp30 hC => ?_)
          obtain ⟨er, eF⟩ := hp30
          subst er
          rw [eF] at hC
          refine r_tI (y := nI t) (by rw [ht0]; rfl) ?_
          refine lv_bipush (v := nI 100) B.1 B.2.1 dX2_letComeDown_33 (by decide) ?_
          refine r_callv B hC hl.1 (b) 3 rfl rfl (by omega) h0 (As := [.int (nI t), .int (nI 100)]) (ctX3_bringTo l g lo ad hb hLG (t := t) (x := 100) ht10 (hu.1 t).1 (by decide)) gX2_letComeDown_X3_bringTo rfl (n := 2) rfl (by decide +kernel) ⟨Nat.le_of_ble_eq_true rfl, Nat.le_of_ble_eq_true rfl⟩ ⟨Nat.zero_le _, Nat.zero_le _⟩ rfl (Nat.le_of_ble_eq_true rfl) dX2_letComeDown_35 (fun F21 H locs hp35 hC => ?_)
          obtain ⟨hL_F21, hs_F21⟩ := hp35
          have hH_F21 := HullC.keep hHG hs_F21 (by omega)
          have hw_F21 : LOK h (bringV u t 100) := LOK_bring ok hu (hu.in_ ok (by omega) ht0) (Or.inr ⟨hu.2.2.2.2.2.2.1 t ht10 (by have := (hu.tn ok (by omega) ht0).2.1; omega), Or.inl rfl⟩)
          obtain ⟨h0_F21, h1_F21, h2_F21, h3_F21, h4_F21⟩ := id hL_F21
          obtain ⟨g0_F21, g1_F21, g2_F21, g3_F21, g4_F21⟩ := id hH_F21
          refine lv_iinc (v := nI (p + 1)) (lv' := [(2, .int (nI (p + 1))), (0, .ref (ad (3))), (1, .ref (ad (b)))]) B.1 B.2.1 dX2_letComeDown_38 hl (k := 0) rfl (nI_1 _) (by decide) rfl (fun ls hl => ?_)
          refine lv_goto (tgt := 2) B.1 B.2.1 dX2_letComeDown_41 (by decide) ?_
          exact ih2 (p + 1) (bringV u t 100) F21 (by omega) hL_F21 hH_F21 hw_F21 (Same.tr2 (Same.wide hs (by omega) (by omega)) hs_F21 (by omega) (by omega)) (by rw [downTo, ← hu0, down1, ht0]; simp [q_24]) _ _ ls hC (lv_sub hl [0, 1, 2] rfl)
  exact loop2 (hn h) 0 w F (by omega) hL hH hw Same.rf rfl _ _ ls hC (lv_sub hl [0, 1, 2] rfl)
theorem iwX2_letWormsEat_X2 : ∀ w ∈ u_ws RX2 TX2 7, w ∈ wsX2_letWormsEat := by decide +kernel
theorem flX2_letWormsEat_24 : Cond.fieldLink RX2 24 RX2 (TX2 4).2.1 (TX2 4).2.2.1 ∈ wsX2_letWormsEat := by decide +kernel
set_option maxHeartbeats 4000000 in
set_option maxRecDepth 100000 in
theorem ctX2_letWormsEat (l : Launch) (g : Gx) (lo : Nat) (ad : Nat → Nat) {F : Nat → va_E} {h : HV} (hH : HullC g ad F h) (ok : HOK h) {b : Nat} {w : LV} (hb : 8 ≤ b ∧ b + 5 ≤ 196) (hL : LoadC g ad F b w) (hw : LOK h w) : MV l g lo 196 ad yX2_letWormsEat wsX2_letWormsEat 1 23 [.ref (ad (3)), .ref (ad (b))] F (fun F' => LoadC g ad F' b (wormTo w (hn h)) ∧ Same b (b + 5) F F') := by
  obtain ⟨g0, g1, g2, g3, g4⟩ := id hH
  have okn := ok.1
  have okp := ok.2.1
  have okh := ok.2.2.1
  obtain ⟨h0, h1, h2, h3, h4⟩ := id hL
  refine enter (cc := cX2_letWormsEat) (maxL := 4) (ret := none) (own := RX2) (by decide +kernel) rfl rfl (Nat.le_of_ble_eq_true rfl) ?_
  intro pp ee ss mm below meth cc B hini hC ls hl
  have hl : lv_has ls 4 [(0, .ref (ad (3))), (1, .ref (ad (b)))] := hl
  refine lv_iconst (v := nI 0) B.1 B.2.1 dX2_letWormsEat_0 (by decide) ?_
  refine lv_istore_n (lv' := [(2, .int (nI 0)), (0, .ref (ad (3))), (1, .ref (ad (b)))]) B.1 B.2.1 dX2_letWormsEat_1 rfl hl (by decide) rfl (fun ls hl => ?_)
  have loop2 : ∀ (k : Nat) (p : Nat) (u : LV) (G : Nat → va_E), (p + k = hn h) → (LoadC g ad G b u) → (HullC g ad G h) → (LOK h u) → (Same b (b + 5) F G) → (u = wormTo w p) → ∀ (H : Heap) (locs : List Loc) (ls : Array Slot), Cu g lo 196 ad G ss ss.heap H locs → lv_has ls 4 [(2, .int (nI p)), (0, .ref (ad (3))), (1, .ref (ad (b)))] → W pp l ee { frames := 1, cells := 0, slots := 0, locals := 23 } ss mm ([.ref (ad (3)), .ref (ad (b))] : List Value).toArray below meth cc H locs 0 0 (MQ below (va_Qv (fun F' => LoadC g ad F' b (wormTo w (hn h)) ∧ Same b (b + 5) F F') (fun F' t => Wd g lo 196 ad F' t) (fun q => lo ≤ q)) ([.ref (ad (3)), .ref (ad (b))] : List Value).toArray ss 0 0 (fun q => lo ≤ q)) (F0 mm 2 ls []) := by
    intro k
    induction k with
    | zero =>
      intro p u G hpk hLG hHG hu hs hu0 H locs ls hC hl
      obtain ⟨g0, g1, g2, g3, g4⟩ := id hHG
      obtain ⟨h0, h1, h2, h3, h4⟩ := id hLG
      refine lv_iload_n B.1 B.2.1 dX2_letWormsEat_2 rfl (lv_at hl 0 rfl) ?_
      refine lv_aload_n B.1 B.2.1 dX2_letWormsEat_3 rfl (lv_at hl 1 rfl) ?_
      refine r_cg B hC (i := 3) (by decide) g0 (C := RX2) (T := TX2) (n := 7) rfl iwX2_letWormsEat_X2 4 (by decide) (index := 24) flX2_letWormsEat_24 rfl (v := .int (nI (hn h))) rfl dX2_letWormsEat_4 ?_
      refine lv_icmp_ge (tgt := 53) B.1 B.2.1 dX2_letWormsEat_7 (by decide) (fun _ => ?_) (fun z => absurd (nI_le (by omega) (by omega)) z)
      exact r_eV B hC (⟨by rw [show hn h = p by omega, ← hu0]; exact hLG, hs⟩) dX2_letWormsEat_53
    | succ k ih2 =>
      intro p u G hpk hLG hHG hu hs hu0 H locs ls hC hl
      obtain ⟨g0, g1, g2, g3, g4⟩ := id hHG
      obtain ⟨h0, h1, h2, h3, h4⟩ := id hLG
      refine lv_iload_n B.1 B.2.1 dX2_letWormsEat_2 rfl (lv_at hl 0 rfl) ?_
      refine lv_aload_n B.1 B.2.1 dX2_letWormsEat_3 rfl (lv_at hl 1 rfl) ?_
      refine r_cg B hC (i := 3) (by decide) g0 (C := RX2) (T := TX2) (n := 7) rfl iwX2_letWormsEat_X2 4 (by decide) (index := 24) flX2_letWormsEat_24 rfl (v := .int (nI (hn h))) rfl dX2_letWormsEat_4 ?_
      refine lv_icmp_ge (tgt := 53) B.1 B.2.1 dX2_letWormsEat_7 (by decide) (fun z => absurd z (nI_ge (by omega) (by omega))) (fun _ => ?_)
      refine lv_aload_n B.1 B.2.1 dX2_letWormsEat_10 rfl (lv_at hl 2 rfl) ?_
      refine lv_iload_n B.1 B.2.1 dX2_letWormsEat_11 rfl (lv_at hl 0 rfl) ?_
      refine r_calli B hC hl.1 (b) 3 rfl rfl (by omega) h0 (As := [.int (nI p)]) (ctX3_timberIn l g lo ad hb hLG (t := p) (by omega)) gX2_letWormsEat_X3_timberIn rfl (n := 1) rfl (by decide +kernel) ⟨Nat.le_of_ble_eq_true rfl, Nat.le_of_ble_eq_true rfl⟩ ⟨Nat.zero_le _, Nat.zero_le _⟩ rfl (Nat.le_of_ble_eq_true rfl) dX2_letWormsEat_12 (fun r12 F21 H locs hp12 hC => ?_)
      obtain ⟨er, eF⟩ := hp12
      subst er
      rw [eF] at hC
      rcases ht0 : ti u p with _ | t
      · refine r_tI (y := (-9)) rfl ?_
        refine lv_istore_n (lv' := [(3, .int ((-9))), (2, .int (nI p)), (0, .ref (ad (3))), (1, .ref (ad (b)))]) B.1 B.2.1 dX2_letWormsEat_15 rfl hl (by decide) rfl (fun ls hl => ?_)
        refine lv_aload_n B.1 B.2.1 dX2_letWormsEat_16 rfl (lv_at hl 3 rfl) ?_
        refine lv_iload_n B.1 B.2.1 dX2_letWormsEat_17 rfl (lv_at hl 0 rfl) ?_
        refine r_calli B hC hl.1 (b) 3 rfl rfl (by omega) h0 (As := [.int ((-9))]) (ctX3_wormsIn_none l g lo ad hb hLG) gX2_letWormsEat_X3_wormsIn rfl (n := 1) rfl (by decide +kernel) ⟨Nat.le_of_ble_eq_true rfl, Nat.le_of_ble_eq_true rfl⟩ ⟨Nat.zero_le _, Nat.zero_le _⟩ rfl (Nat.le_of_ble_eq_true rfl) dX2_letWormsEat_18 (fun r18 F21 H locs hp18 hC => ?_)
        obtain ⟨er, eF⟩ := hp18
        subst er
        rw [eF] at hC
        refine lv_if_le (tgt := 47) B.1 B.2.1 dX2_letWormsEat_21 (by decide) (fun _ => ?_) (fun z => absurd (nI_le0 (by omega)) z)
        refine lv_iinc (v := nI (p + 1)) (lv' := [(2, .int (nI (p + 1))), (3, .int ((-9))), (0, .ref (ad (3))), (1, .ref (ad (b)))]) B.1 B.2.1 dX2_letWormsEat_47 hl (k := 1) rfl (nI_1 _) (by decide) rfl (fun ls hl => ?_)
        refine lv_goto (tgt := 2) B.1 B.2.1 dX2_letWormsEat_50 (by decide) ?_
        exact ih2 (p + 1) u G (by omega) hLG hHG hu hs (by rw [wormTo, ← hu0, worm1, ht0]) _ _ ls hC (lv_sub hl [0, 2, 3] rfl)
      · have ht10 := hu.t10 (by omega) t ht0
        have hwo := (hu.1 t).2.2
        have hw1 := worm_wo u t
        refine r_tI (y := nI t) rfl ?_
        refine lv_istore_n (lv' := [(3, .int (nI t)), (2, .int (nI p)), (0, .ref (ad (3))), (1, .ref (ad (b)))]) B.1 B.2.1 dX2_letWormsEat_15 rfl hl (by decide) rfl (fun ls hl => ?_)
        refine lv_aload_n B.1 B.2.1 dX2_letWormsEat_16 rfl (lv_at hl 3 rfl) ?_
        refine lv_iload_n B.1 B.2.1 dX2_letWormsEat_17 rfl (lv_at hl 0 rfl) ?_
        refine r_calli B hC hl.1 (b) 3 rfl rfl (by omega) h0 (As := [.int (nI t)]) (ctX3_wormsIn_some l g lo ad hb hLG (t := t) ht10) gX2_letWormsEat_X3_wormsIn rfl (n := 1) rfl (by decide +kernel) ⟨Nat.le_of_ble_eq_true rfl, Nat.le_of_ble_eq_true rfl⟩ ⟨Nat.zero_le _, Nat.zero_le _⟩ rfl (Nat.le_of_ble_eq_true rfl) dX2_letWormsEat_18 (fun r18 F21 H locs hp18 hC => ?_)
        obtain ⟨er, eF⟩ := hp18
        subst er
        rw [eF] at hC
        refine lv_if_le (tgt := 47) B.1 B.2.1 dX2_letWormsEat_21 (by decide) (fun c_21 => ?_) (fun c_21 => ?_)
        · have q_21 : wo u t = 0 := by have := (hu.1 t).2.2; exact Nat.not_lt.mp (fun z => absurd c_21 (nI_nle z (by omega))) |> Nat.le_zero.mp
          refine lv_iinc (v := nI (p + 1)) (lv' := [(2, .int (nI (p + 1))), (3, .int (nI t)), (0, .ref (ad (3))), (1, .ref (ad (b)))]) B.1 B.2.1 dX2_letWormsEat_47 hl (k := 1) rfl (nI_1 _) (by decide) rfl (fun ls hl => ?_)
          refine lv_goto (tgt := 2) B.1 B.2.1 dX2_letWormsEat_50 (by decide) ?_
          exact ih2 (p + 1) u G (by omega) hLG hHG hu hs (by rw [wormTo, ← hu0, worm1, ht0]; simp [q_21]) _ _ ls hC (lv_sub hl [0, 2, 3] rfl)
        · have q_21 : 0 < wo u t := Nat.pos_of_ne_zero (fun z => c_21 (nI_le0 z))
          refine lv_aload_n B.1 B.2.1 dX2_letWormsEat_24 rfl (lv_at hl 3 rfl) ?_
          refine lv_iload_n B.1 B.2.1 dX2_letWormsEat_25 rfl (lv_at hl 0 rfl) ?_
          refine r_callv B hC hl.1 (b) 3 rfl rfl (by omega) h0 (As := [.int (nI t)]) (ctX3_addWorm l g lo ad hb hLG (t := t) ht10) gX2_letWormsEat_X3_addWorm rfl (n := 1) rfl (by decide +kernel) ⟨Nat.le_of_ble_eq_true rfl, Nat.le_of_ble_eq_true rfl⟩ ⟨Nat.zero_le _, Nat.zero_le _⟩ rfl (Nat.le_of_ble_eq_true rfl) dX2_letWormsEat_26 (fun F21 H locs hp26 hC => ?_)
          obtain ⟨hL_F21, hs_F21⟩ := hp26
          have hH_F21 := HullC.keep hHG hs_F21 (by omega)
          obtain ⟨h0_F21, h1_F21, h2_F21, h3_F21, h4_F21⟩ := id hL_F21
          obtain ⟨g0_F21, g1_F21, g2_F21, g3_F21, g4_F21⟩ := id hH_F21
          refine lv_aload_n B.1 B.2.1 dX2_letWormsEat_29 rfl (lv_at hl 3 rfl) ?_
          refine lv_iload_n B.1 B.2.1 dX2_letWormsEat_30 rfl (lv_at hl 0 rfl) ?_
          refine r_calli B hC hl.1 (b) 3 rfl rfl (by omega) h0_F21 (As := [.int (nI t)]) (ctX3_wormsIn_some l g lo ad hb hL_F21 (t := t) ht10) gX2_letWormsEat_X3_wormsIn rfl (n := 1) rfl (by decide +kernel) ⟨Nat.le_of_ble_eq_true rfl, Nat.le_of_ble_eq_true rfl⟩ ⟨Nat.zero_le _, Nat.zero_le _⟩ rfl (Nat.le_of_ble_eq_true rfl) dX2_letWormsEat_31 (fun r31 F22 H locs hp31 hC => ?_)
          obtain ⟨er, eF⟩ := hp31
          subst er
          rw [eF] at hC
          refine lv_bipush (v := nI 10) B.1 B.2.1 dX2_letWormsEat_34 (by decide) ?_
          refine lv_icmp_lt (tgt := 47) B.1 B.2.1 dX2_letWormsEat_36 (by decide) (fun c_36 => ?_) (fun c_36 => ?_)
          · have q_36 : (wo (wormV u t) t) < 10 := (nI_ltI (by omega) (by omega)).mp c_36
            refine lv_iinc (v := nI (p + 1)) (lv' := [(2, .int (nI (p + 1))), (3, .int (nI t)), (0, .ref (ad (3))), (1, .ref (ad (b)))]) B.1 B.2.1 dX2_letWormsEat_47 hl (k := 1) rfl (nI_1 _) (by decide) rfl (fun ls hl => ?_)
            refine lv_goto (tgt := 2) B.1 B.2.1 dX2_letWormsEat_50 (by decide) ?_
            exact ih2 (p + 1) (wormV u t) F21 (by omega) hL_F21 hH_F21 (LOK_worm hu ht10 (by rw [worm_wo] at q_36; omega)) (Same.tr2 (Same.wide hs (by omega) (by omega)) hs_F21 (by omega) (by omega)) (by rw [wormTo, ← hu0, worm1, ht0]; simp only [if_pos q_21]; rw [if_neg (by omega)]) _ _ ls hC (lv_sub hl [0, 2, 3] rfl)
          · have q_36 : ¬ (wo (wormV u t) t) < 10 := fun z => c_36 ((nI_ltI (by omega) (by omega)).mpr z)
            refine lv_aload_n B.1 B.2.1 dX2_letWormsEat_39 rfl (lv_at hl 3 rfl) ?_
            refine lv_iload_n B.1 B.2.1 dX2_letWormsEat_40 rfl (lv_at hl 0 rfl) ?_
            refine lv_sipush (v := nI 200) B.1 B.2.1 dX2_letWormsEat_41 (by decide) ?_
            refine r_callv B hC hl.1 (b) 3 rfl rfl (by omega) h0_F21 (As := [.int (nI t), .int (nI 200)]) (ctX3_bringTo l g lo ad hb hL_F21 (t := t) (x := 200) ht10 (hu.1 t).1 (by decide)) gX2_letWormsEat_X3_bringTo rfl (n := 2) rfl (by decide +kernel) ⟨Nat.le_of_ble_eq_true rfl, Nat.le_of_ble_eq_true rfl⟩ ⟨Nat.zero_le _, Nat.zero_le _⟩ rfl (Nat.le_of_ble_eq_true rfl) dX2_letWormsEat_44 (fun F22 H locs hp44 hC => ?_)
            obtain ⟨hL_F22, hs_F22⟩ := hp44
            have hH_F22 := HullC.keep hH_F21 hs_F22 (by omega)
            have hw_F22 : LOK h (bringV (wormV u t) t 200) := LOK_worm10 ok hu (hu.in_ ok (by omega) ht0) (hu.2.2.2.2.2.2.1 t ht10 (by have := (hu.tn ok (by omega) ht0).2.1; omega))
            obtain ⟨h0_F22, h1_F22, h2_F22, h3_F22, h4_F22⟩ := id hL_F22
            obtain ⟨g0_F22, g1_F22, g2_F22, g3_F22, g4_F22⟩ := id hH_F22
            refine lv_iinc (v := nI (p + 1)) (lv' := [(2, .int (nI (p + 1))), (3, .int (nI t)), (0, .ref (ad (3))), (1, .ref (ad (b)))]) B.1 B.2.1 dX2_letWormsEat_47 hl (k := 1) rfl (nI_1 _) (by decide) rfl (fun ls hl => ?_)
            refine lv_goto (tgt := 2) B.1 B.2.1 dX2_letWormsEat_50 (by decide) ?_
            exact ih2 (p + 1) (bringV (wormV u t) t 200) F22 (by omega) hL_F22 hH_F22 hw_F22 (Same.tr2 (Same.tr2 (Same.wide hs (by omega) (by omega)) hs_F21 (by omega) (by omega)) hs_F22 (by omega) (by omega)) (by rw [wormTo, ← hu0, worm1, ht0]; simp only [if_pos q_21]; rw [if_pos (by omega)]) _ _ ls hC (lv_sub hl [0, 2, 3] rfl)
  exact loop2 (hn h) 0 w F (by omega) hL hH hw Same.rf rfl _ _ ls hC (lv_sub hl [0, 1, 2] rfl)
theorem iwX2_passWatch_X2 : ∀ w ∈ u_ws RX2 TX2 7, w ∈ wsX2_passWatch := by decide +kernel
theorem flX2_passWatch_28 : Cond.fieldLink RX2 28 RX2 (TX2 5).2.1 (TX2 5).2.2.1 ∈ wsX2_passWatch := by decide +kernel
theorem flX2_passWatch_31 : Cond.fieldLink RX2 31 RX2 (TX2 6).2.1 (TX2 6).2.2.1 ∈ wsX2_passWatch := by decide +kernel
theorem mwX2_passWatch_95_0 : Cond.methodLink RX2 95 Lib.Math.max.name ∈ wsX2_passWatch := by decide +kernel
theorem mwX2_passWatch_95_1 : Cond.static Lib.Math.max.name ∈ wsX2_passWatch := by decide +kernel
theorem mwX2_passWatch_95_2 : Cond.initialized "java/lang/Math" ∈ wsX2_passWatch := by decide +kernel
theorem mwX2_passWatch_95_3 : Cond.code Lib.Math.max.name Lib.Math.max.code 2 (some .int) ∈ wsX2_passWatch := by decide +kernel
set_option maxHeartbeats 4000000 in
set_option maxRecDepth 100000 in
theorem ctX2_passWatch (l : Launch) (g : Gx) (lo : Nat) (ad : Nat → Nat) {F : Nat → va_E} {h : HV} (hH : HullC g ad F h) (ok : HOK h) {b : Nat} {w : LV} (hb : 8 ≤ b ∧ b + 5 ≤ 196) (hL : LoadC g ad F b w) (hw : LOK h w) (hsu : su w = false) : MV l g lo 196 ad yX2_passWatch wsX2_passWatch 3 65 [.ref (ad (3)), .ref (ad (b))] F (fun F' => LoadC g ad F' b (watchV h w) ∧ Same b (b + 5) F F') := by
  obtain ⟨g0, g1, g2, g3, g4⟩ := id hH
  have okn := ok.1
  have okp := ok.2.1
  have okh := ok.2.2.1
  obtain ⟨h0, h1, h2, h3, h4⟩ := id hL
  have hx300 := waterN_le ok hw hsu
  have hlk := leakV_le (w := w) ok
  have hwa := hw.2.1
  refine enter (cc := cX2_passWatch) (maxL := 2) (ret := none) (own := RX2) (by decide +kernel) rfl rfl (Nat.le_of_ble_eq_true rfl) ?_
  intro pp ee ss mm below meth cc B hini hC ls hl
  have hl : lv_has ls 2 [(0, .ref (ad (3))), (1, .ref (ad (b)))] := hl
  refine lv_aload_n B.1 B.2.1 dX2_passWatch_0 rfl (lv_at hl 1 rfl) ?_
  refine lv_iconst (v := nI 0) B.1 B.2.1 dX2_passWatch_1 (by decide) ?_
  refine lv_aload_n B.1 B.2.1 dX2_passWatch_2 rfl (lv_at hl 1 rfl) ?_
  refine r_calli B hC hl.1 (b) 3 rfl rfl (by omega) h0 (As := []) (ctX3_waterInside l g lo ad hb hL) gX2_passWatch_X3_waterInside rfl (n := 0) rfl (by decide +kernel) ⟨Nat.le_of_ble_eq_true rfl, Nat.le_of_ble_eq_true rfl⟩ ⟨Nat.zero_le _, Nat.zero_le _⟩ rfl (Nat.le_of_ble_eq_true rfl) dX2_passWatch_3 (fun r3 F1 H locs hp3 hC => ?_)
  obtain ⟨er, eF⟩ := hp3
  subst er
  rw [eF] at hC
  refine lv_aload_n B.1 B.2.1 dX2_passWatch_6 rfl (lv_at hl 0 rfl) ?_
  refine lv_aload_n B.1 B.2.1 dX2_passWatch_7 rfl (lv_at hl 1 rfl) ?_
  refine r_calli B hC hl.1 (3) 2 rfl rfl (by decide) g0 (As := [.ref (ad (b))]) (ctX2_leakOf l g lo ad hH ok hb hL hw) gX2_passWatch_X2_leakOf rfl (n := 1) rfl (by decide +kernel) ⟨Nat.le_of_ble_eq_true rfl, Nat.le_of_ble_eq_true rfl⟩ ⟨Nat.zero_le _, Nat.zero_le _⟩ rfl (Nat.le_of_ble_eq_true rfl) dX2_passWatch_8 (fun r8 F1 H locs hp8 hC => ?_)
  obtain ⟨er, eF⟩ := hp8
  subst er
  rw [eF] at hC
  refine lv_iadd B.1 B.2.1 dX2_passWatch_11 ?_
  refine r_tI (y := nI ((wa w) + (leakV h w))) (nI_add _ _) ?_
  refine lv_aload_n B.1 B.2.1 dX2_passWatch_12 rfl (lv_at hl 0 rfl) ?_
  refine r_cg B hC (i := 3) (by decide) g0 (C := RX2) (T := TX2) (n := 7) rfl iwX2_passWatch_X2 5 (by decide) (index := 28) flX2_passWatch_28 rfl (v := .int (nI (hpu h))) rfl dX2_passWatch_13 ?_
  refine lv_isub B.1 B.2.1 dX2_passWatch_16 ?_
  refine r_tI (y := nI (wa w + leakV h w) - nI (hpu h)) (rfl) ?_
  refine r_max B hl.1 mwX2_passWatch_95_0 mwX2_passWatch_95_1 mwX2_passWatch_95_2 mwX2_passWatch_95_3 (Nat.le_of_ble_eq_true rfl) (Nat.le_of_ble_eq_true rfl) (Nat.zero_le _) (Nat.zero_le _) dX2_passWatch_17 ?_
  refine r_tI (y := nI (waterN h w)) (max_sub (by omega) (by omega)) ?_
  refine r_callv B hC hl.1 (b) 3 rfl rfl (by omega) h0 (As := [.int (nI (waterN h w))]) (ctX3_setWater l g lo ad hb hL (x := waterN h w)) gX2_passWatch_X3_setWater rfl (n := 1) rfl (by decide +kernel) ⟨Nat.le_of_ble_eq_true rfl, Nat.le_of_ble_eq_true rfl⟩ ⟨Nat.zero_le _, Nat.zero_le _⟩ rfl (Nat.le_of_ble_eq_true rfl) dX2_passWatch_20 (fun F1 H locs hp20 hC => ?_)
  obtain ⟨hL_F1, hs_F1⟩ := hp20
  have hH_F1 := HullC.keep hH hs_F1 (by omega)
  obtain ⟨h0_F1, h1_F1, h2_F1, h3_F1, h4_F1⟩ := id hL_F1
  obtain ⟨g0_F1, g1_F1, g2_F1, g3_F1, g4_F1⟩ := id hH_F1
  refine lv_aload_n B.1 B.2.1 dX2_passWatch_23 rfl (lv_at hl 1 rfl) ?_
  refine r_calli B hC hl.1 (b) 3 rfl rfl (by omega) h0_F1 (As := []) (ctX3_waterInside l g lo ad hb hL_F1) gX2_passWatch_X3_waterInside rfl (n := 0) rfl (by decide +kernel) ⟨Nat.le_of_ble_eq_true rfl, Nat.le_of_ble_eq_true rfl⟩ ⟨Nat.zero_le _, Nat.zero_le _⟩ rfl (Nat.le_of_ble_eq_true rfl) dX2_passWatch_24 (fun r24 F2 H locs hp24 hC => ?_)
  obtain ⟨er, eF⟩ := hp24
  subst er
  rw [eF] at hC
  refine r_tI (y := nI (waterN h w)) (rfl) ?_
  refine lv_aload_n B.1 B.2.1 dX2_passWatch_27 rfl (lv_at hl 0 rfl) ?_
  refine r_cg B hC (i := 3) (by decide) g0_F1 (C := RX2) (T := TX2) (n := 7) rfl iwX2_passWatch_X2 6 (by decide) (index := 31) flX2_passWatch_31 rfl (v := .int (nI (hho h))) rfl dX2_passWatch_28 ?_
  refine lv_icmp_le (tgt := 39) B.1 B.2.1 dX2_passWatch_31 (by decide) (fun c_31 => ?_) (fun c_31 => ?_)
  · have q_31 : (waterN h w) ≤ (hho h) := (nI_leI (by omega) (by omega)).mp c_31
    refine lv_aload_n B.1 B.2.1 dX2_passWatch_39 rfl (lv_at hl 0 rfl) ?_
    refine lv_aload_n B.1 B.2.1 dX2_passWatch_40 rfl (lv_at hl 1 rfl) ?_
    have hw_F1 : LOK h (waterV w (waterN h w)) := LOK_water hw hx300 (fun _ => by omega)
    refine r_callv B hC hl.1 (3) 2 rfl rfl (by decide) g0_F1 (As := [.ref (ad (b))]) (ctX2_letWormsEat l g lo ad hH_F1 ok hb hL_F1 hw_F1) gX2_passWatch_X2_letWormsEat rfl (n := 1) rfl (by decide +kernel) ⟨Nat.le_of_ble_eq_true rfl, Nat.le_of_ble_eq_true rfl⟩ ⟨Nat.zero_le _, Nat.zero_le _⟩ rfl (Nat.le_of_ble_eq_true rfl) dX2_passWatch_41 (fun F2 H locs hp41 hC => ?_)
    obtain ⟨hL_F2, hs_F2⟩ := hp41
    have hH_F2 := HullC.keep hH_F1 hs_F2 (by omega)
    have hw_F2 : LOK h (wormTo (waterV w (waterN h w)) (hn h)) := LOK_wormTo ok hw_F1 ok.1
    obtain ⟨h0_F2, h1_F2, h2_F2, h3_F2, h4_F2⟩ := id hL_F2
    obtain ⟨g0_F2, g1_F2, g2_F2, g3_F2, g4_F2⟩ := id hH_F2
    refine lv_aload_n B.1 B.2.1 dX2_passWatch_44 rfl (lv_at hl 0 rfl) ?_
    refine lv_aload_n B.1 B.2.1 dX2_passWatch_45 rfl (lv_at hl 1 rfl) ?_
    refine r_callv B hC hl.1 (3) 2 rfl rfl (by decide) g0_F2 (As := [.ref (ad (b))]) (ctX2_letComeDown l g lo ad hH_F2 ok hb hL_F2 hw_F2) gX2_passWatch_X2_letComeDown rfl (n := 1) rfl (by decide +kernel) ⟨Nat.le_of_ble_eq_true rfl, Nat.le_of_ble_eq_true rfl⟩ ⟨Nat.zero_le _, Nat.zero_le _⟩ rfl (Nat.le_of_ble_eq_true rfl) dX2_passWatch_46 (fun F3 H locs hp46 hC => ?_)
    obtain ⟨hL_F3, hs_F3⟩ := hp46
    have hH_F3 := HullC.keep hH_F2 hs_F3 (by omega)
    obtain ⟨h0_F3, h1_F3, h2_F3, h3_F3, h4_F3⟩ := id hL_F3
    obtain ⟨g0_F3, g1_F3, g2_F3, g3_F3, g4_F3⟩ := id hH_F3
    exact r_eV B hC (⟨by rw [watchV, if_neg (by omega)]; exact hL_F3, (Same.tr2 (Same.tr2 (Same.wide hs_F1 (by omega) (by omega)) hs_F2 (by omega) (by omega)) hs_F3 (by omega) (by omega))⟩) dX2_passWatch_49
  · have q_31 : ¬ (waterN h w) ≤ (hho h) := fun z => c_31 ((nI_leI (by omega) (by omega)).mpr z)
    refine lv_aload_n B.1 B.2.1 dX2_passWatch_34 rfl (lv_at hl 1 rfl) ?_
    refine r_callv B hC hl.1 (b) 3 rfl rfl (by omega) h0_F1 (As := []) (ctX3_sink l g lo ad hb hL_F1) gX2_passWatch_X3_sink rfl (n := 0) rfl (by decide +kernel) ⟨Nat.le_of_ble_eq_true rfl, Nat.le_of_ble_eq_true rfl⟩ ⟨Nat.zero_le _, Nat.zero_le _⟩ rfl (Nat.le_of_ble_eq_true rfl) dX2_passWatch_35 (fun F2 H locs hp35 hC => ?_)
    obtain ⟨hL_F2, hs_F2⟩ := hp35
    have hH_F2 := HullC.keep hH_F1 hs_F2 (by omega)
    obtain ⟨h0_F2, h1_F2, h2_F2, h3_F2, h4_F2⟩ := id hL_F2
    obtain ⟨g0_F2, g1_F2, g2_F2, g3_F2, g4_F2⟩ := id hH_F2
    exact r_eV B hC (⟨by rw [watchV, if_pos (by omega)]; exact hL_F2, (Same.tr2 (Same.wide hs_F1 (by omega) (by omega)) hs_F2 (by omega) (by omega))⟩) dX2_passWatch_38
