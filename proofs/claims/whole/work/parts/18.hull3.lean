/-! HULL: how long she floats -/
/-- no WATCH changes anything at p but water -/
def rest1 (h : HV) (w : LV) (p : Nat) : Bool := match ti w p with
  | none => true
  | some t => !decide (0 < wo w t) && !hangV h w p
def restTo (h : HV) (w : LV) : Nat → Bool
  | 0 => true
  | p + 1 => restTo h w p && rest1 h w p
theorem restTo_f {h : HV} {w : LV} {k : Nat} (q : restTo h w k = false) : ∀ d, restTo h w (k + d) = false
  | 0 => q
  | d + 1 => by
    show (restTo h w (k + d) && _) = false
    rw [restTo_f q d]; rfl
def restN (h : HV) (w : LV) : Nat := if hpu h < leakV h w then (hho h - wa w) / (leakV h w - hpu h) else 99
theorem restN_le {h : HV} {w : LV} (ok : HOK h) : restN h w ≤ 99 := by
  unfold restN
  split
  · exact Nat.le_trans (Nat.div_le_self _ _) (by have := ok.2.2.1; omega)
  · exact Nat.le_refl _
def floatG (h : HV) : Nat → Nat → LV → Nat
  | 0, _, _ => 99
  | k + 1, s, w => if restTo h w (hn h) = true then min 99 (s + restN h w) else if su (watchV h w) = true then s else floatG h k (s + 1) (watchV h w)
def floatsV (h : HV) (w : LV) : Nat := if su w = true then 0 else floatG h 99 0 w
theorem nI_sub_le0 {a b : Nat} (ha : a < 2 ^ 30) (hb : b < 2 ^ 30) : nI a - nI b ≤ 0 ↔ a ≤ b := by
  rw [Int32.le_iff_toInt_le, pk_sub_toInt ha hb, Int32.toInt_zero]; omega
theorem min_nI {a b : Nat} (ha : a < 2 ^ 30) (hb : b < 2 ^ 30) : (if nI b < nI a then nI b else nI a) = nI (min a b) := by
  by_cases h : b < a
  · rw [if_pos (nI_lt h (by omega)), Nat.min_eq_right (by omega)]
  · rw [if_neg (nI_nlt (by omega) (by omega)), Nat.min_eq_left (by omega)]
theorem iwX2_isAtRest_X2 : ∀ w ∈ u_ws RX2 TX2 7, w ∈ wsX2_isAtRest := by decide +kernel
theorem flX2_isAtRest_24 : Cond.fieldLink RX2 24 RX2 (TX2 4).2.1 (TX2 4).2.2.1 ∈ wsX2_isAtRest := by decide +kernel
set_option maxHeartbeats 4000000 in
set_option maxRecDepth 100000 in
theorem ctX2_isAtRest (l : Launch) (g : Gx) (lo : Nat) (ad : Nat → Nat) {F : Nat → va_E} {h : HV} (hH : HullC g ad F h) (ok : HOK h) {b : Nat} {w : LV} (hb : 8 ≤ b ∧ b + 5 ≤ 196) (hL : LoadC g ad F b w) (hw : LOK h w) : MI l g lo 196 ad yX2_isAtRest wsX2_isAtRest 2 43 [.ref (ad (3)), .ref (ad (b))] F (fun r F' => r = bI (restTo h w (hn h)) ∧ F' = F) := by
  obtain ⟨g0, g1, g2, g3, g4⟩ := id hH
  have okn := ok.1
  have okp := ok.2.1
  have okh := ok.2.2.1
  obtain ⟨h0, h1, h2, h3, h4⟩ := id hL
  refine enter (cc := cX2_isAtRest) (maxL := 3) (ret := some .boolean) (own := RX2) (by decide +kernel) rfl rfl (Nat.le_of_ble_eq_true rfl) ?_
  intro pp ee ss mm below meth cc B hini hC ls hl
  have hl : lv_has ls 3 [(0, .ref (ad (3))), (1, .ref (ad (b)))] := hl
  refine lv_iconst (v := nI 0) B.1 B.2.1 dX2_isAtRest_0 (by decide) ?_
  refine lv_istore_n (lv' := [(2, .int (nI 0)), (0, .ref (ad (3))), (1, .ref (ad (b)))]) B.1 B.2.1 dX2_isAtRest_1 rfl hl (by decide) rfl (fun ls hl => ?_)
  have loop2 : ∀ (k : Nat) (p : Nat), (p + k = hn h) → (restTo h w p = true) → ∀ (H : Heap) (locs : List Loc) (ls : Array Slot), Cu g lo 196 ad F ss ss.heap H locs → lv_has ls 3 [(2, .int (nI p)), (0, .ref (ad (3))), (1, .ref (ad (b)))] → W pp l ee { frames := 2, cells := 0, slots := 0, locals := 43 } ss mm ([.ref (ad (3)), .ref (ad (b))] : List Value).toArray below meth cc H locs 0 0 (MQ below (va_Qi (fun r F' => r = bI (restTo h w (hn h)) ∧ F' = F) (fun F' t => Wd g lo 196 ad F' t) (fun q => lo ≤ q)) ([.ref (ad (3)), .ref (ad (b))] : List Value).toArray ss 0 0 (fun q => lo ≤ q)) (F0 mm 2 ls []) := by
    intro k
    induction k with
    | zero =>
      intro p hpk hr H locs ls hC hl
      refine lv_iload_n B.1 B.2.1 dX2_isAtRest_2 rfl (lv_at hl 0 rfl) ?_
      refine lv_aload_n B.1 B.2.1 dX2_isAtRest_3 rfl (lv_at hl 1 rfl) ?_
      refine r_cg B hC (i := 3) (by decide) g0 (C := RX2) (T := TX2) (n := 7) rfl iwX2_isAtRest_X2 4 (by decide) (index := 24) flX2_isAtRest_24 rfl (v := .int (nI (hn h))) rfl dX2_isAtRest_4 ?_
      refine lv_icmp_ge (tgt := 47) B.1 B.2.1 dX2_isAtRest_7 (by decide) (fun _ => ?_) (fun z => absurd (nI_le (by omega) (by omega)) z)
      refine lv_iconst (v := nI 1) B.1 B.2.1 dX2_isAtRest_47 (by decide) ?_
      exact r_eZ B hC (v := nI 1) (rfl) (⟨by rw [show hn h = p by omega, hr]; rfl, rfl⟩) dX2_isAtRest_48
    | succ k ih2 =>
      intro p hpk hr H locs ls hC hl
      refine lv_iload_n B.1 B.2.1 dX2_isAtRest_2 rfl (lv_at hl 0 rfl) ?_
      refine lv_aload_n B.1 B.2.1 dX2_isAtRest_3 rfl (lv_at hl 1 rfl) ?_
      refine r_cg B hC (i := 3) (by decide) g0 (C := RX2) (T := TX2) (n := 7) rfl iwX2_isAtRest_X2 4 (by decide) (index := 24) flX2_isAtRest_24 rfl (v := .int (nI (hn h))) rfl dX2_isAtRest_4 ?_
      refine lv_icmp_ge (tgt := 47) B.1 B.2.1 dX2_isAtRest_7 (by decide) (fun z => absurd z (nI_ge (by omega) (by omega))) (fun _ => ?_)
      refine lv_aload_n B.1 B.2.1 dX2_isAtRest_10 rfl (lv_at hl 2 rfl) ?_
      refine lv_aload_n B.1 B.2.1 dX2_isAtRest_11 rfl (lv_at hl 2 rfl) ?_
      refine lv_iload_n B.1 B.2.1 dX2_isAtRest_12 rfl (lv_at hl 0 rfl) ?_
      refine r_calli B hC hl.1 (b) 3 rfl rfl (by omega) h0 (As := [.int (nI p)]) (ctX3_timberIn l g lo ad hb hL (t := p) (by omega)) gX2_isAtRest_X3_timberIn rfl (n := 1) rfl (by decide +kernel) ⟨Nat.le_of_ble_eq_true rfl, Nat.le_of_ble_eq_true rfl⟩ ⟨Nat.zero_le _, Nat.zero_le _⟩ rfl (Nat.le_of_ble_eq_true rfl) dX2_isAtRest_13 (fun r13 F1 H locs hp13 hC => ?_)
      obtain ⟨er, eF⟩ := hp13
      subst er
      rw [eF] at hC
      rcases ht0 : ti w p with _ | t
      · refine r_tI (y := (-9)) rfl ?_
        refine r_calli B hC hl.1 (b) 3 rfl rfl (by omega) h0 (As := [.int ((-9))]) (ctX3_wormsIn_none l g lo ad hb hL) gX2_isAtRest_X3_wormsIn rfl (n := 1) rfl (by decide +kernel) ⟨Nat.le_of_ble_eq_true rfl, Nat.le_of_ble_eq_true rfl⟩ ⟨Nat.zero_le _, Nat.zero_le _⟩ rfl (Nat.le_of_ble_eq_true rfl) dX2_isAtRest_16 (fun r16 F1 H locs hp16 hC => ?_)
        obtain ⟨er, eF⟩ := hp16
        subst er
        rw [eF] at hC
        refine lv_if_gt (tgt := 39) B.1 B.2.1 dX2_isAtRest_19 (by decide) (fun z => absurd z (nI_ngt0 (by omega))) (fun _ => ?_)
        refine lv_aload_n B.1 B.2.1 dX2_isAtRest_22 rfl (lv_at hl 2 rfl) ?_
        refine lv_iload_n B.1 B.2.1 dX2_isAtRest_23 rfl (lv_at hl 0 rfl) ?_
        refine r_calli B hC hl.1 (b) 3 rfl rfl (by omega) h0 (As := [.int (nI p)]) (ctX3_isOpen l g lo ad hb hL (t := p) (by omega) (hw.t10 (by omega))) gX2_isAtRest_X3_isOpen rfl (n := 1) rfl (by decide +kernel) ⟨Nat.le_of_ble_eq_true rfl, Nat.le_of_ble_eq_true rfl⟩ ⟨Nat.zero_le _, Nat.zero_le _⟩ rfl (Nat.le_of_ble_eq_true rfl) dX2_isAtRest_24 (fun r24 F1 H locs hp24 hC => ?_)
        obtain ⟨er, eF⟩ := hp24
        subst er
        rw [eF] at hC
        refine lv_if_ne (tgt := 41) B.1 B.2.1 dX2_isAtRest_27 (by decide) (fun _ => ?_) (fun z => absurd z (by rw [ht0]; decide))
        refine lv_iinc (v := nI (p + 1)) (lv' := [(2, .int (nI (p + 1))), (0, .ref (ad (3))), (1, .ref (ad (b)))]) B.1 B.2.1 dX2_isAtRest_41 hl (k := 0) rfl (nI_1 _) (by decide) rfl (fun ls hl => ?_)
        refine lv_goto (tgt := 2) B.1 B.2.1 dX2_isAtRest_44 (by decide) ?_
        exact ih2 (p + 1) (by omega) (by simp [restTo, hr, rest1, ht0]) _ _ ls hC (lv_sub hl [0, 1, 2] rfl)
      · have ht10 := hw.t10 (by omega) t ht0
        have hwo := (hw.1 t).2.2
        refine r_tI (y := nI t) rfl ?_
        refine r_calli B hC hl.1 (b) 3 rfl rfl (by omega) h0 (As := [.int (nI t)]) (ctX3_wormsIn_some l g lo ad hb hL (t := t) ht10) gX2_isAtRest_X3_wormsIn rfl (n := 1) rfl (by decide +kernel) ⟨Nat.le_of_ble_eq_true rfl, Nat.le_of_ble_eq_true rfl⟩ ⟨Nat.zero_le _, Nat.zero_le _⟩ rfl (Nat.le_of_ble_eq_true rfl) dX2_isAtRest_16 (fun r16 F1 H locs hp16 hC => ?_)
        obtain ⟨er, eF⟩ := hp16
        subst er
        rw [eF] at hC
        refine lv_if_gt (tgt := 39) B.1 B.2.1 dX2_isAtRest_19 (by decide) (fun c_19 => ?_) (fun c_19 => ?_)
        · have q_19 : 0 < wo w t := Nat.pos_of_ne_zero (fun z => nI_ngt0 z c_19)
          refine lv_iconst (v := nI 0) B.1 B.2.1 dX2_isAtRest_39 (by decide) ?_
          exact r_eZ B hC (v := nI 0) (rfl) (⟨by
      have z1 : restTo h w (p + 1) = false := by simp [restTo, rest1, ht0, q_19]
      have z2 := restTo_f z1 k
      rw [show p + 1 + k = hn h by omega] at z2
      rw [z2]; rfl, rfl⟩) dX2_isAtRest_40
        · have q_19 : wo w t = 0 := Nat.le_zero.mp (Nat.not_lt.mp (fun z => c_19 (nI_gt0 z (by omega))))
          refine lv_aload_n B.1 B.2.1 dX2_isAtRest_22 rfl (lv_at hl 2 rfl) ?_
          refine lv_iload_n B.1 B.2.1 dX2_isAtRest_23 rfl (lv_at hl 0 rfl) ?_
          refine r_calli B hC hl.1 (b) 3 rfl rfl (by omega) h0 (As := [.int (nI p)]) (ctX3_isOpen l g lo ad hb hL (t := p) (by omega) (hw.t10 (by omega))) gX2_isAtRest_X3_isOpen rfl (n := 1) rfl (by decide +kernel) ⟨Nat.le_of_ble_eq_true rfl, Nat.le_of_ble_eq_true rfl⟩ ⟨Nat.zero_le _, Nat.zero_le _⟩ rfl (Nat.le_of_ble_eq_true rfl) dX2_isAtRest_24 (fun r24 F1 H locs hp24 hC => ?_)
          obtain ⟨er, eF⟩ := hp24
          subst er
          rw [eF] at hC
          refine lv_if_ne (tgt := 41) B.1 B.2.1 dX2_isAtRest_27 (by decide) (fun z => absurd (by rw [ht0]; rfl) z) (fun _ => ?_)
          refine lv_aload_n B.1 B.2.1 dX2_isAtRest_30 rfl (lv_at hl 1 rfl) ?_
          refine lv_iload_n B.1 B.2.1 dX2_isAtRest_31 rfl (lv_at hl 0 rfl) ?_
          refine lv_aload_n B.1 B.2.1 dX2_isAtRest_32 rfl (lv_at hl 2 rfl) ?_
          refine r_calli B hC hl.1 (3) 2 rfl rfl (by decide) g0 (As := [.int (nI p), .ref (ad (b))]) (ctX2_hangsInAir l g lo ad hH ok hb hL hw (p := p) (by omega)) gX2_isAtRest_X2_hangsInAir rfl (n := 2) rfl (by decide +kernel) ⟨Nat.le_of_ble_eq_true rfl, Nat.le_of_ble_eq_true rfl⟩ ⟨Nat.zero_le _, Nat.zero_le _⟩ rfl (Nat.le_of_ble_eq_true rfl) dX2_isAtRest_33 (fun r33 F1 H locs hp33 hC => ?_)
          obtain ⟨er, eF⟩ := hp33
          subst er
          rw [eF] at hC
          refine lv_if_eq (tgt := 41) B.1 B.2.1 dX2_isAtRest_36 (by decide) (fun c_36 => ?_) (fun c_36 => ?_)
          · have q_36 : (hangV h w p) = false := bI_f.mp c_36
            refine lv_iinc (v := nI (p + 1)) (lv' := [(2, .int (nI (p + 1))), (0, .ref (ad (3))), (1, .ref (ad (b)))]) B.1 B.2.1 dX2_isAtRest_41 hl (k := 0) rfl (nI_1 _) (by decide) rfl (fun ls hl => ?_)
            refine lv_goto (tgt := 2) B.1 B.2.1 dX2_isAtRest_44 (by decide) ?_
            exact ih2 (p + 1) (by omega) (by simp [restTo, hr, rest1, ht0, q_19, q_36]) _ _ ls hC (lv_sub hl [0, 1, 2] rfl)
          · have q_36 : (hangV h w p) = true := bI_t.mp c_36
            refine lv_iconst (v := nI 0) B.1 B.2.1 dX2_isAtRest_39 (by decide) ?_
            exact r_eZ B hC (v := nI 0) (rfl) (⟨by
      have z1 : restTo h w (p + 1) = false := by simp [restTo, rest1, ht0, q_36]
      have z2 := restTo_f z1 k
      rw [show p + 1 + k = hn h by omega] at z2
      rw [z2]; rfl, rfl⟩) dX2_isAtRest_40
  exact loop2 (hn h) 0 (by omega) rfl _ _ ls hC (lv_sub hl [0, 1, 2] rfl)
theorem iwX2_watchesAtRest_X2 : ∀ w ∈ u_ws RX2 TX2 7, w ∈ wsX2_watchesAtRest := by decide +kernel
theorem flX2_watchesAtRest_28 : Cond.fieldLink RX2 28 RX2 (TX2 5).2.1 (TX2 5).2.2.1 ∈ wsX2_watchesAtRest := by decide +kernel
theorem flX2_watchesAtRest_31 : Cond.fieldLink RX2 31 RX2 (TX2 6).2.1 (TX2 6).2.2.1 ∈ wsX2_watchesAtRest := by decide +kernel
set_option maxHeartbeats 4000000 in
set_option maxRecDepth 100000 in
theorem ctX2_watchesAtRest (l : Launch) (g : Gx) (lo : Nat) (ad : Nat → Nat) {F : Nat → va_E} {h : HV} (hH : HullC g ad F h) (ok : HOK h) {b : Nat} {w : LV} (hb : 8 ≤ b ∧ b + 5 ≤ 196) (hL : LoadC g ad F b w) (hw : LOK h w) (hsu : su w = false) : MI l g lo 196 ad yX2_watchesAtRest wsX2_watchesAtRest 2 44 [.ref (ad (3)), .ref (ad (b))] F (fun r F' => r = nI (restN h w) ∧ F' = F) := by
  obtain ⟨g0, g1, g2, g3, g4⟩ := id hH
  have okn := ok.1
  have okp := ok.2.1
  have okh := ok.2.2.1
  obtain ⟨h0, h1, h2, h3, h4⟩ := id hL
  have hlk := leakV_le (w := w) ok
  have hwa := hw.2.2.1 hsu
  refine enter (cc := cX2_watchesAtRest) (maxL := 3) (ret := some .int) (own := RX2) (by decide +kernel) rfl rfl (Nat.le_of_ble_eq_true rfl) ?_
  intro pp ee ss mm below meth cc B hini hC ls hl
  have hl : lv_has ls 3 [(0, .ref (ad (3))), (1, .ref (ad (b)))] := hl
  refine lv_aload_n B.1 B.2.1 dX2_watchesAtRest_0 rfl (lv_at hl 0 rfl) ?_
  refine lv_aload_n B.1 B.2.1 dX2_watchesAtRest_1 rfl (lv_at hl 1 rfl) ?_
  refine r_calli B hC hl.1 (3) 2 rfl rfl (by decide) g0 (As := [.ref (ad (b))]) (ctX2_leakOf l g lo ad hH ok hb hL hw) gX2_watchesAtRest_X2_leakOf rfl (n := 1) rfl (by decide +kernel) ⟨Nat.le_of_ble_eq_true rfl, Nat.le_of_ble_eq_true rfl⟩ ⟨Nat.zero_le _, Nat.zero_le _⟩ rfl (Nat.le_of_ble_eq_true rfl) dX2_watchesAtRest_2 (fun r2 F1 H locs hp2 hC => ?_)
  obtain ⟨er, eF⟩ := hp2
  subst er
  rw [eF] at hC
  refine lv_aload_n B.1 B.2.1 dX2_watchesAtRest_5 rfl (lv_at hl 0 rfl) ?_
  refine r_cg B hC (i := 3) (by decide) g0 (C := RX2) (T := TX2) (n := 7) rfl iwX2_watchesAtRest_X2 5 (by decide) (index := 28) flX2_watchesAtRest_28 rfl (v := .int (nI (hpu h))) rfl dX2_watchesAtRest_6 ?_
  refine lv_isub B.1 B.2.1 dX2_watchesAtRest_9 ?_
  refine r_tI (y := nI (leakV h w) - nI (hpu h)) (rfl) ?_
  refine lv_istore_n (lv' := [(2, .int (nI (leakV h w) - nI (hpu h))), (0, .ref (ad (3))), (1, .ref (ad (b)))]) B.1 B.2.1 dX2_watchesAtRest_10 rfl hl (by decide) rfl (fun ls hl => ?_)
  refine lv_iload_n B.1 B.2.1 dX2_watchesAtRest_11 rfl (lv_at hl 0 rfl) ?_
  refine lv_if_le (tgt := 29) B.1 B.2.1 dX2_watchesAtRest_12 (by decide) (fun c_12 => ?_) (fun c_12 => ?_)
  · have q_12 := (nI_sub_le0 (by omega) (by omega)).mp c_12
    refine lv_bipush (v := nI 99) B.1 B.2.1 dX2_watchesAtRest_29 (by decide) ?_
    exact r_eI B hC (v := nI 99) (⟨by rw [restN, if_neg (by omega)], rfl⟩) dX2_watchesAtRest_31
  · have q_12 : ¬ leakV h w ≤ hpu h := fun z => c_12 ((nI_sub_le0 (by omega) (by omega)).mpr z)
    refine lv_aload_n B.1 B.2.1 dX2_watchesAtRest_15 rfl (lv_at hl 1 rfl) ?_
    refine r_cg B hC (i := 3) (by decide) g0 (C := RX2) (T := TX2) (n := 7) rfl iwX2_watchesAtRest_X2 6 (by decide) (index := 31) flX2_watchesAtRest_31 rfl (v := .int (nI (hho h))) rfl dX2_watchesAtRest_16 ?_
    refine lv_aload_n B.1 B.2.1 dX2_watchesAtRest_19 rfl (lv_at hl 2 rfl) ?_
    refine r_calli B hC hl.1 (b) 3 rfl rfl (by omega) h0 (As := []) (ctX3_waterInside l g lo ad hb hL) gX2_watchesAtRest_X3_waterInside rfl (n := 0) rfl (by decide +kernel) ⟨Nat.le_of_ble_eq_true rfl, Nat.le_of_ble_eq_true rfl⟩ ⟨Nat.zero_le _, Nat.zero_le _⟩ rfl (Nat.le_of_ble_eq_true rfl) dX2_watchesAtRest_20 (fun r20 F1 H locs hp20 hC => ?_)
    obtain ⟨er, eF⟩ := hp20
    subst er
    rw [eF] at hC
    refine lv_isub B.1 B.2.1 dX2_watchesAtRest_23 ?_
    refine r_tI (y := nI ((hho h) - (wa w))) (pk_sub (by omega)) ?_
    refine lv_iload_n B.1 B.2.1 dX2_watchesAtRest_24 rfl (lv_at hl 0 rfl) ?_
    refine r_tI (y := nI (leakV h w - hpu h)) (pk_sub (by omega)) ?_
    refine lv_idiv B.1 B.2.1 dX2_watchesAtRest_25 (nI_ne0 (by omega) (by omega)) ?_
    refine r_tI (y := nI (((hho h) - (wa w)) / (leakV h w - hpu h))) (pk_div (by omega) (by omega) (by omega)) ?_
    refine lv_goto (tgt := 31) B.1 B.2.1 dX2_watchesAtRest_26 (by decide) ?_
    exact r_eI B hC (v := nI (((hho h) - (wa w)) / (leakV h w - hpu h))) (⟨by rw [restN, if_pos (by omega)], rfl⟩) dX2_watchesAtRest_31
theorem mwX2_watchesAfloat_138_0 : Cond.methodLink RX2 138 Lib.Math.min.name ∈ wsX2_watchesAfloat := by decide +kernel
theorem mwX2_watchesAfloat_138_1 : Cond.static Lib.Math.min.name ∈ wsX2_watchesAfloat := by decide +kernel
theorem mwX2_watchesAfloat_138_2 : Cond.initialized "java/lang/Math" ∈ wsX2_watchesAfloat := by decide +kernel
theorem mwX2_watchesAfloat_138_3 : Cond.code Lib.Math.min.name Lib.Math.min.code 2 (some .int) ∈ wsX2_watchesAfloat := by decide +kernel
set_option maxHeartbeats 4000000 in
set_option maxRecDepth 100000 in
theorem ctX2_watchesAfloat (l : Launch) (g : Gx) (lo : Nat) (ad : Nat → Nat) {F : Nat → va_E} {h : HV} (hH : HullC g ad F h) (ok : HOK h) {b : Nat} {w : LV} (hb : 8 ≤ b ∧ b + 5 ≤ 196) (hL : LoadC g ad F b w) (hw : LOK h w) : MI l g lo 196 ad yX2_watchesAfloat wsX2_watchesAfloat 4 86 [.ref (ad (3)), .ref (ad (b))] F (fun r F' => r = nI (floatsV h w) ∧ ∃ w', LoadC g ad F' b w' ∧ CAN w' ∧ Same b (b + 5) F F') := by
  obtain ⟨g0, g1, g2, g3, g4⟩ := id hH
  have okn := ok.1
  have okp := ok.2.1
  have okh := ok.2.2.1
  obtain ⟨h0, h1, h2, h3, h4⟩ := id hL
  refine enter (cc := cX2_watchesAfloat) (maxL := 3) (ret := some .int) (own := RX2) (by decide +kernel) rfl rfl (Nat.le_of_ble_eq_true rfl) ?_
  intro pp ee ss mm below meth cc B hini hC ls hl
  have hl : lv_has ls 3 [(0, .ref (ad (3))), (1, .ref (ad (b)))] := hl
  refine lv_aload_n B.1 B.2.1 dX2_watchesAfloat_0 rfl (lv_at hl 1 rfl) ?_
  refine r_calli B hC hl.1 (b) 3 rfl rfl (by omega) h0 (As := []) (ctX3_isSunk l g lo ad hb hL) gX2_watchesAfloat_X3_isSunk rfl (n := 0) rfl (by decide +kernel) ⟨Nat.le_of_ble_eq_true rfl, Nat.le_of_ble_eq_true rfl⟩ ⟨Nat.zero_le _, Nat.zero_le _⟩ rfl (Nat.le_of_ble_eq_true rfl) dX2_watchesAfloat_1 (fun r1 F1 H locs hp1 hC => ?_)
  obtain ⟨er, eF⟩ := hp1
  subst er
  rw [eF] at hC
  refine lv_if_eq (tgt := 9) B.1 B.2.1 dX2_watchesAfloat_4 (by decide) (fun c_4 => ?_) (fun c_4 => ?_)
  · have q_4 : (su w) = false := bI_f.mp c_4
    refine lv_iconst (v := nI 0) B.1 B.2.1 dX2_watchesAfloat_9 (by decide) ?_
    refine lv_istore_n (lv' := [(2, .int (nI 0)), (0, .ref (ad (3))), (1, .ref (ad (b)))]) B.1 B.2.1 dX2_watchesAfloat_10 rfl hl (by decide) rfl (fun ls hl => ?_)
    have loop11 : ∀ (k : Nat) (s : Nat) (u : LV) (G : Nat → va_E), (s + k = 99) → (LoadC g ad G b u) → (HullC g ad G h) → (LOK h u) → (Same b (b + 5) F G) → (su u = false) → (floatsV h w = floatG h k s u) → ∀ (H : Heap) (locs : List Loc) (ls : Array Slot), Cu g lo 196 ad G ss ss.heap H locs → lv_has ls 3 [(2, .int (nI s)), (0, .ref (ad (3))), (1, .ref (ad (b)))] → W pp l ee { frames := 4, cells := 0, slots := 0, locals := 86 } ss mm ([.ref (ad (3)), .ref (ad (b))] : List Value).toArray below meth cc H locs 0 0 (MQ below (va_Qi (fun r F' => r = nI (floatsV h w) ∧ ∃ w', LoadC g ad F' b w' ∧ CAN w' ∧ Same b (b + 5) F F') (fun F' t => Wd g lo 196 ad F' t) (fun q => lo ≤ q)) ([.ref (ad (3)), .ref (ad (b))] : List Value).toArray ss 0 0 (fun q => lo ≤ q)) (F0 mm 11 ls []) := by
      intro k
      induction k with
      | zero =>
        intro s u G hpk hLG hHG hu hs hsu he H locs ls hC hl
        obtain ⟨g0, g1, g2, g3, g4⟩ := id hHG
        obtain ⟨h0, h1, h2, h3, h4⟩ := id hLG
        have hrn := restN_le (w := u) ok
        refine lv_iload_n B.1 B.2.1 dX2_watchesAfloat_11 rfl (lv_at hl 0 rfl) ?_
        refine lv_bipush (v := nI 99) B.1 B.2.1 dX2_watchesAfloat_12 (by decide) ?_
        refine lv_icmp_ge (tgt := 58) B.1 B.2.1 dX2_watchesAfloat_14 (by decide) (fun _ => ?_) (fun z => absurd (nI_le (by omega) (by omega)) z)
        refine lv_bipush (v := nI 99) B.1 B.2.1 dX2_watchesAfloat_58 (by decide) ?_
        exact r_eI B hC (v := nI 99) (⟨by rw [he, floatG], u, hLG, hu.can, hs⟩) dX2_watchesAfloat_60
      | succ k ih11 =>
        intro s u G hpk hLG hHG hu hs hsu he H locs ls hC hl
        obtain ⟨g0, g1, g2, g3, g4⟩ := id hHG
        obtain ⟨h0, h1, h2, h3, h4⟩ := id hLG
        have hrn := restN_le (w := u) ok
        refine lv_iload_n B.1 B.2.1 dX2_watchesAfloat_11 rfl (lv_at hl 0 rfl) ?_
        refine lv_bipush (v := nI 99) B.1 B.2.1 dX2_watchesAfloat_12 (by decide) ?_
        refine lv_icmp_ge (tgt := 58) B.1 B.2.1 dX2_watchesAfloat_14 (by decide) (fun z => absurd z (nI_ge (by omega) (by omega))) (fun _ => ?_)
        refine lv_aload_n B.1 B.2.1 dX2_watchesAfloat_17 rfl (lv_at hl 1 rfl) ?_
        refine lv_aload_n B.1 B.2.1 dX2_watchesAfloat_18 rfl (lv_at hl 2 rfl) ?_
        refine r_calli B hC hl.1 (3) 2 rfl rfl (by decide) g0 (As := [.ref (ad (b))]) (ctX2_isAtRest l g lo ad hHG ok hb hLG hu) gX2_watchesAfloat_X2_isAtRest rfl (n := 1) rfl (by decide +kernel) ⟨Nat.le_of_ble_eq_true rfl, Nat.le_of_ble_eq_true rfl⟩ ⟨Nat.zero_le _, Nat.zero_le _⟩ rfl (Nat.le_of_ble_eq_true rfl) dX2_watchesAfloat_19 (fun r19 F21 H locs hp19 hC => ?_)
        obtain ⟨er, eF⟩ := hp19
        subst er
        rw [eF] at hC
        refine lv_if_eq (tgt := 38) B.1 B.2.1 dX2_watchesAfloat_22 (by decide) (fun c_22 => ?_) (fun c_22 => ?_)
        · have q_22 : (restTo h u (hn h)) = false := bI_f.mp c_22
          refine lv_aload_n B.1 B.2.1 dX2_watchesAfloat_38 rfl (lv_at hl 1 rfl) ?_
          refine lv_aload_n B.1 B.2.1 dX2_watchesAfloat_39 rfl (lv_at hl 2 rfl) ?_
          refine r_callv B hC hl.1 (3) 2 rfl rfl (by decide) g0 (As := [.ref (ad (b))]) (ctX2_passWatch l g lo ad hHG ok hb hLG hu hsu) gX2_watchesAfloat_X2_passWatch rfl (n := 1) rfl (by decide +kernel) ⟨Nat.le_of_ble_eq_true rfl, Nat.le_of_ble_eq_true rfl⟩ ⟨Nat.zero_le _, Nat.zero_le _⟩ rfl (Nat.le_of_ble_eq_true rfl) dX2_watchesAfloat_40 (fun F21 H locs hp40 hC => ?_)
          obtain ⟨hL_F21, hs_F21⟩ := hp40
          have hH_F21 := HullC.keep hHG hs_F21 (by omega)
          have hw_F21 : LOK h (watchV h u) := LOK_watch ok hu hsu
          obtain ⟨h0_F21, h1_F21, h2_F21, h3_F21, h4_F21⟩ := id hL_F21
          obtain ⟨g0_F21, g1_F21, g2_F21, g3_F21, g4_F21⟩ := id hH_F21
          refine lv_aload_n B.1 B.2.1 dX2_watchesAfloat_43 rfl (lv_at hl 2 rfl) ?_
          refine r_calli B hC hl.1 (b) 3 rfl rfl (by omega) h0_F21 (As := []) (ctX3_isSunk l g lo ad hb hL_F21) gX2_watchesAfloat_X3_isSunk rfl (n := 0) rfl (by decide +kernel) ⟨Nat.le_of_ble_eq_true rfl, Nat.le_of_ble_eq_true rfl⟩ ⟨Nat.zero_le _, Nat.zero_le _⟩ rfl (Nat.le_of_ble_eq_true rfl) dX2_watchesAfloat_44 (fun r44 F22 H locs hp44 hC => ?_)
          obtain ⟨er, eF⟩ := hp44
          subst er
          rw [eF] at hC
          refine lv_if_eq (tgt := 52) B.1 B.2.1 dX2_watchesAfloat_47 (by decide) (fun c_47 => ?_) (fun c_47 => ?_)
          · have q_47 : (su (watchV h u)) = false := bI_f.mp c_47
            refine lv_iinc (v := nI (s + 1)) (lv' := [(2, .int (nI (s + 1))), (0, .ref (ad (3))), (1, .ref (ad (b)))]) B.1 B.2.1 dX2_watchesAfloat_52 hl (k := 0) rfl (nI_1 _) (by decide) rfl (fun ls hl => ?_)
            refine lv_goto (tgt := 11) B.1 B.2.1 dX2_watchesAfloat_55 (by decide) ?_
            exact ih11 (s + 1) (watchV h u) F21 (by omega) hL_F21 hH_F21 hw_F21 (Same.tr2 (Same.wide hs (by omega) (by omega)) hs_F21 (by omega) (by omega)) q_47 (by rw [he, floatG, if_neg (by rw [q_22]; decide), if_neg (by rw [q_47]; decide)]) _ _ ls hC (lv_sub hl [0, 1, 2] rfl)
          · have q_47 : (su (watchV h u)) = true := bI_t.mp c_47
            refine lv_iload_n B.1 B.2.1 dX2_watchesAfloat_50 rfl (lv_at hl 0 rfl) ?_
            exact r_eI B hC (v := nI s) (⟨by rw [he, floatG, if_neg (by rw [q_22]; decide), if_pos q_47], _, hL_F21, (hw_F21).can, (Same.tr2 (Same.wide hs (by omega) (by omega)) hs_F21 (by omega) (by omega))⟩) dX2_watchesAfloat_51
        · have q_22 : (restTo h u (hn h)) = true := bI_t.mp c_22
          refine lv_bipush (v := nI 99) B.1 B.2.1 dX2_watchesAfloat_25 (by decide) ?_
          refine lv_iload_n B.1 B.2.1 dX2_watchesAfloat_27 rfl (lv_at hl 0 rfl) ?_
          refine lv_aload_n B.1 B.2.1 dX2_watchesAfloat_28 rfl (lv_at hl 1 rfl) ?_
          refine lv_aload_n B.1 B.2.1 dX2_watchesAfloat_29 rfl (lv_at hl 2 rfl) ?_
          refine r_calli B hC hl.1 (3) 2 rfl rfl (by decide) g0 (As := [.ref (ad (b))]) (ctX2_watchesAtRest l g lo ad hHG ok hb hLG hu hsu) gX2_watchesAfloat_X2_watchesAtRest rfl (n := 1) rfl (by decide +kernel) ⟨Nat.le_of_ble_eq_true rfl, Nat.le_of_ble_eq_true rfl⟩ ⟨Nat.zero_le _, Nat.zero_le _⟩ rfl (Nat.le_of_ble_eq_true rfl) dX2_watchesAfloat_30 (fun r30 F21 H locs hp30 hC => ?_)
          obtain ⟨er, eF⟩ := hp30
          subst er
          rw [eF] at hC
          refine lv_iadd B.1 B.2.1 dX2_watchesAfloat_33 ?_
          refine r_tI (y := nI (s + (restN h u))) (nI_add _ _) ?_
          refine r_min B hl.1 mwX2_watchesAfloat_138_0 mwX2_watchesAfloat_138_1 mwX2_watchesAfloat_138_2 mwX2_watchesAfloat_138_3 (Nat.le_of_ble_eq_true rfl) (Nat.le_of_ble_eq_true rfl) (Nat.zero_le _) (Nat.zero_le _) dX2_watchesAfloat_34 ?_
          refine r_tI (y := nI (min 99 (s + restN h u))) (min_nI (by omega) (by omega)) ?_
          exact r_eI B hC (v := nI (min 99 (s + restN h u))) (⟨by rw [he, floatG, if_pos q_22], u, hLG, hu.can, hs⟩) dX2_watchesAfloat_37
    exact loop11 99 0 w F rfl hL hH hw Same.rf q_4 (by rw [floatsV, if_neg (by rw [q_4]; decide)]) _ _ ls hC (lv_sub hl [0, 1, 2] rfl)
  · have q_4 : (su w) = true := bI_t.mp c_4
    refine lv_iconst (v := nI 0) B.1 B.2.1 dX2_watchesAfloat_7 (by decide) ?_
    exact r_eI B hC (v := nI 0) (⟨by rw [floatsV, if_pos q_4], w, hL, hw.can, Same.rf⟩) dX2_watchesAfloat_8
