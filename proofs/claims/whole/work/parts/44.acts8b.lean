/-! THE WHOLE OBJECT: take, put, move, keep, again -/
def takeA (x : XV) (p : Int32) : Int32 := if isP (xh x) p = true then (if su (xw x) = true then -3 else if takeV (xh x) (xw x) (ix p) = true then oI (ti (xw x) (ix p)) else -3) else -1
def takeN (x : XV) (p : Int32) : XV := if isP (xh x) p = true ∧ su (xw x) = false ∧ takeV (xh x) (xw x) (ix p) = true then actX x (bringV (xw x) ((ti (xw x) (ix p)).getD 0) 100) else x
def putB (x : XV) (t p : Nat) : Bool := !su (xw x) && (decide (wh (xw x) t = 100) && fitsV (xh x) (xw x) t p)
def moveB (x : XV) (t p : Nat) : Bool := !su (xw x) && mayV (xh x) (xw x) t p
def intoA (b : XV → Nat → Nat → Bool) (x : XV) (t p : Int32) : Int32 := if isP (xh x) t = true ∧ isP (xh x) p = true then (if b x (ix t) (ix p) = true then nI (hle (xh x) (ix p)) else -3) else -1
def intoN (b : XV → Nat → Nat → Bool) (x : XV) (t p : Int32) : XV := if (isP (xh x) t = true ∧ isP (xh x) p = true) ∧ b x (ix t) (ix p) = true then actX x (cutV' (xh x) (xw x) (ix t) (ix p)) else x
def keepA (x : XV) (s : Int32) : Int32 := if isS s = true then nI (wa (xw x)) else -1
def keepN (x : XV) (s : Int32) : XV := if isS s = true then keepX x (ix s) else x
def againA (x : XV) (s : Int32) : Int32 := if isS s = true then (if sfl (xs x) (ix s) = true then nI (wa (slo (xs x) (ix s))) else -3) else -1
def againN (x : XV) (s : Int32) : XV := if isS s = true ∧ sfl (xs x) (ix s) = true then againX x (ix s) else x
theorem iwX8_take_X8 : ∀ w ∈ u_ws RX8 TX8 8, w ∈ wsX8_take := by decide +kernel
theorem flX8_take_19 : Cond.fieldLink RX8 19 RX8 (TX8 1).2.1 (TX8 1).2.2.1 ∈ wsX8_take := by decide +kernel
theorem flX8_take_26 : Cond.fieldLink RX8 26 RX8 (TX8 2).2.1 (TX8 2).2.2.1 ∈ wsX8_take := by decide +kernel
theorem flX8_take_36 : Cond.fieldLink RX8 36 RX8 (TX8 4).2.1 (TX8 4).2.2.1 ∈ wsX8_take := by decide +kernel
set_option maxHeartbeats 4000000 in
set_option maxRecDepth 100000 in
theorem ctX8_take (l : Launch) (g : Gx) (lo : Nat) (ad : Nat → Nat) {F : Nat → va_E} {x : XV} (hX : XC g ad F x) (okx : XOK x) {p : Int32} : MI l g lo 196 ad yX8_take wsX8_take 3 82 [.ref (ad (0)), .int (p)] F (fun r F' => r = takeA x p ∧ XC g ad F' (takeN x p) ∧ Same 0 175 F F') := by
  obtain ⟨hP, hT, hH, hL, hA, hS, ⟨wt, hW, hct⟩, ⟨c, hCh⟩, ⟨fm, fo, hQ⟩, rv0, hR, okR⟩ := id hX
  obtain ⟨okT, okH, okL, okA, okS, okAu, okSu⟩ := id okx
  have okn := okH.1
  have okt := okT.1
  refine enter (cc := cX8_take) (maxL := 3) (ret := some .int) (own := RX8) (by decide +kernel) rfl rfl (Nat.le_of_ble_eq_true rfl) ?_
  intro pp ee ss mm below meth cc B hini hC ls hl
  have hl : lv_has ls 3 [(0, .ref (ad (0))), (1, .int (p))] := hl
  refine lv_aload_n B.1 B.2.1 dX8_take_0 rfl (lv_at hl 0 rfl) ?_
  refine r_cg B hC (i := 0) (by decide) hP (C := RX8) (T := TX8) (n := 8) rfl iwX8_take_X8 1 (by decide) (index := 19) flX8_take_19 rfl (v := .ref (ad (3))) rfl dX8_take_1 ?_
  refine lv_iload_n B.1 B.2.1 dX8_take_4 rfl (lv_at hl 1 rfl) ?_
  refine r_calli B hC hl.1 (3) 2 rfl rfl (by decide) (hH.1) (As := [.int (p)]) (ctX2_isPlace_any l g lo ad hH okH (x := p)) gX8_take_X2_isPlace rfl (n := 1) rfl (by decide +kernel) ⟨Nat.le_of_ble_eq_true rfl, Nat.le_of_ble_eq_true rfl⟩ ⟨Nat.zero_le _, Nat.zero_le _⟩ rfl (Nat.le_of_ble_eq_true rfl) dX8_take_5 (fun r5 F1 H locs hp5 hC => ?_)
  obtain ⟨er, eF⟩ := hp5
  subst er
  rw [eF] at hC
  refine lv_if_ne (tgt := 13) B.1 B.2.1 dX8_take_8 (by decide) (fun c_8 => ?_) (fun c_8 => ?_)
  · have q_8 : isP (xh x) p = true := bI_t.mp c_8
    obtain ⟨j, hj, ej⟩ := isP_t okH q_8
    have hj31 : j < 2 ^ 31 := by omega
    refine lv_aload_n B.1 B.2.1 dX8_take_13 rfl (lv_at hl 0 rfl) ?_
    refine r_cg B hC (i := 0) (by decide) hP (C := RX8) (T := TX8) (n := 8) rfl iwX8_take_X8 2 (by decide) (index := 26) flX8_take_26 rfl (v := .ref (ad (8))) rfl dX8_take_14 ?_
    refine r_calli B hC hl.1 (8) 3 rfl rfl (by decide) (hL.1) (As := []) (ctX3_isSunk l g lo ad (b := 8) (by decide) hL) gX8_take_X3_isSunk rfl (n := 0) rfl (by decide +kernel) ⟨Nat.le_of_ble_eq_true rfl, Nat.le_of_ble_eq_true rfl⟩ ⟨Nat.zero_le _, Nat.zero_le _⟩ rfl (Nat.le_of_ble_eq_true rfl) dX8_take_17 (fun r17 F1 H locs hp17 hC => ?_)
    obtain ⟨er, eF⟩ := hp17
    subst er
    rw [eF] at hC
    refine lv_if_ne (tgt := 38) B.1 B.2.1 dX8_take_20 (by decide) (fun c_20 => ?_) (fun c_20 => ?_)
    · have q_20 : (su (xw x)) = true := bI_t.mp c_20
      refine lv_bipush (v := (-3)) B.1 B.2.1 dX8_take_38 (by decide) ?_
      exact r_eI B hC (v := (-3)) (⟨by rw [takeA, if_pos q_8, if_pos q_20], by rw [takeN, if_neg (fun z => by rw [q_20] at z; exact absurd z.2.1 (by decide))]; exact hX, Same.rf⟩) dX8_take_40
    · have q_20 : (su (xw x)) = false := bI_f.mp c_20
      refine lv_aload_n B.1 B.2.1 dX8_take_23 rfl (lv_at hl 0 rfl) ?_
      refine r_cg B hC (i := 0) (by decide) hP (C := RX8) (T := TX8) (n := 8) rfl iwX8_take_X8 1 (by decide) (index := 19) flX8_take_19 rfl (v := .ref (ad (3))) rfl dX8_take_24 ?_
      refine lv_iload_n B.1 B.2.1 dX8_take_27 rfl (lv_at hl 1 rfl) ?_
      refine r_tI (y := nI j) (ej) ?_
      refine lv_aload_n B.1 B.2.1 dX8_take_28 rfl (lv_at hl 0 rfl) ?_
      refine r_cg B hC (i := 0) (by decide) hP (C := RX8) (T := TX8) (n := 8) rfl iwX8_take_X8 2 (by decide) (index := 26) flX8_take_26 rfl (v := .ref (ad (8))) rfl dX8_take_29 ?_
      refine r_calli B hC hl.1 (3) 2 rfl rfl (by decide) (hH.1) (As := [.int (nI j), .ref (ad (8))]) (ctX2_mayBeTakenFrom l g lo ad hH okH (b := 8) (by decide) hL okL (p := j) (by omega)) gX8_take_X2_mayBeTakenFrom rfl (n := 2) rfl (by decide +kernel) ⟨Nat.le_of_ble_eq_true rfl, Nat.le_of_ble_eq_true rfl⟩ ⟨Nat.zero_le _, Nat.zero_le _⟩ rfl (Nat.le_of_ble_eq_true rfl) dX8_take_32 (fun r32 F1 H locs hp32 hC => ?_)
      obtain ⟨er, eF⟩ := hp32
      subst er
      rw [eF] at hC
      refine lv_if_ne (tgt := 41) B.1 B.2.1 dX8_take_35 (by decide) (fun c_35 => ?_) (fun c_35 => ?_)
      · have q_35 : takeV (xh x) (xw x) j = true := bI_t.mp c_35
        obtain ⟨t, ht0⟩ : ∃ t, ti (xw x) j = some t := by unfold takeV at q_35; cases hh : ti (xw x) j <;> simp_all
        have ht10 := okL.t10 (by omega) t ht0
        refine lv_aload_n B.1 B.2.1 dX8_take_41 rfl (lv_at hl 0 rfl) ?_
        refine r_cg B hC (i := 0) (by decide) hP (C := RX8) (T := TX8) (n := 8) rfl iwX8_take_X8 4 (by decide) (index := 36) flX8_take_36 rfl (v := .ref (ad (18))) rfl dX8_take_42 ?_
        refine lv_aload_n B.1 B.2.1 dX8_take_45 rfl (lv_at hl 0 rfl) ?_
        refine r_cg B hC (i := 0) (by decide) hP (C := RX8) (T := TX8) (n := 8) rfl iwX8_take_X8 2 (by decide) (index := 26) flX8_take_26 rfl (v := .ref (ad (8))) rfl dX8_take_46 ?_
        refine r_callv B hC hl.1 (18) 0 rfl rfl (by decide) (hA.1) (As := [.ref (ad (8))]) (ctX0_remember l g lo ad hA okA hL okL.can) gX8_take_X0_remember rfl (n := 1) rfl (by decide +kernel) ⟨Nat.le_of_ble_eq_true rfl, Nat.le_of_ble_eq_true rfl⟩ ⟨Nat.zero_le _, Nat.zero_le _⟩ rfl (Nat.le_of_ble_eq_true rfl) dX8_take_49 (fun F1 H locs hp49 hC => ?_)
        obtain ⟨hA_F1, hs_F1⟩ := hp49
        refine lv_aload_n B.1 B.2.1 dX8_take_52 rfl (lv_at hl 0 rfl) ?_
        refine r_cg B hC (i := 0) (by decide) (TopC.at hP (fun i h1 h2 => by rw [hs_F1 i (by omega)])) (C := RX8) (T := TX8) (n := 8) rfl iwX8_take_X8 2 (by decide) (index := 26) flX8_take_26 rfl (v := .ref (ad (8))) rfl dX8_take_53 ?_
        refine lv_iload_n B.1 B.2.1 dX8_take_56 rfl (lv_at hl 1 rfl) ?_
        refine r_tI (y := nI j) (ej) ?_
        refine r_calli B hC hl.1 (8) 3 rfl rfl (by decide) ((LoadC.at hL (fun i h1 h2 => by rw [hs_F1 i (by omega)])).1) (As := [.int (nI j)]) (ctX3_timberIn l g lo ad (b := 8) (by decide) (LoadC.at hL (fun i h1 h2 => by rw [hs_F1 i (by omega)])) (t := j) (by omega)) gX8_take_X3_timberIn rfl (n := 1) rfl (by decide +kernel) ⟨Nat.le_of_ble_eq_true rfl, Nat.le_of_ble_eq_true rfl⟩ ⟨Nat.zero_le _, Nat.zero_le _⟩ rfl (Nat.le_of_ble_eq_true rfl) dX8_take_57 (fun r57 F2 H locs hp57 hC => ?_)
        obtain ⟨er, eF⟩ := hp57
        subst er
        rw [eF] at hC
        refine r_tI (y := nI t) (by rw [ht0]; rfl) ?_
        refine lv_istore_n (lv' := [(2, .int (nI t)), (0, .ref (ad (0))), (1, .int (p))]) B.1 B.2.1 dX8_take_60 rfl hl (by decide) rfl (fun ls hl => ?_)
        refine lv_aload_n B.1 B.2.1 dX8_take_61 rfl (lv_at hl 1 rfl) ?_
        refine r_cg B hC (i := 0) (by decide) (TopC.at hP (fun i h1 h2 => by rw [hs_F1 i (by omega)])) (C := RX8) (T := TX8) (n := 8) rfl iwX8_take_X8 2 (by decide) (index := 26) flX8_take_26 rfl (v := .ref (ad (8))) rfl dX8_take_62 ?_
        refine lv_iload_n B.1 B.2.1 dX8_take_65 rfl (lv_at hl 0 rfl) ?_
        refine lv_bipush (v := nI 100) B.1 B.2.1 dX8_take_66 (by decide) ?_
        refine r_callv B hC hl.1 (8) 3 rfl rfl (by decide) ((LoadC.at hL (fun i h1 h2 => by rw [hs_F1 i (by omega)])).1) (As := [.int (nI t), .int (nI 100)]) (ctX3_bringTo l g lo ad (b := 8) (by decide) (LoadC.at hL (fun i h1 h2 => by rw [hs_F1 i (by omega)])) (t := t) (x := 100) ht10 (okL.1 t).1 (by decide)) gX8_take_X3_bringTo rfl (n := 2) rfl (by decide +kernel) ⟨Nat.le_of_ble_eq_true rfl, Nat.le_of_ble_eq_true rfl⟩ ⟨Nat.zero_le _, Nat.zero_le _⟩ rfl (Nat.le_of_ble_eq_true rfl) dX8_take_68 (fun F2 H locs hp68 hC => ?_)
        obtain ⟨hL_F2, hs_F2⟩ := hp68
        refine lv_iload_n B.1 B.2.1 dX8_take_71 rfl (lv_at hl 0 rfl) ?_
        exact r_eI B hC (v := nI t) (⟨by rw [takeA, if_pos q_8, if_neg (by rw [q_20]; decide), ej, ix_n hj31, if_pos q_35, ht0]; rfl, by rw [takeN, ej, ix_n hj31, if_pos ⟨ej ▸ q_8, q_20, q_35⟩, ht0]; exact ⟨(TopC.at hP (fun i h1 h2 => by rw [hs_F2 i (by omega)]; rw [hs_F1 i (by omega)])), (TextC.at hT (fun i h1 h2 => by rw [hs_F2 i (by omega)]; rw [hs_F1 i (by omega)])), (HullC.at hH (fun i h1 h2 => by rw [hs_F2 i (by omega)]; rw [hs_F1 i (by omega)])), hL_F2, (ActC.keep hA_F1 (fun i h1 h2 => by rw [hs_F2 i (by omega)])), (SlotC.keep hS (fun i h1 h2 => by rw [hs_F2 i (by omega)]; rw [hs_F1 i (by omega)])), ⟨_, (LoadC.at hW (fun i h1 h2 => by rw [hs_F2 i (by omega)]; rw [hs_F1 i (by omega)])), hct⟩, ⟨_, (ChC.at hCh (fun i h1 h2 => by rw [hs_F2 i (by omega)]; rw [hs_F1 i (by omega)]))⟩, ⟨_, _, (SeaC.at hQ (fun i h1 h2 => by rw [hs_F2 i (by omega)]; rw [hs_F1 i (by omega)]))⟩, _, (RowsC.keep hR (fun i h1 h2 => by rw [hs_F2 i (by omega)]; rw [hs_F1 i (by omega)])), okR⟩, (fun i hi => by rw [hs_F2 i (by omega)]; rw [hs_F1 i (by omega)])⟩) dX8_take_72
      · have q_35 : takeV (xh x) (xw x) j = false := bI_f.mp c_35
        refine lv_bipush (v := (-3)) B.1 B.2.1 dX8_take_38 (by decide) ?_
        exact r_eI B hC (v := (-3)) (⟨by rw [takeA, if_pos q_8, if_neg (by rw [q_20]; decide), ej, ix_n hj31, if_neg (by rw [q_35]; decide)], by rw [takeN, ej, ix_n hj31, if_neg (fun z => by rw [q_35] at z; exact absurd z.2.2 (by decide))]; exact hX, Same.rf⟩) dX8_take_40
  · have q_8 : isP (xh x) p = false := bI_f.mp c_8
    refine lv_iconst (v := (-1)) B.1 B.2.1 dX8_take_11 (by decide) ?_
    exact r_eI B hC (v := (-1)) (⟨by rw [takeA, if_neg (by rw [q_8]; decide)], by rw [takeN, if_neg (fun z => by rw [q_8] at z; exact absurd z.1 (by decide))]; exact hX, Same.rf⟩) dX8_take_12
theorem iwX8_bringInto_X8 : ∀ w ∈ u_ws RX8 TX8 8, w ∈ wsX8_bringInto := by decide +kernel
theorem flX8_bringInto_19 : Cond.fieldLink RX8 19 RX8 (TX8 1).2.1 (TX8 1).2.2.1 ∈ wsX8_bringInto := by decide +kernel
theorem flX8_bringInto_26 : Cond.fieldLink RX8 26 RX8 (TX8 2).2.1 (TX8 2).2.2.1 ∈ wsX8_bringInto := by decide +kernel
theorem flX8_bringInto_36 : Cond.fieldLink RX8 36 RX8 (TX8 4).2.1 (TX8 4).2.2.1 ∈ wsX8_bringInto := by decide +kernel
set_option maxHeartbeats 4000000 in
set_option maxRecDepth 100000 in
theorem ctX8_bringInto (l : Launch) (g : Gx) (lo : Nat) (ad : Nat → Nat) {F : Nat → va_E} {x : XV} (hX : XC g ad F x) (okx : XOK x) {t p : Nat} (ht10 : t < 10) (hp : p < hn (xh x)) : MI l g lo 196 ad yX8_bringInto wsX8_bringInto 3 82 [.ref (ad (0)), .int (nI t), .int (nI p)] F (fun r F' => r = nI (hle (xh x) p) ∧ XC g ad F' (actX x (cutV' (xh x) (xw x) t p)) ∧ Same 0 175 F F') := by
  obtain ⟨hP, hT, hH, hL, hA, hS, ⟨wt, hW, hct⟩, ⟨c, hCh⟩, ⟨fm, fo, hQ⟩, rv0, hR, okR⟩ := id hX
  obtain ⟨okT, okH, okL, okA, okS, okAu, okSu⟩ := id okx
  have okn := okH.1
  have okt := okT.1
  refine enter (cc := cX8_bringInto) (maxL := 3) (ret := some .int) (own := RX8) (by decide +kernel) rfl rfl (Nat.le_of_ble_eq_true rfl) ?_
  intro pp ee ss mm below meth cc B hini hC ls hl
  have hl : lv_has ls 3 [(0, .ref (ad (0))), (1, .int (nI t)), (2, .int (nI p))] := hl
  refine lv_aload_n B.1 B.2.1 dX8_bringInto_0 rfl (lv_at hl 0 rfl) ?_
  refine r_cg B hC (i := 0) (by decide) hP (C := RX8) (T := TX8) (n := 8) rfl iwX8_bringInto_X8 4 (by decide) (index := 36) flX8_bringInto_36 rfl (v := .ref (ad (18))) rfl dX8_bringInto_1 ?_
  refine lv_aload_n B.1 B.2.1 dX8_bringInto_4 rfl (lv_at hl 0 rfl) ?_
  refine r_cg B hC (i := 0) (by decide) hP (C := RX8) (T := TX8) (n := 8) rfl iwX8_bringInto_X8 2 (by decide) (index := 26) flX8_bringInto_26 rfl (v := .ref (ad (8))) rfl dX8_bringInto_5 ?_
  refine r_callv B hC hl.1 (18) 0 rfl rfl (by decide) (hA.1) (As := [.ref (ad (8))]) (ctX0_remember l g lo ad hA okA hL okL.can) gX8_bringInto_X0_remember rfl (n := 1) rfl (by decide +kernel) ⟨Nat.le_of_ble_eq_true rfl, Nat.le_of_ble_eq_true rfl⟩ ⟨Nat.zero_le _, Nat.zero_le _⟩ rfl (Nat.le_of_ble_eq_true rfl) dX8_bringInto_8 (fun F1 H locs hp8 hC => ?_)
  obtain ⟨hA_F1, hs_F1⟩ := hp8
  refine lv_aload_n B.1 B.2.1 dX8_bringInto_11 rfl (lv_at hl 0 rfl) ?_
  refine r_cg B hC (i := 0) (by decide) (TopC.at hP (fun i h1 h2 => by rw [hs_F1 i (by omega)])) (C := RX8) (T := TX8) (n := 8) rfl iwX8_bringInto_X8 1 (by decide) (index := 19) flX8_bringInto_19 rfl (v := .ref (ad (3))) rfl dX8_bringInto_12 ?_
  refine lv_iload_n B.1 B.2.1 dX8_bringInto_15 rfl (lv_at hl 1 rfl) ?_
  refine lv_iload_n B.1 B.2.1 dX8_bringInto_16 rfl (lv_at hl 2 rfl) ?_
  refine lv_aload_n B.1 B.2.1 dX8_bringInto_17 rfl (lv_at hl 0 rfl) ?_
  refine r_cg B hC (i := 0) (by decide) (TopC.at hP (fun i h1 h2 => by rw [hs_F1 i (by omega)])) (C := RX8) (T := TX8) (n := 8) rfl iwX8_bringInto_X8 2 (by decide) (index := 26) flX8_bringInto_26 rfl (v := .ref (ad (8))) rfl dX8_bringInto_18 ?_
  refine r_callv B hC hl.1 (3) 2 rfl rfl (by decide) ((HullC.at hH (fun i h1 h2 => by rw [hs_F1 i (by omega)])).1) (As := [.int (nI t), .int (nI p), .ref (ad (8))]) (ctX2_bringInto l g lo ad (HullC.at hH (fun i h1 h2 => by rw [hs_F1 i (by omega)])) okH (b := 8) (by decide) (LoadC.at hL (fun i h1 h2 => by rw [hs_F1 i (by omega)])) okL (t := t) (p := p) ht10 hp) gX8_bringInto_X2_bringInto rfl (n := 3) rfl (by decide +kernel) ⟨Nat.le_of_ble_eq_true rfl, Nat.le_of_ble_eq_true rfl⟩ ⟨Nat.zero_le _, Nat.zero_le _⟩ rfl (Nat.le_of_ble_eq_true rfl) dX8_bringInto_21 (fun F2 H locs hp21 hC => ?_)
  obtain ⟨hL_F2, hs_F2⟩ := hp21
  refine lv_aload_n B.1 B.2.1 dX8_bringInto_24 rfl (lv_at hl 0 rfl) ?_
  refine r_cg B hC (i := 0) (by decide) (TopC.at hP (fun i h1 h2 => by rw [hs_F2 i (by omega)]; rw [hs_F1 i (by omega)])) (C := RX8) (T := TX8) (n := 8) rfl iwX8_bringInto_X8 2 (by decide) (index := 26) flX8_bringInto_26 rfl (v := .ref (ad (8))) rfl dX8_bringInto_25 ?_
  refine lv_iload_n B.1 B.2.1 dX8_bringInto_28 rfl (lv_at hl 1 rfl) ?_
  refine r_calli B hC hl.1 (8) 3 rfl rfl (by decide) (hL_F2.1) (As := [.int (nI t)]) (ctX3_lengthOf l g lo ad (b := 8) (by decide) hL_F2 (t := t) ht10) gX8_bringInto_X3_lengthOf rfl (n := 1) rfl (by decide +kernel) ⟨Nat.le_of_ble_eq_true rfl, Nat.le_of_ble_eq_true rfl⟩ ⟨Nat.zero_le _, Nat.zero_le _⟩ rfl (Nat.le_of_ble_eq_true rfl) dX8_bringInto_29 (fun r29 F3 H locs hp29 hC => ?_)
  obtain ⟨er, eF⟩ := hp29
  subst er
  rw [eF] at hC
  refine r_tI (y := nI (hle (xh x) p)) (by show nI (va_up _ t (hle (xh x) p) t) = _; rw [va_up_self]) ?_
  exact r_eI B hC (v := nI (hle (xh x) p)) (⟨rfl, ⟨(TopC.at hP (fun i h1 h2 => by rw [hs_F2 i (by omega)]; rw [hs_F1 i (by omega)])), (TextC.at hT (fun i h1 h2 => by rw [hs_F2 i (by omega)]; rw [hs_F1 i (by omega)])), (HullC.at hH (fun i h1 h2 => by rw [hs_F2 i (by omega)]; rw [hs_F1 i (by omega)])), hL_F2, (ActC.keep hA_F1 (fun i h1 h2 => by rw [hs_F2 i (by omega)])), (SlotC.keep hS (fun i h1 h2 => by rw [hs_F2 i (by omega)]; rw [hs_F1 i (by omega)])), ⟨_, (LoadC.at hW (fun i h1 h2 => by rw [hs_F2 i (by omega)]; rw [hs_F1 i (by omega)])), hct⟩, ⟨_, (ChC.at hCh (fun i h1 h2 => by rw [hs_F2 i (by omega)]; rw [hs_F1 i (by omega)]))⟩, ⟨_, _, (SeaC.at hQ (fun i h1 h2 => by rw [hs_F2 i (by omega)]; rw [hs_F1 i (by omega)]))⟩, _, (RowsC.keep hR (fun i h1 h2 => by rw [hs_F2 i (by omega)]; rw [hs_F1 i (by omega)])), okR⟩, (fun i hi => by rw [hs_F2 i (by omega)]; rw [hs_F1 i (by omega)])⟩) dX8_bringInto_32
theorem iwX8_put_X8 : ∀ w ∈ u_ws RX8 TX8 8, w ∈ wsX8_put := by decide +kernel
theorem flX8_put_19 : Cond.fieldLink RX8 19 RX8 (TX8 1).2.1 (TX8 1).2.2.1 ∈ wsX8_put := by decide +kernel
theorem flX8_put_26 : Cond.fieldLink RX8 26 RX8 (TX8 2).2.1 (TX8 2).2.2.1 ∈ wsX8_put := by decide +kernel
set_option maxHeartbeats 4000000 in
set_option maxRecDepth 100000 in
theorem ctX8_put (l : Launch) (g : Gx) (lo : Nat) (ad : Nat → Nat) {F : Nat → va_E} {x : XV} (hX : XC g ad F x) (okx : XOK x) {t p : Int32} : MI l g lo 196 ad yX8_put wsX8_put 4 104 [.ref (ad (0)), .int (t), .int (p)] F (fun r F' => r = intoA putB x t p ∧ XC g ad F' (intoN putB x t p) ∧ Same 0 175 F F') := by
  obtain ⟨hP, hT, hH, hL, hA, hS, ⟨wt, hW, hct⟩, ⟨c, hCh⟩, ⟨fm, fo, hQ⟩, rv0, hR, okR⟩ := id hX
  obtain ⟨okT, okH, okL, okA, okS, okAu, okSu⟩ := id okx
  have okn := okH.1
  have okt := okT.1
  refine enter (cc := cX8_put) (maxL := 3) (ret := some .int) (own := RX8) (by decide +kernel) rfl rfl (Nat.le_of_ble_eq_true rfl) ?_
  intro pp ee ss mm below meth cc B hini hC ls hl
  have hl : lv_has ls 3 [(0, .ref (ad (0))), (1, .int (t)), (2, .int (p))] := hl
  refine lv_aload_n B.1 B.2.1 dX8_put_0 rfl (lv_at hl 0 rfl) ?_
  refine r_cg B hC (i := 0) (by decide) hP (C := RX8) (T := TX8) (n := 8) rfl iwX8_put_X8 1 (by decide) (index := 19) flX8_put_19 rfl (v := .ref (ad (3))) rfl dX8_put_1 ?_
  refine lv_iload_n B.1 B.2.1 dX8_put_4 rfl (lv_at hl 1 rfl) ?_
  refine r_calli B hC hl.1 (3) 2 rfl rfl (by decide) (hH.1) (As := [.int (t)]) (ctX2_isPlace_any l g lo ad hH okH (x := t)) gX8_put_X2_isPlace rfl (n := 1) rfl (by decide +kernel) ⟨Nat.le_of_ble_eq_true rfl, Nat.le_of_ble_eq_true rfl⟩ ⟨Nat.zero_le _, Nat.zero_le _⟩ rfl (Nat.le_of_ble_eq_true rfl) dX8_put_5 (fun r5 F1 H locs hp5 hC => ?_)
  obtain ⟨er, eF⟩ := hp5
  subst er
  rw [eF] at hC
  refine lv_if_eq (tgt := 22) B.1 B.2.1 dX8_put_8 (by decide) (fun c_8 => ?_) (fun c_8 => ?_)
  · have q_8 : isP (xh x) t = false := bI_f.mp c_8
    refine lv_iconst (v := (-1)) B.1 B.2.1 dX8_put_22 (by decide) ?_
    exact r_eI B hC (v := (-1)) (⟨by rw [intoA, if_neg (fun z => by first | (rw [q_8] at z; exact absurd z.1 (by decide)) | (rw [q_19] at z; exact absurd z.2 (by decide)))], by rw [intoN, if_neg (fun z => by first | (rw [q_8] at z; exact absurd z.1.1 (by decide)) | (rw [q_19] at z; exact absurd z.1.2 (by decide)))]; exact hX, Same.rf⟩) dX8_put_23
  · have q_8 : isP (xh x) t = true := bI_t.mp c_8
    refine lv_aload_n B.1 B.2.1 dX8_put_11 rfl (lv_at hl 0 rfl) ?_
    refine r_cg B hC (i := 0) (by decide) hP (C := RX8) (T := TX8) (n := 8) rfl iwX8_put_X8 1 (by decide) (index := 19) flX8_put_19 rfl (v := .ref (ad (3))) rfl dX8_put_12 ?_
    refine lv_iload_n B.1 B.2.1 dX8_put_15 rfl (lv_at hl 2 rfl) ?_
    refine r_calli B hC hl.1 (3) 2 rfl rfl (by decide) (hH.1) (As := [.int (p)]) (ctX2_isPlace_any l g lo ad hH okH (x := p)) gX8_put_X2_isPlace rfl (n := 1) rfl (by decide +kernel) ⟨Nat.le_of_ble_eq_true rfl, Nat.le_of_ble_eq_true rfl⟩ ⟨Nat.zero_le _, Nat.zero_le _⟩ rfl (Nat.le_of_ble_eq_true rfl) dX8_put_16 (fun r16 F1 H locs hp16 hC => ?_)
    obtain ⟨er, eF⟩ := hp16
    subst er
    rw [eF] at hC
    refine lv_if_ne (tgt := 24) B.1 B.2.1 dX8_put_19 (by decide) (fun c_19 => ?_) (fun c_19 => ?_)
    · have q_19 : isP (xh x) p = true := bI_t.mp c_19
      obtain ⟨j, hj, ej⟩ := isP_t okH q_8
      obtain ⟨i, hi, ei⟩ := isP_t okH q_19
      have hj31 : j < 2 ^ 31 := by omega
      have hi31 : i < 2 ^ 31 := by omega
      refine lv_aload_n B.1 B.2.1 dX8_put_24 rfl (lv_at hl 0 rfl) ?_
      refine r_cg B hC (i := 0) (by decide) hP (C := RX8) (T := TX8) (n := 8) rfl iwX8_put_X8 2 (by decide) (index := 26) flX8_put_26 rfl (v := .ref (ad (8))) rfl dX8_put_25 ?_
      refine r_calli B hC hl.1 (8) 3 rfl rfl (by decide) (hL.1) (As := []) (ctX3_isSunk l g lo ad (b := 8) (by decide) hL) gX8_put_X3_isSunk rfl (n := 0) rfl (by decide +kernel) ⟨Nat.le_of_ble_eq_true rfl, Nat.le_of_ble_eq_true rfl⟩ ⟨Nat.zero_le _, Nat.zero_le _⟩ rfl (Nat.le_of_ble_eq_true rfl) dX8_put_28 (fun r28 F1 H locs hp28 hC => ?_)
      obtain ⟨er, eF⟩ := hp28
      subst er
      rw [eF] at hC
      refine lv_if_ne (tgt := 63) B.1 B.2.1 dX8_put_31 (by decide) (fun c_31 => ?_) (fun c_31 => ?_)
      · have q_31 : (su (xw x)) = true := bI_t.mp c_31
        refine lv_bipush (v := (-3)) B.1 B.2.1 dX8_put_63 (by decide) ?_
        exact r_eI B hC (v := (-3)) (by
      have hb : putB x j i = false := by simp [putB, q_31]
      exact ⟨by rw [intoA, if_pos ⟨q_8, q_19⟩, ej, ei, ix_n hj31, ix_n hi31, if_neg (by rw [hb]; decide)], by rw [intoN, ej, ei, ix_n hj31, ix_n hi31, if_neg (fun z => by rw [hb] at z; exact absurd z.2 (by decide))]; exact hX, Same.rf⟩) dX8_put_65
      · have q_31 : (su (xw x)) = false := bI_f.mp c_31
        refine lv_aload_n B.1 B.2.1 dX8_put_34 rfl (lv_at hl 0 rfl) ?_
        refine r_cg B hC (i := 0) (by decide) hP (C := RX8) (T := TX8) (n := 8) rfl iwX8_put_X8 2 (by decide) (index := 26) flX8_put_26 rfl (v := .ref (ad (8))) rfl dX8_put_35 ?_
        refine lv_iload_n B.1 B.2.1 dX8_put_38 rfl (lv_at hl 1 rfl) ?_
        refine r_tI (y := nI j) (ej) ?_
        refine r_calli B hC hl.1 (8) 3 rfl rfl (by decide) (hL.1) (As := [.int (nI j)]) (ctX3_whereIs l g lo ad (b := 8) (by decide) hL (t := j) (by omega)) gX8_put_X3_whereIs rfl (n := 1) rfl (by decide +kernel) ⟨Nat.le_of_ble_eq_true rfl, Nat.le_of_ble_eq_true rfl⟩ ⟨Nat.zero_le _, Nat.zero_le _⟩ rfl (Nat.le_of_ble_eq_true rfl) dX8_put_39 (fun r39 F1 H locs hp39 hC => ?_)
        obtain ⟨er, eF⟩ := hp39
        subst er
        rw [eF] at hC
        refine lv_bipush (v := nI 100) B.1 B.2.1 dX8_put_42 (by decide) ?_
        refine lv_icmp_ne (tgt := 63) B.1 B.2.1 dX8_put_44 (by decide) (fun c_44 => ?_) (fun c_44 => ?_)
        · have q_44 : ¬ wh (xw x) j = 100 := fun z => c_44 ((nI_eq (by have := (okL.1 j).1; omega) (by decide)).mpr z)
          refine lv_bipush (v := (-3)) B.1 B.2.1 dX8_put_63 (by decide) ?_
          exact r_eI B hC (v := (-3)) (by
      have hb : putB x j i = false := by simp [putB, q_31, q_44]
      exact ⟨by rw [intoA, if_pos ⟨q_8, q_19⟩, ej, ei, ix_n hj31, ix_n hi31, if_neg (by rw [hb]; decide)], by rw [intoN, ej, ei, ix_n hj31, ix_n hi31, if_neg (fun z => by rw [hb] at z; exact absurd z.2 (by decide))]; exact hX, Same.rf⟩) dX8_put_65
        · have q_44 : wh (xw x) j = 100 := (nI_eq (by have := (okL.1 j).1; omega) (by decide)).mp c_44
          refine lv_aload_n B.1 B.2.1 dX8_put_47 rfl (lv_at hl 0 rfl) ?_
          refine r_cg B hC (i := 0) (by decide) hP (C := RX8) (T := TX8) (n := 8) rfl iwX8_put_X8 1 (by decide) (index := 19) flX8_put_19 rfl (v := .ref (ad (3))) rfl dX8_put_48 ?_
          refine lv_iload_n B.1 B.2.1 dX8_put_51 rfl (lv_at hl 1 rfl) ?_
          refine r_tI (y := nI j) (ej) ?_
          refine lv_iload_n B.1 B.2.1 dX8_put_52 rfl (lv_at hl 2 rfl) ?_
          refine r_tI (y := nI i) (ei) ?_
          refine lv_aload_n B.1 B.2.1 dX8_put_53 rfl (lv_at hl 0 rfl) ?_
          refine r_cg B hC (i := 0) (by decide) hP (C := RX8) (T := TX8) (n := 8) rfl iwX8_put_X8 2 (by decide) (index := 26) flX8_put_26 rfl (v := .ref (ad (8))) rfl dX8_put_54 ?_
          refine r_calli B hC hl.1 (3) 2 rfl rfl (by decide) (hH.1) (As := [.int (nI j), .int (nI i), .ref (ad (8))]) (ctX2_fits l g lo ad hH okH (b := 8) (by decide) hL okL (t := j) (p := i) (by omega) (by omega)) gX8_put_X2_fits rfl (n := 3) rfl (by decide +kernel) ⟨Nat.le_of_ble_eq_true rfl, Nat.le_of_ble_eq_true rfl⟩ ⟨Nat.zero_le _, Nat.zero_le _⟩ rfl (Nat.le_of_ble_eq_true rfl) dX8_put_57 (fun r57 F1 H locs hp57 hC => ?_)
          obtain ⟨er, eF⟩ := hp57
          subst er
          rw [eF] at hC
          refine lv_if_ne (tgt := 66) B.1 B.2.1 dX8_put_60 (by decide) (fun c_60 => ?_) (fun c_60 => ?_)
          · have q_60 : (fitsV (xh x) (xw x) j i) = true := bI_t.mp c_60
            refine lv_aload_n B.1 B.2.1 dX8_put_66 rfl (lv_at hl 0 rfl) ?_
            refine lv_iload_n B.1 B.2.1 dX8_put_67 rfl (lv_at hl 1 rfl) ?_
            refine r_tI (y := nI j) (ej) ?_
            refine lv_iload_n B.1 B.2.1 dX8_put_68 rfl (lv_at hl 2 rfl) ?_
            refine r_tI (y := nI i) (ei) ?_
            refine r_calli B hC hl.1 (0) 8 rfl rfl (by decide) hP (As := [.int (nI j), .int (nI i)]) (ctX8_bringInto l g lo ad hX okx (t := j) (p := i) (by omega) (fitsV_p q_60).1) gX8_put_X8_bringInto rfl (n := 2) rfl (by decide +kernel) ⟨Nat.le_of_ble_eq_true rfl, Nat.le_of_ble_eq_true rfl⟩ ⟨Nat.zero_le _, Nat.zero_le _⟩ rfl (Nat.le_of_ble_eq_true rfl) dX8_put_69 (fun r69 F1 H locs hp69 hC => ?_)
            obtain ⟨er, hXn, hsn⟩ := hp69
            subst er
            exact r_eI B hC (v := nI (hle (xh x) i)) (by
      have hb : putB x j i = true := by simp [putB, q_31, q_44, q_60]
      exact ⟨by rw [intoA, if_pos ⟨q_8, q_19⟩, ej, ei, ix_n hj31, ix_n hi31, if_pos hb], by rw [intoN, ej, ei, ix_n hj31, ix_n hi31, if_pos ⟨⟨ej ▸ q_8, ei ▸ q_19⟩, hb⟩]; exact hXn, hsn⟩) dX8_put_72
          · have q_60 : (fitsV (xh x) (xw x) j i) = false := bI_f.mp c_60
            refine lv_bipush (v := (-3)) B.1 B.2.1 dX8_put_63 (by decide) ?_
            exact r_eI B hC (v := (-3)) (by
      have hb : putB x j i = false := by simp [putB, q_31, q_44, q_60]
      exact ⟨by rw [intoA, if_pos ⟨q_8, q_19⟩, ej, ei, ix_n hj31, ix_n hi31, if_neg (by rw [hb]; decide)], by rw [intoN, ej, ei, ix_n hj31, ix_n hi31, if_neg (fun z => by rw [hb] at z; exact absurd z.2 (by decide))]; exact hX, Same.rf⟩) dX8_put_65
    · have q_19 : isP (xh x) p = false := bI_f.mp c_19
      refine lv_iconst (v := (-1)) B.1 B.2.1 dX8_put_22 (by decide) ?_
      exact r_eI B hC (v := (-1)) (⟨by rw [intoA, if_neg (fun z => by first | (rw [q_8] at z; exact absurd z.1 (by decide)) | (rw [q_19] at z; exact absurd z.2 (by decide)))], by rw [intoN, if_neg (fun z => by first | (rw [q_8] at z; exact absurd z.1.1 (by decide)) | (rw [q_19] at z; exact absurd z.1.2 (by decide)))]; exact hX, Same.rf⟩) dX8_put_23
theorem iwX8_move_X8 : ∀ w ∈ u_ws RX8 TX8 8, w ∈ wsX8_move := by decide +kernel
theorem flX8_move_19 : Cond.fieldLink RX8 19 RX8 (TX8 1).2.1 (TX8 1).2.2.1 ∈ wsX8_move := by decide +kernel
theorem flX8_move_26 : Cond.fieldLink RX8 26 RX8 (TX8 2).2.1 (TX8 2).2.2.1 ∈ wsX8_move := by decide +kernel
set_option maxHeartbeats 4000000 in
set_option maxRecDepth 100000 in
theorem ctX8_move (l : Launch) (g : Gx) (lo : Nat) (ad : Nat → Nat) {F : Nat → va_E} {x : XV} (hX : XC g ad F x) (okx : XOK x) {t p : Int32} : MI l g lo 196 ad yX8_move wsX8_move 4 104 [.ref (ad (0)), .int (t), .int (p)] F (fun r F' => r = intoA moveB x t p ∧ XC g ad F' (intoN moveB x t p) ∧ Same 0 175 F F') := by
  obtain ⟨hP, hT, hH, hL, hA, hS, ⟨wt, hW, hct⟩, ⟨c, hCh⟩, ⟨fm, fo, hQ⟩, rv0, hR, okR⟩ := id hX
  obtain ⟨okT, okH, okL, okA, okS, okAu, okSu⟩ := id okx
  have okn := okH.1
  have okt := okT.1
  refine enter (cc := cX8_move) (maxL := 3) (ret := some .int) (own := RX8) (by decide +kernel) rfl rfl (Nat.le_of_ble_eq_true rfl) ?_
  intro pp ee ss mm below meth cc B hini hC ls hl
  have hl : lv_has ls 3 [(0, .ref (ad (0))), (1, .int (t)), (2, .int (p))] := hl
  refine lv_aload_n B.1 B.2.1 dX8_move_0 rfl (lv_at hl 0 rfl) ?_
  refine r_cg B hC (i := 0) (by decide) hP (C := RX8) (T := TX8) (n := 8) rfl iwX8_move_X8 1 (by decide) (index := 19) flX8_move_19 rfl (v := .ref (ad (3))) rfl dX8_move_1 ?_
  refine lv_iload_n B.1 B.2.1 dX8_move_4 rfl (lv_at hl 1 rfl) ?_
  refine r_calli B hC hl.1 (3) 2 rfl rfl (by decide) (hH.1) (As := [.int (t)]) (ctX2_isPlace_any l g lo ad hH okH (x := t)) gX8_move_X2_isPlace rfl (n := 1) rfl (by decide +kernel) ⟨Nat.le_of_ble_eq_true rfl, Nat.le_of_ble_eq_true rfl⟩ ⟨Nat.zero_le _, Nat.zero_le _⟩ rfl (Nat.le_of_ble_eq_true rfl) dX8_move_5 (fun r5 F1 H locs hp5 hC => ?_)
  obtain ⟨er, eF⟩ := hp5
  subst er
  rw [eF] at hC
  refine lv_if_eq (tgt := 22) B.1 B.2.1 dX8_move_8 (by decide) (fun c_8 => ?_) (fun c_8 => ?_)
  · have q_8 : isP (xh x) t = false := bI_f.mp c_8
    refine lv_iconst (v := (-1)) B.1 B.2.1 dX8_move_22 (by decide) ?_
    exact r_eI B hC (v := (-1)) (⟨by rw [intoA, if_neg (fun z => by first | (rw [q_8] at z; exact absurd z.1 (by decide)) | (rw [q_19] at z; exact absurd z.2 (by decide)))], by rw [intoN, if_neg (fun z => by first | (rw [q_8] at z; exact absurd z.1.1 (by decide)) | (rw [q_19] at z; exact absurd z.1.2 (by decide)))]; exact hX, Same.rf⟩) dX8_move_23
  · have q_8 : isP (xh x) t = true := bI_t.mp c_8
    refine lv_aload_n B.1 B.2.1 dX8_move_11 rfl (lv_at hl 0 rfl) ?_
    refine r_cg B hC (i := 0) (by decide) hP (C := RX8) (T := TX8) (n := 8) rfl iwX8_move_X8 1 (by decide) (index := 19) flX8_move_19 rfl (v := .ref (ad (3))) rfl dX8_move_12 ?_
    refine lv_iload_n B.1 B.2.1 dX8_move_15 rfl (lv_at hl 2 rfl) ?_
    refine r_calli B hC hl.1 (3) 2 rfl rfl (by decide) (hH.1) (As := [.int (p)]) (ctX2_isPlace_any l g lo ad hH okH (x := p)) gX8_move_X2_isPlace rfl (n := 1) rfl (by decide +kernel) ⟨Nat.le_of_ble_eq_true rfl, Nat.le_of_ble_eq_true rfl⟩ ⟨Nat.zero_le _, Nat.zero_le _⟩ rfl (Nat.le_of_ble_eq_true rfl) dX8_move_16 (fun r16 F1 H locs hp16 hC => ?_)
    obtain ⟨er, eF⟩ := hp16
    subst er
    rw [eF] at hC
    refine lv_if_ne (tgt := 24) B.1 B.2.1 dX8_move_19 (by decide) (fun c_19 => ?_) (fun c_19 => ?_)
    · have q_19 : isP (xh x) p = true := bI_t.mp c_19
      obtain ⟨j, hj, ej⟩ := isP_t okH q_8
      obtain ⟨i, hi, ei⟩ := isP_t okH q_19
      have hj31 : j < 2 ^ 31 := by omega
      have hi31 : i < 2 ^ 31 := by omega
      refine lv_aload_n B.1 B.2.1 dX8_move_24 rfl (lv_at hl 0 rfl) ?_
      refine r_cg B hC (i := 0) (by decide) hP (C := RX8) (T := TX8) (n := 8) rfl iwX8_move_X8 2 (by decide) (index := 26) flX8_move_26 rfl (v := .ref (ad (8))) rfl dX8_move_25 ?_
      refine r_calli B hC hl.1 (8) 3 rfl rfl (by decide) (hL.1) (As := []) (ctX3_isSunk l g lo ad (b := 8) (by decide) hL) gX8_move_X3_isSunk rfl (n := 0) rfl (by decide +kernel) ⟨Nat.le_of_ble_eq_true rfl, Nat.le_of_ble_eq_true rfl⟩ ⟨Nat.zero_le _, Nat.zero_le _⟩ rfl (Nat.le_of_ble_eq_true rfl) dX8_move_28 (fun r28 F1 H locs hp28 hC => ?_)
      obtain ⟨er, eF⟩ := hp28
      subst er
      rw [eF] at hC
      refine lv_if_ne (tgt := 50) B.1 B.2.1 dX8_move_31 (by decide) (fun c_31 => ?_) (fun c_31 => ?_)
      · have q_31 : (su (xw x)) = true := bI_t.mp c_31
        refine lv_bipush (v := (-3)) B.1 B.2.1 dX8_move_50 (by decide) ?_
        exact r_eI B hC (v := (-3)) (by
      have hb : moveB x j i = false := by simp [moveB, q_31]
      exact ⟨by rw [intoA, if_pos ⟨q_8, q_19⟩, ej, ei, ix_n hj31, ix_n hi31, if_neg (by rw [hb]; decide)], by rw [intoN, ej, ei, ix_n hj31, ix_n hi31, if_neg (fun z => by rw [hb] at z; exact absurd z.2 (by decide))]; exact hX, Same.rf⟩) dX8_move_52
      · have q_31 : (su (xw x)) = false := bI_f.mp c_31
        refine lv_aload_n B.1 B.2.1 dX8_move_34 rfl (lv_at hl 0 rfl) ?_
        refine r_cg B hC (i := 0) (by decide) hP (C := RX8) (T := TX8) (n := 8) rfl iwX8_move_X8 1 (by decide) (index := 19) flX8_move_19 rfl (v := .ref (ad (3))) rfl dX8_move_35 ?_
        refine lv_iload_n B.1 B.2.1 dX8_move_38 rfl (lv_at hl 1 rfl) ?_
        refine r_tI (y := nI j) (ej) ?_
        refine lv_iload_n B.1 B.2.1 dX8_move_39 rfl (lv_at hl 2 rfl) ?_
        refine r_tI (y := nI i) (ei) ?_
        refine lv_aload_n B.1 B.2.1 dX8_move_40 rfl (lv_at hl 0 rfl) ?_
        refine r_cg B hC (i := 0) (by decide) hP (C := RX8) (T := TX8) (n := 8) rfl iwX8_move_X8 2 (by decide) (index := 26) flX8_move_26 rfl (v := .ref (ad (8))) rfl dX8_move_41 ?_
        refine r_calli B hC hl.1 (3) 2 rfl rfl (by decide) (hH.1) (As := [.int (nI j), .int (nI i), .ref (ad (8))]) (ctX2_mayBeMoved l g lo ad hH okH (b := 8) (by decide) hL okL (t := j) (p := i) (by omega) (by omega)) gX8_move_X2_mayBeMoved rfl (n := 3) rfl (by decide +kernel) ⟨Nat.le_of_ble_eq_true rfl, Nat.le_of_ble_eq_true rfl⟩ ⟨Nat.zero_le _, Nat.zero_le _⟩ rfl (Nat.le_of_ble_eq_true rfl) dX8_move_44 (fun r44 F1 H locs hp44 hC => ?_)
        obtain ⟨er, eF⟩ := hp44
        subst er
        rw [eF] at hC
        refine lv_if_ne (tgt := 53) B.1 B.2.1 dX8_move_47 (by decide) (fun c_47 => ?_) (fun c_47 => ?_)
        · have q_47 : (mayV (xh x) (xw x) j i) = true := bI_t.mp c_47
          refine lv_aload_n B.1 B.2.1 dX8_move_53 rfl (lv_at hl 0 rfl) ?_
          refine lv_iload_n B.1 B.2.1 dX8_move_54 rfl (lv_at hl 1 rfl) ?_
          refine r_tI (y := nI j) (ej) ?_
          refine lv_iload_n B.1 B.2.1 dX8_move_55 rfl (lv_at hl 2 rfl) ?_
          refine r_tI (y := nI i) (ei) ?_
          refine r_calli B hC hl.1 (0) 8 rfl rfl (by decide) hP (As := [.int (nI j), .int (nI i)]) (ctX8_bringInto l g lo ad hX okx (t := j) (p := i) (by omega) (fitsV_p (mayV_f q_47).1).1) gX8_move_X8_bringInto rfl (n := 2) rfl (by decide +kernel) ⟨Nat.le_of_ble_eq_true rfl, Nat.le_of_ble_eq_true rfl⟩ ⟨Nat.zero_le _, Nat.zero_le _⟩ rfl (Nat.le_of_ble_eq_true rfl) dX8_move_56 (fun r56 F1 H locs hp56 hC => ?_)
          obtain ⟨er, hXn, hsn⟩ := hp56
          subst er
          exact r_eI B hC (v := nI (hle (xh x) i)) (by
      have hb : moveB x j i = true := by simp [moveB, q_31, q_47]
      exact ⟨by rw [intoA, if_pos ⟨q_8, q_19⟩, ej, ei, ix_n hj31, ix_n hi31, if_pos hb], by rw [intoN, ej, ei, ix_n hj31, ix_n hi31, if_pos ⟨⟨ej ▸ q_8, ei ▸ q_19⟩, hb⟩]; exact hXn, hsn⟩) dX8_move_59
        · have q_47 : (mayV (xh x) (xw x) j i) = false := bI_f.mp c_47
          refine lv_bipush (v := (-3)) B.1 B.2.1 dX8_move_50 (by decide) ?_
          exact r_eI B hC (v := (-3)) (by
      have hb : moveB x j i = false := by simp [moveB, q_31, q_47]
      exact ⟨by rw [intoA, if_pos ⟨q_8, q_19⟩, ej, ei, ix_n hj31, ix_n hi31, if_neg (by rw [hb]; decide)], by rw [intoN, ej, ei, ix_n hj31, ix_n hi31, if_neg (fun z => by rw [hb] at z; exact absurd z.2 (by decide))]; exact hX, Same.rf⟩) dX8_move_52
    · have q_19 : isP (xh x) p = false := bI_f.mp c_19
      refine lv_iconst (v := (-1)) B.1 B.2.1 dX8_move_22 (by decide) ?_
      exact r_eI B hC (v := (-1)) (⟨by rw [intoA, if_neg (fun z => by first | (rw [q_8] at z; exact absurd z.1 (by decide)) | (rw [q_19] at z; exact absurd z.2 (by decide)))], by rw [intoN, if_neg (fun z => by first | (rw [q_8] at z; exact absurd z.1.1 (by decide)) | (rw [q_19] at z; exact absurd z.1.2 (by decide)))]; exact hX, Same.rf⟩) dX8_move_23
theorem iwX8_keep_X8 : ∀ w ∈ u_ws RX8 TX8 8, w ∈ wsX8_keep := by decide +kernel
theorem flX8_keep_26 : Cond.fieldLink RX8 26 RX8 (TX8 2).2.1 (TX8 2).2.2.1 ∈ wsX8_keep := by decide +kernel
theorem flX8_keep_43 : Cond.fieldLink RX8 43 RX8 (TX8 5).2.1 (TX8 5).2.2.1 ∈ wsX8_keep := by decide +kernel
set_option maxHeartbeats 4000000 in
set_option maxRecDepth 100000 in
theorem ctX8_keep (l : Launch) (g : Gx) (lo : Nat) (ad : Nat → Nat) {F : Nat → va_E} {x : XV} (hX : XC g ad F x) (okx : XOK x) {t : Int32} : MI l g lo 196 ad yX8_keep wsX8_keep 3 83 [.ref (ad (0)), .int (t)] F (fun r F' => r = keepA x t ∧ XC g ad F' (keepN x t) ∧ Same 0 175 F F') := by
  obtain ⟨hP, hT, hH, hL, hA, hS, ⟨wt, hW, hct⟩, ⟨c, hCh⟩, ⟨fm, fo, hQ⟩, rv0, hR, okR⟩ := id hX
  obtain ⟨okT, okH, okL, okA, okS, okAu, okSu⟩ := id okx
  have okn := okH.1
  have okt := okT.1
  refine enter (cc := cX8_keep) (maxL := 2) (ret := some .int) (own := RX8) (by decide +kernel) rfl rfl (Nat.le_of_ble_eq_true rfl) ?_
  intro pp ee ss mm below meth cc B hini hC ls hl
  have hl : lv_has ls 2 [(0, .ref (ad (0))), (1, .int (t))] := hl
  refine lv_aload_n B.1 B.2.1 dX8_keep_0 rfl (lv_at hl 0 rfl) ?_
  refine r_cg B hC (i := 0) (by decide) hP (C := RX8) (T := TX8) (n := 8) rfl iwX8_keep_X8 5 (by decide) (index := 43) flX8_keep_43 rfl (v := .ref (ad (140))) rfl dX8_keep_1 ?_
  refine lv_iload_n B.1 B.2.1 dX8_keep_4 rfl (lv_at hl 1 rfl) ?_
  refine r_calli B hC hl.1 (140) 6 rfl rfl (by decide) (hS.1) (As := [.int (t)]) (ctX6_isSlot l g lo ad (x := t)) gX8_keep_X6_isSlot rfl (n := 1) rfl (by decide +kernel) ⟨Nat.le_of_ble_eq_true rfl, Nat.le_of_ble_eq_true rfl⟩ ⟨Nat.zero_le _, Nat.zero_le _⟩ rfl (Nat.le_of_ble_eq_true rfl) dX8_keep_5 (fun r5 F1 H locs hp5 hC => ?_)
  obtain ⟨er, eF⟩ := hp5
  subst er
  rw [eF] at hC
  refine lv_if_ne (tgt := 13) B.1 B.2.1 dX8_keep_8 (by decide) (fun c_8 => ?_) (fun c_8 => ?_)
  · have q_8 : isS t = true := bI_t.mp c_8
    obtain ⟨j, hj, ej⟩ := isS_t q_8
    have hj31 : j < 2 ^ 31 := by omega
    refine lv_aload_n B.1 B.2.1 dX8_keep_13 rfl (lv_at hl 0 rfl) ?_
    refine r_cg B hC (i := 0) (by decide) hP (C := RX8) (T := TX8) (n := 8) rfl iwX8_keep_X8 5 (by decide) (index := 43) flX8_keep_43 rfl (v := .ref (ad (140))) rfl dX8_keep_14 ?_
    refine lv_iload_n B.1 B.2.1 dX8_keep_17 rfl (lv_at hl 1 rfl) ?_
    refine r_tI (y := nI j) (ej) ?_
    refine lv_aload_n B.1 B.2.1 dX8_keep_18 rfl (lv_at hl 0 rfl) ?_
    refine r_cg B hC (i := 0) (by decide) hP (C := RX8) (T := TX8) (n := 8) rfl iwX8_keep_X8 2 (by decide) (index := 26) flX8_keep_26 rfl (v := .ref (ad (8))) rfl dX8_keep_19 ?_
    refine r_callv B hC hl.1 (140) 6 rfl rfl (by decide) (hS.1) (As := [.int (nI j), .ref (ad (8))]) (ctX6_store l g lo ad hS okS (j := j) hj hL okL.can) gX8_keep_X6_store rfl (n := 2) rfl (by decide +kernel) ⟨Nat.le_of_ble_eq_true rfl, Nat.le_of_ble_eq_true rfl⟩ ⟨Nat.zero_le _, Nat.zero_le _⟩ rfl (Nat.le_of_ble_eq_true rfl) dX8_keep_22 (fun F1 H locs hp22 hC => ?_)
    obtain ⟨hS_F1, hs_F1⟩ := hp22
    refine lv_aload_n B.1 B.2.1 dX8_keep_25 rfl (lv_at hl 0 rfl) ?_
    refine r_cg B hC (i := 0) (by decide) (TopC.at hP (fun i h1 h2 => by rw [hs_F1 i (by omega)])) (C := RX8) (T := TX8) (n := 8) rfl iwX8_keep_X8 2 (by decide) (index := 26) flX8_keep_26 rfl (v := .ref (ad (8))) rfl dX8_keep_26 ?_
    refine r_calli B hC hl.1 (8) 3 rfl rfl (by decide) ((LoadC.at hL (fun i h1 h2 => by rw [hs_F1 i (by omega)])).1) (As := []) (ctX3_waterInside l g lo ad (b := 8) (by decide) (LoadC.at hL (fun i h1 h2 => by rw [hs_F1 i (by omega)]))) gX8_keep_X3_waterInside rfl (n := 0) rfl (by decide +kernel) ⟨Nat.le_of_ble_eq_true rfl, Nat.le_of_ble_eq_true rfl⟩ ⟨Nat.zero_le _, Nat.zero_le _⟩ rfl (Nat.le_of_ble_eq_true rfl) dX8_keep_29 (fun r29 F2 H locs hp29 hC => ?_)
    obtain ⟨er, eF⟩ := hp29
    subst er
    rw [eF] at hC
    exact r_eI B hC (v := nI (wa (xw x))) (⟨by rw [keepA, if_pos q_8], by rw [keepN, if_pos q_8, ej, ix_n hj31]; exact ⟨(TopC.at hP (fun i h1 h2 => by rw [hs_F1 i (by omega)])), (TextC.at hT (fun i h1 h2 => by rw [hs_F1 i (by omega)])), (HullC.at hH (fun i h1 h2 => by rw [hs_F1 i (by omega)])), (LoadC.at hL (fun i h1 h2 => by rw [hs_F1 i (by omega)])), (ActC.keep hA (fun i h1 h2 => by rw [hs_F1 i (by omega)])), hS_F1, ⟨_, (LoadC.at hW (fun i h1 h2 => by rw [hs_F1 i (by omega)])), hct⟩, ⟨_, (ChC.at hCh (fun i h1 h2 => by rw [hs_F1 i (by omega)]))⟩, ⟨_, _, (SeaC.at hQ (fun i h1 h2 => by rw [hs_F1 i (by omega)]))⟩, _, (RowsC.keep hR (fun i h1 h2 => by rw [hs_F1 i (by omega)])), okR⟩, (fun i hi => by rw [hs_F1 i (by omega)])⟩) dX8_keep_32
  · have q_8 : isS t = false := bI_f.mp c_8
    refine lv_iconst (v := (-1)) B.1 B.2.1 dX8_keep_11 (by decide) ?_
    exact r_eI B hC (v := (-1)) (⟨by rw [keepA, if_neg (by rw [q_8]; decide)], by rw [keepN, if_neg (by rw [q_8]; decide)]; exact hX, Same.rf⟩) dX8_keep_12
theorem iwX8_again_X8 : ∀ w ∈ u_ws RX8 TX8 8, w ∈ wsX8_again := by decide +kernel
theorem flX8_again_26 : Cond.fieldLink RX8 26 RX8 (TX8 2).2.1 (TX8 2).2.2.1 ∈ wsX8_again := by decide +kernel
theorem flX8_again_36 : Cond.fieldLink RX8 36 RX8 (TX8 4).2.1 (TX8 4).2.2.1 ∈ wsX8_again := by decide +kernel
theorem flX8_again_43 : Cond.fieldLink RX8 43 RX8 (TX8 5).2.1 (TX8 5).2.2.1 ∈ wsX8_again := by decide +kernel
set_option maxHeartbeats 4000000 in
set_option maxRecDepth 100000 in
theorem ctX8_again (l : Launch) (g : Gx) (lo : Nat) (ad : Nat → Nat) {F : Nat → va_E} {x : XV} (hX : XC g ad F x) (okx : XOK x) {t : Int32} : MI l g lo 196 ad yX8_again wsX8_again 3 83 [.ref (ad (0)), .int (t)] F (fun r F' => r = againA x t ∧ XC g ad F' (againN x t) ∧ Same 0 175 F F') := by
  obtain ⟨hP, hT, hH, hL, hA, hS, ⟨wt, hW, hct⟩, ⟨c, hCh⟩, ⟨fm, fo, hQ⟩, rv0, hR, okR⟩ := id hX
  obtain ⟨okT, okH, okL, okA, okS, okAu, okSu⟩ := id okx
  have okn := okH.1
  have okt := okT.1
  refine enter (cc := cX8_again) (maxL := 2) (ret := some .int) (own := RX8) (by decide +kernel) rfl rfl (Nat.le_of_ble_eq_true rfl) ?_
  intro pp ee ss mm below meth cc B hini hC ls hl
  have hl : lv_has ls 2 [(0, .ref (ad (0))), (1, .int (t))] := hl
  refine lv_aload_n B.1 B.2.1 dX8_again_0 rfl (lv_at hl 0 rfl) ?_
  refine r_cg B hC (i := 0) (by decide) hP (C := RX8) (T := TX8) (n := 8) rfl iwX8_again_X8 5 (by decide) (index := 43) flX8_again_43 rfl (v := .ref (ad (140))) rfl dX8_again_1 ?_
  refine lv_iload_n B.1 B.2.1 dX8_again_4 rfl (lv_at hl 1 rfl) ?_
  refine r_calli B hC hl.1 (140) 6 rfl rfl (by decide) (hS.1) (As := [.int (t)]) (ctX6_isSlot l g lo ad (x := t)) gX8_again_X6_isSlot rfl (n := 1) rfl (by decide +kernel) ⟨Nat.le_of_ble_eq_true rfl, Nat.le_of_ble_eq_true rfl⟩ ⟨Nat.zero_le _, Nat.zero_le _⟩ rfl (Nat.le_of_ble_eq_true rfl) dX8_again_5 (fun r5 F1 H locs hp5 hC => ?_)
  obtain ⟨er, eF⟩ := hp5
  subst er
  rw [eF] at hC
  refine lv_if_ne (tgt := 13) B.1 B.2.1 dX8_again_8 (by decide) (fun c_8 => ?_) (fun c_8 => ?_)
  · have q_8 : isS t = true := bI_t.mp c_8
    obtain ⟨j, hj, ej⟩ := isS_t q_8
    have hj31 : j < 2 ^ 31 := by omega
    refine lv_aload_n B.1 B.2.1 dX8_again_13 rfl (lv_at hl 0 rfl) ?_
    refine r_cg B hC (i := 0) (by decide) hP (C := RX8) (T := TX8) (n := 8) rfl iwX8_again_X8 5 (by decide) (index := 43) flX8_again_43 rfl (v := .ref (ad (140))) rfl dX8_again_14 ?_
    refine lv_iload_n B.1 B.2.1 dX8_again_17 rfl (lv_at hl 1 rfl) ?_
    refine r_tI (y := nI j) (ej) ?_
    refine r_calli B hC hl.1 (140) 6 rfl rfl (by decide) (hS.1) (As := [.int (nI j)]) (ctX6_isFilled l g lo ad hS okS (j := j) hj) gX8_again_X6_isFilled rfl (n := 1) rfl (by decide +kernel) ⟨Nat.le_of_ble_eq_true rfl, Nat.le_of_ble_eq_true rfl⟩ ⟨Nat.zero_le _, Nat.zero_le _⟩ rfl (Nat.le_of_ble_eq_true rfl) dX8_again_18 (fun r18 F1 H locs hp18 hC => ?_)
    obtain ⟨er, eF⟩ := hp18
    subst er
    rw [eF] at hC
    refine lv_if_ne (tgt := 27) B.1 B.2.1 dX8_again_21 (by decide) (fun c_21 => ?_) (fun c_21 => ?_)
    · have q_21 : (sfl (xs x) j) = true := bI_t.mp c_21
      refine lv_aload_n B.1 B.2.1 dX8_again_27 rfl (lv_at hl 0 rfl) ?_
      refine r_cg B hC (i := 0) (by decide) hP (C := RX8) (T := TX8) (n := 8) rfl iwX8_again_X8 5 (by decide) (index := 43) flX8_again_43 rfl (v := .ref (ad (140))) rfl dX8_again_28 ?_
      refine lv_iload_n B.1 B.2.1 dX8_again_31 rfl (lv_at hl 1 rfl) ?_
      refine r_tI (y := nI j) (ej) ?_
      refine lv_aload_n B.1 B.2.1 dX8_again_32 rfl (lv_at hl 0 rfl) ?_
      refine r_cg B hC (i := 0) (by decide) hP (C := RX8) (T := TX8) (n := 8) rfl iwX8_again_X8 2 (by decide) (index := 26) flX8_again_26 rfl (v := .ref (ad (8))) rfl dX8_again_33 ?_
      refine r_callv B hC hl.1 (140) 6 rfl rfl (by decide) (hS.1) (As := [.int (nI j), .ref (ad (8))]) (ctX6_bringBack l g lo ad hS okS (j := j) hj q_21 hL okL.can) gX8_again_X6_bringBack rfl (n := 2) rfl (by decide +kernel) ⟨Nat.le_of_ble_eq_true rfl, Nat.le_of_ble_eq_true rfl⟩ ⟨Nat.zero_le _, Nat.zero_le _⟩ rfl (Nat.le_of_ble_eq_true rfl) dX8_again_36 (fun F1 H locs hp36 hC => ?_)
      obtain ⟨hL_F1, hs_F1⟩ := hp36
      refine lv_aload_n B.1 B.2.1 dX8_again_39 rfl (lv_at hl 0 rfl) ?_
      refine r_cg B hC (i := 0) (by decide) (TopC.at hP (fun i h1 h2 => by rw [hs_F1 i (by omega)])) (C := RX8) (T := TX8) (n := 8) rfl iwX8_again_X8 4 (by decide) (index := 36) flX8_again_36 rfl (v := .ref (ad (18))) rfl dX8_again_40 ?_
      refine r_callv B hC hl.1 (18) 0 rfl rfl (by decide) ((ActC.keep hA (fun i h1 h2 => by rw [hs_F1 i (by omega)])).1) (As := []) (ctX0_forgetAll l g lo ad (fi := afi (xa x)) (sz := asz (xa x)) (ActC.keep hA (fun i h1 h2 => by rw [hs_F1 i (by omega)])).1 okA.1 okA.2.1) gX8_again_X0_forgetAll rfl (n := 0) rfl (by decide +kernel) ⟨Nat.le_of_ble_eq_true rfl, Nat.le_of_ble_eq_true rfl⟩ ⟨Nat.zero_le _, Nat.zero_le _⟩ rfl (Nat.le_of_ble_eq_true rfl) dX8_again_43 (fun F2 H locs hp43 hC => ?_)
      obtain ⟨hAh, hs_F2⟩ := hp43
      have hA_F2 : ActC g ad F2 (afi (xa x), 0, alo (xa x)) := ⟨hAh, (hs_F2 19 (by omega)).trans (ActC.keep hA (fun i h1 h2 => by rw [hs_F1 i (by omega)])).2.1, fun k hk => ((ActC.keep hA (fun i h1 h2 => by rw [hs_F1 i (by omega)])).2.2 k hk).at (fun i h1 h2 => hs_F2 i (by omega))⟩
      refine lv_aload_n B.1 B.2.1 dX8_again_46 rfl (lv_at hl 0 rfl) ?_
      refine r_cg B hC (i := 0) (by decide) (TopC.at hP (fun i h1 h2 => by rw [hs_F2 i (by omega)]; rw [hs_F1 i (by omega)])) (C := RX8) (T := TX8) (n := 8) rfl iwX8_again_X8 2 (by decide) (index := 26) flX8_again_26 rfl (v := .ref (ad (8))) rfl dX8_again_47 ?_
      refine r_calli B hC hl.1 (8) 3 rfl rfl (by decide) ((LoadC.at hL_F1 (fun i h1 h2 => by rw [hs_F2 i (by omega)])).1) (As := []) (ctX3_waterInside l g lo ad (b := 8) (by decide) (LoadC.at hL_F1 (fun i h1 h2 => by rw [hs_F2 i (by omega)]))) gX8_again_X3_waterInside rfl (n := 0) rfl (by decide +kernel) ⟨Nat.le_of_ble_eq_true rfl, Nat.le_of_ble_eq_true rfl⟩ ⟨Nat.zero_le _, Nat.zero_le _⟩ rfl (Nat.le_of_ble_eq_true rfl) dX8_again_50 (fun r50 F3 H locs hp50 hC => ?_)
      obtain ⟨er, eF⟩ := hp50
      subst er
      rw [eF] at hC
      exact r_eI B hC (v := nI (wa (slo (xs x) j))) (⟨by rw [againA, if_pos q_8, ej, ix_n hj31, if_pos q_21], by rw [againN, ej, ix_n hj31, if_pos ⟨ej ▸ q_8, q_21⟩]; exact ⟨(TopC.at hP (fun i h1 h2 => by rw [hs_F2 i (by omega)]; rw [hs_F1 i (by omega)])), (TextC.at hT (fun i h1 h2 => by rw [hs_F2 i (by omega)]; rw [hs_F1 i (by omega)])), (HullC.at hH (fun i h1 h2 => by rw [hs_F2 i (by omega)]; rw [hs_F1 i (by omega)])), (LoadC.at hL_F1 (fun i h1 h2 => by rw [hs_F2 i (by omega)])), hA_F2, (SlotC.keep hS (fun i h1 h2 => by rw [hs_F2 i (by omega)]; rw [hs_F1 i (by omega)])), ⟨_, (LoadC.at hW (fun i h1 h2 => by rw [hs_F2 i (by omega)]; rw [hs_F1 i (by omega)])), hct⟩, ⟨_, (ChC.at hCh (fun i h1 h2 => by rw [hs_F2 i (by omega)]; rw [hs_F1 i (by omega)]))⟩, ⟨_, _, (SeaC.at hQ (fun i h1 h2 => by rw [hs_F2 i (by omega)]; rw [hs_F1 i (by omega)]))⟩, _, (RowsC.keep hR (fun i h1 h2 => by rw [hs_F2 i (by omega)]; rw [hs_F1 i (by omega)])), okR⟩, (fun i hi => by rw [hs_F2 i (by omega)]; rw [hs_F1 i (by omega)])⟩) dX8_again_53
    · have q_21 : (sfl (xs x) j) = false := bI_f.mp c_21
      refine lv_bipush (v := (-3)) B.1 B.2.1 dX8_again_24 (by decide) ?_
      exact r_eI B hC (v := (-3)) (⟨by rw [againA, if_pos q_8, ej, ix_n hj31, if_neg (by rw [q_21]; decide)], by rw [againN, ej, ix_n hj31, if_neg (fun z => by rw [q_21] at z; exact absurd z.2 (by decide))]; exact hX, Same.rf⟩) dX8_again_26
  · have q_8 : isS t = false := bI_f.mp c_8
    refine lv_iconst (v := (-1)) B.1 B.2.1 dX8_again_11 (by decide) ?_
    exact r_eI B hC (v := (-1)) (⟨by rw [againA, if_neg (by rw [q_8]; decide)], by rw [againN, if_neg (fun z => by rw [q_8] at z; exact absurd z.1 (by decide))]; exact hX, Same.rf⟩) dX8_again_12
