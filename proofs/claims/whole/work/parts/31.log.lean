/-! SEARCH: THE LOG -/
theorem and_not {a : Nat} (ha : a < 1024) (b : Nat) : nI a &&& (nI b ^^^ (-1)) = nI (a &&& (b ^^^ 1023)) := by
  apply Int32.toBitVec_inj.mp
  rw [Int32.toBitVec_and, Int32.toBitVec_xor]
  show BitVec.ofNat 32 a &&& (BitVec.ofNat 32 b ^^^ BitVec.ofNat 32 4294967295) = BitVec.ofNat 32 (a &&& (b ^^^ 1023))
  apply BitVec.eq_of_getLsbD_eq
  intro j hj
  have e1 : (4294967295 : Nat).testBit j = decide (j < 32) := by rw [show (4294967295 : Nat) = 2 ^ 32 - 1 from rfl, Nat.testBit_two_pow_sub_one]
  have e2 : (1023 : Nat).testBit j = decide (j < 10) := by rw [show (1023 : Nat) = 2 ^ 10 - 1 from rfl, Nat.testBit_two_pow_sub_one]
  simp only [BitVec.getLsbD_and, BitVec.getLsbD_xor, BitVec.getLsbD_ofNat, Nat.testBit_and, Nat.testBit_xor, e1, e2, hj, decide_true, Bool.true_and]
  by_cases h10 : j < 10
  · simp [h10]
  · have : a.testBit j = false := Nat.testBit_lt_two_pow (Nat.lt_of_lt_of_le ha (by rw [show (1024 : Nat) = 2 ^ 10 from rfl]; exact Nat.pow_le_pow_right (by decide) (by omega)))
    simp [this]
theorem one_bit : ∀ c, c < 1024 → popTo c 10 = 1 → ∃ p, p < 10 ∧ c = 2 ^ p := by decide +kernel
/-- the places that a row of MOVES must close -/
def closeN (h : HV) (u : LV) (q : Nat) : Nat := openTo u (hn h) &&& (q ^^^ 1023)
def bitN (x : Nat) : Nat := if x < 10 then 2 ^ x else 0
def hitB (h : HV) (u : LV) (q p t : Nat) : Bool := mayV h u t p && decide ((openTo u (hn h) ^^^ closeN h u q) ||| bitN (wh u t) = q)
def cntTo (f : Nat → Bool) : Nat → Nat
  | 0 => 0
  | t + 1 => cntTo f t + (if f t = true then 1 else 0)
theorem cntTo_le (f : Nat → Bool) : ∀ k, cntTo f k ≤ k
  | 0 => Nat.le_refl _
  | k + 1 => by
    have q := cntTo_le f k
    show cntTo f k + (if f k = true then 1 else 0) ≤ k + 1
    split <;> omega
/-- the number of the lowest bit, of ten -/
def lowTo (c : Nat) : Nat → Nat
  | 0 => 0
  | k + 1 => if c = 2 ^ k then k else lowTo c k
theorem low_ok : ∀ p, p < 10 → lowTo (2 ^ p) 10 = p := by decide
def lastN (h : HV) (u : LV) (q : Nat) : Nat := if popTo (closeN h u q) 10 = 1 then cntTo (hitB h u q (lowTo (closeN h u q) 10)) (hn h) else 0
theorem lastN_le {h : HV} {u : LV} {q : Nat} (ok : HOK h) : lastN h u q ≤ 10 := by
  unfold lastN
  split
  · exact Nat.le_trans (cntTo_le _ _) ok.1
  · exact Nat.zero_le _
def sumL (f : List Nat → Nat) : List (List Nat) → Nat
  | [] => 0
  | e :: l => f e + sumL f l
def logV (h : HV) (w : LV) (k q : Nat) : Nat := if k = 0 then (if openTo w (hn h) = q then 1 else 0) else sumL (fun e => lastN h (endV h w e) q) (rowsV h w (k - 1))
theorem open_1024 {h : HV} (ok : HOK h) (u : LV) : openTo u (hn h) < 1024 := Nat.lt_of_lt_of_le (openTo_lt u (hn h)) (by rw [show (1024 : Nat) = 2 ^ 10 from rfl]; exact Nat.pow_le_pow_right (by decide) ok.1)
theorem popTo_le (v : Nat) : ∀ k, popTo v k ≤ k
  | 0 => Nat.le_refl _
  | k + 1 => by
    have q := popTo_le v k
    show popTo v k + (if v.testBit k = true then 1 else 0) ≤ k + 1
    split <;> omega
set_option maxHeartbeats 4000000 in
set_option maxRecDepth 100000 in
theorem ctX5_bitOf (l : Launch) (g : Gx) (lo : Nat) (ad : Nat → Nat) {F : Nat → va_E} {x : Nat} (hx : x ≤ 200) : MI l g lo 196 ad yX5_bitOf wsX5_bitOf 0 0 [.int (nI x)] F (fun r F' => r = nI (bitN x) ∧ F' = F) := by
  refine enter (cc := cX5_bitOf) (maxL := 1) (ret := some .int) (own := RX5) (by decide +kernel) rfl rfl (Nat.le_of_ble_eq_true rfl) ?_
  intro pp ee ss mm below meth cc B hini hC ls hl
  have hl : lv_has ls 1 [(0, .int (nI x))] := hl
  refine lv_iload_n B.1 B.2.1 dX5_bitOf_0 rfl (lv_at hl 0 rfl) ?_
  refine lv_if_lt (tgt := 16) B.1 B.2.1 dX5_bitOf_1 (by decide) (fun z => absurd z (nI_pos (by omega))) (fun _ => ?_)
  refine lv_iload_n B.1 B.2.1 dX5_bitOf_4 rfl (lv_at hl 0 rfl) ?_
  refine lv_bipush (v := nI 10) B.1 B.2.1 dX5_bitOf_5 (by decide) ?_
  refine lv_icmp_ge (tgt := 16) B.1 B.2.1 dX5_bitOf_7 (by decide) (fun c_7 => ?_) (fun c_7 => ?_)
  · have q_7 : 10 ≤ x := (nI_leI (by omega) (by omega)).mp c_7
    refine lv_iconst (v := nI 0) B.1 B.2.1 dX5_bitOf_16 (by decide) ?_
    exact r_eI B hC (v := nI 0) (⟨by rw [bitN, if_neg (by omega)], rfl⟩) dX5_bitOf_17
  · have q_7 : ¬ 10 ≤ x := fun z => c_7 ((nI_leI (by omega) (by omega)).mpr z)
    refine lv_iconst (v := nI 1) B.1 B.2.1 dX5_bitOf_10 (by decide) ?_
    refine lv_iload_n B.1 B.2.1 dX5_bitOf_11 rfl (lv_at hl 0 rfl) ?_
    refine lv_ishl B.1 B.2.1 dX5_bitOf_12 ?_
    refine r_tI (y := nI (2 ^ x)) (shl_1 x (by omega)) ?_
    refine lv_goto (tgt := 17) B.1 B.2.1 dX5_bitOf_13 (by decide) ?_
    exact r_eI B hC (v := nI (2 ^ x)) (⟨by rw [bitN, if_pos (by omega)], rfl⟩) dX5_bitOf_17
theorem iwX5_lastMovesTo_X5 : ∀ w ∈ u_ws RX5 TX5 5, w ∈ wsX5_lastMovesTo := by decide +kernel
theorem flX5_lastMovesTo_19 : Cond.fieldLink RX5 19 RX5 (TX5 0).2.1 (TX5 0).2.2.1 ∈ wsX5_lastMovesTo := by decide +kernel
set_option maxHeartbeats 4000000 in
set_option maxRecDepth 100000 in
theorem ctX5_lastMovesTo (l : Launch) (g : Gx) (lo : Nat) (ad : Nat → Nat) {F : Nat → va_E} {h : HV} (hH : HullC g ad F h) (ok : HOK h) {b : Nat} {w : LV} (hb : 8 ≤ b ∧ b + 5 ≤ 196) (hL : LoadC g ad F b w) (hw : LOK h w) {fm : Nat} {fo : Nat → Int32} (hS : SeaC g ad F fm fo) {q : Nat} (hq : q < 1024) : MI l g lo 196 ad yX5_lastMovesTo wsX5_lastMovesTo 3 69 [.ref (ad (155)), .int (nI q), .ref (ad (b))] F (fun r F' => r = nI (lastN h w q) ∧ F' = F) := by
  obtain ⟨g0, g1, g2, g3, g4⟩ := id hH
  have okn := ok.1
  have okp := ok.2.1
  have okh := ok.2.2.1
  obtain ⟨h0, h1, h2, h3, h4⟩ := id hL
  obtain ⟨q0, q1⟩ := id hS
  have hc10 : closeN h w q < 1024 := Nat.lt_of_le_of_lt Nat.and_le_left (open_1024 ok w)
  have hpo : popTo (closeN h w q) 10 ≤ 10 := popTo_le _ _
  refine enter (cc := cX5_lastMovesTo) (maxL := 8) (ret := some .int) (own := RX5) (by decide +kernel) rfl rfl (Nat.le_of_ble_eq_true rfl) ?_
  intro pp ee ss mm below meth cc B hini hC ls hl
  have hl : lv_has ls 8 [(0, .ref (ad (155))), (1, .int (nI q)), (2, .ref (ad (b)))] := hl
  refine lv_aload_n B.1 B.2.1 dX5_lastMovesTo_0 rfl (lv_at hl 0 rfl) ?_
  refine r_cg B hC (i := 155) (by decide) q0 (C := RX5) (T := TX5) (n := 5) rfl iwX5_lastMovesTo_X5 0 (by decide) (index := 19) flX5_lastMovesTo_19 rfl (v := .ref (ad (3))) rfl dX5_lastMovesTo_1 ?_
  refine lv_aload_n B.1 B.2.1 dX5_lastMovesTo_4 rfl (lv_at hl 2 rfl) ?_
  refine r_calli B hC hl.1 (3) 2 rfl rfl (by decide) g0 (As := [.ref (ad (b))]) (ctX2_openPlaces l g lo ad hH ok hb hL hw) gX5_lastMovesTo_X2_openPlaces rfl (n := 1) rfl (by decide +kernel) ⟨Nat.le_of_ble_eq_true rfl, Nat.le_of_ble_eq_true rfl⟩ ⟨Nat.zero_le _, Nat.zero_le _⟩ rfl (Nat.le_of_ble_eq_true rfl) dX5_lastMovesTo_5 (fun r5 F1 H locs hp5 hC => ?_)
  obtain ⟨er, eF⟩ := hp5
  subst er
  rw [eF] at hC
  refine lv_istore_n (lv' := [(3, .int (nI (openTo w (hn h)))), (0, .ref (ad (155))), (1, .int (nI q)), (2, .ref (ad (b)))]) B.1 B.2.1 dX5_lastMovesTo_8 rfl hl (by decide) rfl (fun ls hl => ?_)
  refine lv_iload_n B.1 B.2.1 dX5_lastMovesTo_9 rfl (lv_at hl 0 rfl) ?_
  refine lv_iload_n B.1 B.2.1 dX5_lastMovesTo_10 rfl (lv_at hl 2 rfl) ?_
  refine lv_iconst (v := (-1)) B.1 B.2.1 dX5_lastMovesTo_11 (by decide) ?_
  refine r_tI (y := (-1)) (rfl) ?_
  refine lv_ixor B.1 B.2.1 dX5_lastMovesTo_12 ?_
  refine r_tI (y := nI q ^^^ (-1)) (rfl) ?_
  refine lv_iand B.1 B.2.1 dX5_lastMovesTo_13 ?_
  refine r_tI (y := nI (closeN h w q)) (and_not (open_1024 ok w) q) ?_
  refine lv_istore (lv' := [(4, .int (nI (closeN h w q))), (3, .int (nI (openTo w (hn h)))), (0, .ref (ad (155))), (1, .int (nI q)), (2, .ref (ad (b)))]) B.1 B.2.1 dX5_lastMovesTo_14 hl (by decide) rfl (fun ls hl => ?_)
  refine lv_iload B.1 B.2.1 dX5_lastMovesTo_16 (lv_at hl 0 rfl) ?_
  refine r_scalli B hC hl.1 (As := [.int (nI (closeN h w q))]) (ctJ6_bitCount l g lo ad (v := closeN h w q) hc10) gX5_lastMovesTo_J6_bitCount_0f7a4 rfl (n := 1) rfl (by decide +kernel) ⟨Nat.le_of_ble_eq_true rfl, Nat.le_of_ble_eq_true rfl⟩ ⟨Nat.zero_le _, Nat.zero_le _⟩ rfl (Nat.le_of_ble_eq_true rfl) dX5_lastMovesTo_18 (fun r18 F1 H locs hp18 hC => ?_)
  obtain ⟨er, eF⟩ := hp18
  subst er
  rw [eF] at hC
  refine lv_iconst (v := nI 1) B.1 B.2.1 dX5_lastMovesTo_21 (by decide) ?_
  refine lv_icmp_eq (tgt := 27) B.1 B.2.1 dX5_lastMovesTo_22 (by decide) (fun c_22 => ?_) (fun c_22 => ?_)
  · have q_22 := (nI_eq (by omega) (by decide)).mp c_22
    obtain ⟨p0, hp0, hcp⟩ := one_bit _ hc10 q_22
    refine lv_iload B.1 B.2.1 dX5_lastMovesTo_27 (lv_at hl 0 rfl) ?_
    refine r_tI (y := nI (2 ^ p0)) (by rw [hcp]) ?_
    refine r_scalli B hC hl.1 (As := [.int (nI (2 ^ p0))]) (ctJ6_ntz l g lo ad (p := p0) hp0) gX5_lastMovesTo_J6_numberOfTrailingZeros_0f7a4 rfl (n := 1) rfl (by decide +kernel) ⟨Nat.le_of_ble_eq_true rfl, Nat.le_of_ble_eq_true rfl⟩ ⟨Nat.zero_le _, Nat.zero_le _⟩ rfl (Nat.le_of_ble_eq_true rfl) dX5_lastMovesTo_29 (fun r29 F1 H locs hp29 hC => ?_)
    obtain ⟨er, eF⟩ := hp29
    subst er
    rw [eF] at hC
    refine lv_istore (lv' := [(5, .int (nI p0)), (4, .int (nI (closeN h w q))), (3, .int (nI (openTo w (hn h)))), (0, .ref (ad (155))), (1, .int (nI q)), (2, .ref (ad (b)))]) B.1 B.2.1 dX5_lastMovesTo_32 hl (by decide) rfl (fun ls hl => ?_)
    refine lv_iconst (v := nI 0) B.1 B.2.1 dX5_lastMovesTo_34 (by decide) ?_
    refine lv_istore (lv' := [(6, .int (nI 0)), (5, .int (nI p0)), (4, .int (nI (closeN h w q))), (3, .int (nI (openTo w (hn h)))), (0, .ref (ad (155))), (1, .int (nI q)), (2, .ref (ad (b)))]) B.1 B.2.1 dX5_lastMovesTo_35 hl (by decide) rfl (fun ls hl => ?_)
    refine lv_iconst (v := nI 0) B.1 B.2.1 dX5_lastMovesTo_37 (by decide) ?_
    refine lv_istore (lv' := [(7, .int (nI 0)), (6, .int (nI 0)), (5, .int (nI p0)), (4, .int (nI (closeN h w q))), (3, .int (nI (openTo w (hn h)))), (0, .ref (ad (155))), (1, .int (nI q)), (2, .ref (ad (b)))]) B.1 B.2.1 dX5_lastMovesTo_38 hl (by decide) rfl (fun ls hl => ?_)
    have loop40 : ∀ (k : Nat) (t a : Nat), (t + k = hn h) → (a = cntTo (hitB h w q p0) t) → ∀ (H : Heap) (locs : List Loc) (ls : Array Slot), Cu g lo 196 ad F ss ss.heap H locs → lv_has ls 8 [(7, .int (nI t)), (6, .int (nI a)), (5, .int (nI p0)), (4, .int (nI (closeN h w q))), (3, .int (nI (openTo w (hn h)))), (0, .ref (ad (155))), (1, .int (nI q)), (2, .ref (ad (b)))] → W pp l ee { frames := 3, cells := 0, slots := 0, locals := 69 } ss mm ([.ref (ad (155)), .int (nI q), .ref (ad (b))] : List Value).toArray below meth cc H locs 0 0 (MQ below (va_Qi (fun r F' => r = nI (lastN h w q) ∧ F' = F) (fun F' t => Wd g lo 196 ad F' t) (fun q => lo ≤ q)) ([.ref (ad (155)), .int (nI q), .ref (ad (b))] : List Value).toArray ss 0 0 (fun q => lo ≤ q)) (F0 mm 40 ls []) := by
      intro k
      induction k with
      | zero =>
        intro t a htk ha H locs ls hC hl
        have ho10 := open_1024 ok w
        have hor31 : ∀ {t : Nat}, (openTo w (hn h) ^^^ closeN h w q) ||| bitN (wh w t) < 2 ^ 31 := fun {t} => Nat.lt_trans (Nat.or_lt_two_pow (n := 10) (Nat.xor_lt_two_pow (by omega) (by omega)) (by unfold bitN; split; exact Nat.pow_lt_pow_right (by decide) (by omega); decide)) (by decide)
        refine lv_iload B.1 B.2.1 dX5_lastMovesTo_40 (lv_at hl 0 rfl) ?_
        refine lv_aload_n B.1 B.2.1 dX5_lastMovesTo_42 rfl (lv_at hl 5 rfl) ?_
        refine r_cg B hC (i := 155) (by decide) q0 (C := RX5) (T := TX5) (n := 5) rfl iwX5_lastMovesTo_X5 0 (by decide) (index := 19) flX5_lastMovesTo_19 rfl (v := .ref (ad (3))) rfl dX5_lastMovesTo_43 ?_
        refine r_calli B hC hl.1 (3) 2 rfl rfl (by decide) g0 (As := []) (ctX2_places l g lo ad hH ok) gX5_lastMovesTo_X2_places rfl (n := 0) rfl (by decide +kernel) ⟨Nat.le_of_ble_eq_true rfl, Nat.le_of_ble_eq_true rfl⟩ ⟨Nat.zero_le _, Nat.zero_le _⟩ rfl (Nat.le_of_ble_eq_true rfl) dX5_lastMovesTo_46 (fun r46 F1 H locs hp46 hC => ?_)
        obtain ⟨er, eF⟩ := hp46
        subst er
        rw [eF] at hC
        refine lv_icmp_ge (tgt := 94) B.1 B.2.1 dX5_lastMovesTo_49 (by decide) (fun _ => ?_) (fun z => absurd (nI_le (by omega) (by omega)) z)
        refine lv_iload B.1 B.2.1 dX5_lastMovesTo_94 (lv_at hl 1 rfl) ?_
        exact r_eI B hC (v := nI a) (⟨by rw [lastN, if_pos q_22, show lowTo (closeN h w q) 10 = p0 by rw [hcp]; exact low_ok p0 hp0, show hn h = t by omega, ha], rfl⟩) dX5_lastMovesTo_96
      | succ k ih40 =>
        intro t a htk ha H locs ls hC hl
        have ho10 := open_1024 ok w
        have hor31 : ∀ {t : Nat}, (openTo w (hn h) ^^^ closeN h w q) ||| bitN (wh w t) < 2 ^ 31 := fun {t} => Nat.lt_trans (Nat.or_lt_two_pow (n := 10) (Nat.xor_lt_two_pow (by omega) (by omega)) (by unfold bitN; split; exact Nat.pow_lt_pow_right (by decide) (by omega); decide)) (by decide)
        refine lv_iload B.1 B.2.1 dX5_lastMovesTo_40 (lv_at hl 0 rfl) ?_
        refine lv_aload_n B.1 B.2.1 dX5_lastMovesTo_42 rfl (lv_at hl 5 rfl) ?_
        refine r_cg B hC (i := 155) (by decide) q0 (C := RX5) (T := TX5) (n := 5) rfl iwX5_lastMovesTo_X5 0 (by decide) (index := 19) flX5_lastMovesTo_19 rfl (v := .ref (ad (3))) rfl dX5_lastMovesTo_43 ?_
        refine r_calli B hC hl.1 (3) 2 rfl rfl (by decide) g0 (As := []) (ctX2_places l g lo ad hH ok) gX5_lastMovesTo_X2_places rfl (n := 0) rfl (by decide +kernel) ⟨Nat.le_of_ble_eq_true rfl, Nat.le_of_ble_eq_true rfl⟩ ⟨Nat.zero_le _, Nat.zero_le _⟩ rfl (Nat.le_of_ble_eq_true rfl) dX5_lastMovesTo_46 (fun r46 F1 H locs hp46 hC => ?_)
        obtain ⟨er, eF⟩ := hp46
        subst er
        rw [eF] at hC
        refine lv_icmp_ge (tgt := 94) B.1 B.2.1 dX5_lastMovesTo_49 (by decide) (fun z => absurd z (nI_ge (by omega) (by omega))) (fun _ => ?_)
        refine lv_aload_n B.1 B.2.1 dX5_lastMovesTo_52 rfl (lv_at hl 5 rfl) ?_
        refine r_cg B hC (i := 155) (by decide) q0 (C := RX5) (T := TX5) (n := 5) rfl iwX5_lastMovesTo_X5 0 (by decide) (index := 19) flX5_lastMovesTo_19 rfl (v := .ref (ad (3))) rfl dX5_lastMovesTo_53 ?_
        refine lv_iload B.1 B.2.1 dX5_lastMovesTo_56 (lv_at hl 0 rfl) ?_
        refine lv_iload B.1 B.2.1 dX5_lastMovesTo_58 (lv_at hl 2 rfl) ?_
        refine lv_aload_n B.1 B.2.1 dX5_lastMovesTo_60 rfl (lv_at hl 7 rfl) ?_
        refine r_calli B hC hl.1 (3) 2 rfl rfl (by decide) g0 (As := [.int (nI t), .int (nI p0), .ref (ad (b))]) (ctX2_mayBeMoved l g lo ad hH ok hb hL hw (t := t) (p := p0) (by omega) hp0) gX5_lastMovesTo_X2_mayBeMoved rfl (n := 3) rfl (by decide +kernel) ⟨Nat.le_of_ble_eq_true rfl, Nat.le_of_ble_eq_true rfl⟩ ⟨Nat.zero_le _, Nat.zero_le _⟩ rfl (Nat.le_of_ble_eq_true rfl) dX5_lastMovesTo_61 (fun r61 F1 H locs hp61 hC => ?_)
        obtain ⟨er, eF⟩ := hp61
        subst er
        rw [eF] at hC
        refine lv_if_eq (tgt := 88) B.1 B.2.1 dX5_lastMovesTo_64 (by decide) (fun c_64 => ?_) (fun c_64 => ?_)
        · have q_64 : (mayV h w t p0) = false := bI_f.mp c_64
          refine lv_iinc (v := nI (t + 1)) (lv' := [(7, .int (nI (t + 1))), (6, .int (nI a)), (5, .int (nI p0)), (4, .int (nI (closeN h w q))), (3, .int (nI (openTo w (hn h)))), (0, .ref (ad (155))), (1, .int (nI q)), (2, .ref (ad (b)))]) B.1 B.2.1 dX5_lastMovesTo_88 hl (k := 0) rfl (nI_1 _) (by decide) rfl (fun ls hl => ?_)
          refine lv_goto (tgt := 40) B.1 B.2.1 dX5_lastMovesTo_91 (by decide) ?_
          exact ih40 (t + 1) (a) (by omega) (by simp only [cntTo, hitB, ha]; simp [q_64]) _ _ ls hC (lv_sub hl [0, 1, 2, 3, 4, 5, 6, 7] rfl)
        · have q_64 : (mayV h w t p0) = true := bI_t.mp c_64
          refine lv_iload_n B.1 B.2.1 dX5_lastMovesTo_67 rfl (lv_at hl 4 rfl) ?_
          refine lv_iload B.1 B.2.1 dX5_lastMovesTo_68 (lv_at hl 3 rfl) ?_
          refine lv_ixor B.1 B.2.1 dX5_lastMovesTo_70 ?_
          refine r_tI (y := nI (openTo w (hn h) ^^^ closeN h w q)) (nI_xor _ _) ?_
          refine lv_aload_n B.1 B.2.1 dX5_lastMovesTo_71 rfl (lv_at hl 7 rfl) ?_
          refine lv_iload B.1 B.2.1 dX5_lastMovesTo_72 (lv_at hl 0 rfl) ?_
          refine r_calli B hC hl.1 (b) 3 rfl rfl (by omega) h0 (As := [.int (nI t)]) (ctX3_whereIs l g lo ad hb hL (t := t) (by omega)) gX5_lastMovesTo_X3_whereIs rfl (n := 1) rfl (by decide +kernel) ⟨Nat.le_of_ble_eq_true rfl, Nat.le_of_ble_eq_true rfl⟩ ⟨Nat.zero_le _, Nat.zero_le _⟩ rfl (Nat.le_of_ble_eq_true rfl) dX5_lastMovesTo_74 (fun r74 F1 H locs hp74 hC => ?_)
          obtain ⟨er, eF⟩ := hp74
          subst er
          rw [eF] at hC
          refine r_scalli B hC hl.1 (As := [.int (nI (wh w t))]) (ctX5_bitOf l g lo ad (x := wh w t) (hw.1 t).1) gX5_lastMovesTo_X5_bitOf rfl (n := 1) rfl (by decide +kernel) ⟨Nat.le_of_ble_eq_true rfl, Nat.le_of_ble_eq_true rfl⟩ ⟨Nat.zero_le _, Nat.zero_le _⟩ rfl (Nat.le_of_ble_eq_true rfl) dX5_lastMovesTo_77 (fun r77 F1 H locs hp77 hC => ?_)
          obtain ⟨er, eF⟩ := hp77
          subst er
          rw [eF] at hC
          refine lv_ior B.1 B.2.1 dX5_lastMovesTo_80 ?_
          refine r_tI (y := nI ((openTo w (hn h) ^^^ closeN h w q) ||| bitN (wh w t))) (nI_or _ _) ?_
          refine lv_iload_n B.1 B.2.1 dX5_lastMovesTo_81 rfl (lv_at hl 6 rfl) ?_
          refine lv_icmp_ne (tgt := 88) B.1 B.2.1 dX5_lastMovesTo_82 (by decide) (fun c_82 => ?_) (fun c_82 => ?_)
          · have q_82 : ¬ (openTo w (hn h) ^^^ closeN h w q) ||| bitN (wh w t) = q := fun z => c_82 (by rw [z])
            refine lv_iinc (v := nI (t + 1)) (lv' := [(7, .int (nI (t + 1))), (6, .int (nI a)), (5, .int (nI p0)), (4, .int (nI (closeN h w q))), (3, .int (nI (openTo w (hn h)))), (0, .ref (ad (155))), (1, .int (nI q)), (2, .ref (ad (b)))]) B.1 B.2.1 dX5_lastMovesTo_88 hl (k := 0) rfl (nI_1 _) (by decide) rfl (fun ls hl => ?_)
            refine lv_goto (tgt := 40) B.1 B.2.1 dX5_lastMovesTo_91 (by decide) ?_
            exact ih40 (t + 1) (a) (by omega) (by simp only [cntTo, hitB, ha]; simp [q_64, q_82]) _ _ ls hC (lv_sub hl [0, 1, 2, 3, 4, 5, 6, 7] rfl)
          · have q_82 : (openTo w (hn h) ^^^ closeN h w q) ||| bitN (wh w t) = q := (nI_eq hor31 (by omega)).mp c_82
            refine lv_iinc (v := nI (a + 1)) (lv' := [(6, .int (nI (a + 1))), (7, .int (nI t)), (5, .int (nI p0)), (4, .int (nI (closeN h w q))), (3, .int (nI (openTo w (hn h)))), (0, .ref (ad (155))), (1, .int (nI q)), (2, .ref (ad (b)))]) B.1 B.2.1 dX5_lastMovesTo_85 hl (k := 1) rfl (nI_1 _) (by decide) rfl (fun ls hl => ?_)
            refine lv_iinc (v := nI (t + 1)) (lv' := [(7, .int (nI (t + 1))), (6, .int (nI (a + 1))), (5, .int (nI p0)), (4, .int (nI (closeN h w q))), (3, .int (nI (openTo w (hn h)))), (0, .ref (ad (155))), (1, .int (nI q)), (2, .ref (ad (b)))]) B.1 B.2.1 dX5_lastMovesTo_88 hl (k := 1) rfl (nI_1 _) (by decide) rfl (fun ls hl => ?_)
            refine lv_goto (tgt := 40) B.1 B.2.1 dX5_lastMovesTo_91 (by decide) ?_
            exact ih40 (t + 1) ((a + 1)) (by omega) (by simp only [cntTo, hitB, ha]; simp [q_64, q_82]) _ _ ls hC (lv_sub hl [0, 1, 2, 3, 4, 5, 6, 7] rfl)
    exact loop40 (hn h) 0 0 (by omega) rfl _ _ ls hC (lv_sub hl [0, 1, 2, 3, 4, 5, 6, 7] rfl)
  · have q_22 : ¬ popTo (closeN h w q) 10 = 1 := fun z => c_22 ((nI_eq (by omega) (by decide)).mpr z)
    refine lv_iconst (v := nI 0) B.1 B.2.1 dX5_lastMovesTo_25 (by decide) ?_
    exact r_eI B hC (v := nI 0) (⟨by rw [lastN, if_neg q_22], rfl⟩) dX5_lastMovesTo_26
