/-! TEXT: its bytes, its length; what its methods answer and change -/
def sB (n : Nat) : Int32 := (nI n).toInt8.toInt32
theorem sB_255 {n : Nat} (h : n < 256) : sB n &&& nI 255 = nI n := sc_k8 n h
def y1 (o : Option Nat) : Int32 := match o with
  | none => -1
  | some k => nI k
abbrev TV : Type := (Nat → Nat) × Nat
def tb (v : TV) : Nat → Nat := v.1
def tn (v : TV) : Nat := v.2
/-- the byte at i, if there is one -/
def tat (v : TV) (i : Nat) : Option Nat := if i < tn v then some (tb v i) else none
def TextC (g : Gx) (ad : Nat → Nat) (F : Nat → va_E) (v : TV) : Prop := F 1 = .inr (7, [.ref (ad 2), .int (nI (tn v))]) ∧ F 2 = .inl (g.2.2 1, 72, .inl (fun j => sB (tb v j)))
theorem TextC.keep {g : Gx} {ad : Nat → Nat} {F F' : Nat → va_E} {v : TV} {x y : Nat} (h : TextC g ad F v) (hs : Same x y F F') (hd : 3 ≤ x ∨ y ≤ 1) : TextC g ad F' v := ⟨by rw [hs _ (by omega)]; exact h.1, by rw [hs _ (by omega)]; exact h.2⟩
def TOK (v : TV) : Prop := tn v ≤ 72 ∧ ∀ j, tb v j < 256
/-- a figure at i: a or more, below m -/
def isFig (v : TV) (i a m : Nat) : Bool := match tat v i with
  | none => false
  | some c => decide (48 + a ≤ c) && decide (c < 48 + m)
def bop (v : TV) (i : Nat) : Nat := if tat v i = some 80 then 6 else 4
theorem tat_lt {v : TV} (ok : TOK v) {i k : Nat} (h : tat v i = some k) : k < 256 := by
  unfold tat at h
  split at h
  · cases h; exact ok.2 i
  · cases h
theorem y1_eq {v : TV} (ok : TOK v) {i k : Nat} (hk : k < 256) : y1 (tat v i) = nI k ↔ tat v i = some k := by
  cases h : tat v i with
  | none =>
    simp only [y1, reduceCtorEq, iff_false]
    intro q
    have a := nI_toInt (show k < 2 ^ 31 by omega)
    rw [← q] at a
    have b : (-1 : Int32).toInt = -1 := by decide
    omega
  | some c =>
    have hc := tat_lt ok h
    simp only [y1, Option.some.injEq]
    exact nI_eq (by omega) (by omega)
theorem y1_48 {v : TV} (ok : TOK v) {i : Nat} : y1 (tat v i) - nI 48 = 0 ↔ tat v i = some 48 := by
  cases h : tat v i with
  | none =>
    simp only [y1, reduceCtorEq, iff_false]
    decide
  | some c =>
    have hc := tat_lt ok h
    simp only [y1, Option.some.injEq]
    constructor
    · intro q
      have a := pk_sub_toInt (show c < 2 ^ 30 by omega) (show 48 < 2 ^ 30 by decide)
      rw [q, Int32.toInt_zero] at a
      omega
    · intro q
      subst q
      decide
theorem fg_lt {v : TV} (ok : TOK v) {i a : Nat} (ha : a ≤ 9) : y1 (tat v i) - nI 48 < nI a ↔ ∀ c, tat v i = some c → c < 48 + a := by
  rw [Int32.lt_iff_toInt_lt, nI_toInt (by omega)]
  cases h : tat v i with
  | none =>
    have b : (y1 none - nI 48).toInt = -49 := by decide
    rw [b]
    constructor
    · intro _ c hc; cases hc
    · intro _; omega
  | some c =>
    have hc := tat_lt ok h
    have b := pk_sub_toInt (show c < 2 ^ 30 by omega) (show 48 < 2 ^ 30 by decide)
    rw [show y1 (some c) = nI c from rfl, b]
    constructor
    · intro q d hd; cases hd; omega
    · intro q; have := q c rfl; omega
theorem fg_gt {v : TV} (ok : TOK v) {i m : Nat} (hm : m ≤ 10) : nI m - nI 1 < y1 (tat v i) - nI 48 ↔ ∃ c, tat v i = some c ∧ 48 + m ≤ c := by
  rw [Int32.lt_iff_toInt_lt, pk_sub_toInt (by omega) (by decide)]
  cases h : tat v i with
  | none =>
    have b : (y1 none - nI 48).toInt = -49 := by decide
    rw [b]
    constructor
    · intro _; omega
    · intro ⟨c, hc, _⟩; cases hc
  | some c =>
    have hc := tat_lt ok h
    have b := pk_sub_toInt (show c < 2 ^ 30 by omega) (show 48 < 2 ^ 30 by decide)
    rw [show y1 (some c) = nI c from rfl, b]
    constructor
    · intro q; exact ⟨c, rfl, by omega⟩
    · intro ⟨d, hd, q⟩; cases hd; omega
/-- the FAULT in the head; in a place; in all -/
def fHead (v : TV) : Option Nat := if tat v 0 = some 83 then (if isFig v 1 0 10 = true then (if isFig v 2 0 10 = true then (if isFig v 3 (if tat v 2 = some 48 then 1 else 0) 10 = true then none else some 3) else some 2) else some 1) else some 0
def fTimber (v : TV) (i : Nat) : Option Nat := if isFig v (i + 4) 0 3 = true then (if isFig v (i + 5) 0 10 = true then none else some (i + 5)) else some (i + 4)
def fPlace (v : TV) (i p : Nat) : Option Nat :=
  if tat v i = some 80 ∨ tat v i = some 79 then (if isFig v (i + 1) 1 10 = true then (if isFig v (i + 2) 0 10 = true then (if tat v (i + 3) = some 45 ∨ isFig v (i + 3) 0 p = true then (if tat v i = some 80 then fTimber v i else none) else some (i + 3)) else some (i + 2)) else some (i + 1)) else some i
theorem iwX7_byteAt_X7 : ∀ w ∈ u_ws RX7 TX7 2, w ∈ wsX7_byteAt := by decide +kernel
theorem flX7_byteAt_9 : Cond.fieldLink RX7 9 RX7 (TX7 0).2.1 (TX7 0).2.2.1 ∈ wsX7_byteAt := by decide +kernel
theorem flX7_byteAt_15 : Cond.fieldLink RX7 15 RX7 (TX7 1).2.1 (TX7 1).2.2.1 ∈ wsX7_byteAt := by decide +kernel
set_option maxHeartbeats 4000000 in
set_option maxRecDepth 100000 in
theorem ctX7_byteAt (l : Launch) (g : Gx) (lo : Nat) (ad : Nat → Nat) {F : Nat → va_E} {v : TV} (hT : TextC g ad F v) (ok : TOK v) {i : Nat} (hi : i < 1000) : MI l g lo 196 ad yX7_byteAt wsX7_byteAt 0 0 [.ref (ad (1)), .int (nI i)] F (fun r F' => r = y1 (tat v i) ∧ F' = F) := by
  obtain ⟨h0, h1⟩ := id hT
  have okn := ok.1
  refine enter (cc := cX7_byteAt) (maxL := 2) (ret := some .int) (own := RX7) (by decide +kernel) rfl rfl (Nat.le_of_ble_eq_true rfl) ?_
  intro pp ee ss mm below meth cc B hini hC ls hl
  have hl : lv_has ls 2 [(0, .ref (ad (1))), (1, .int (nI i))] := hl
  refine lv_iload_n B.1 B.2.1 dX7_byteAt_0 rfl (lv_at hl 1 rfl) ?_
  refine lv_if_lt (tgt := 34) B.1 B.2.1 dX7_byteAt_1 (by decide) (fun z => absurd z (nI_pos (by omega))) (fun _ => ?_)
  refine lv_iload_n B.1 B.2.1 dX7_byteAt_4 rfl (lv_at hl 1 rfl) ?_
  refine lv_aload_n B.1 B.2.1 dX7_byteAt_5 rfl (lv_at hl 0 rfl) ?_
  refine r_cg B hC (i := 1) (by decide) h0 (C := RX7) (T := TX7) (n := 2) rfl iwX7_byteAt_X7 1 (by decide) (index := 15) flX7_byteAt_15 rfl (v := .int (nI (tn v))) rfl dX7_byteAt_6 ?_
  refine lv_icmp_ge (tgt := 34) B.1 B.2.1 dX7_byteAt_9 (by decide) (fun c_9 => ?_) (fun c_9 => ?_)
  · have q_9 : (tn v) ≤ i := (nI_leI (by omega) (by omega)).mp c_9
    refine lv_iconst (v := (-1)) B.1 B.2.1 dX7_byteAt_34 (by decide) ?_
    exact r_eI B hC (v := (-1)) (⟨by rw [tat, if_neg (by omega)]; rfl, rfl⟩) dX7_byteAt_35
  · have q_9 : ¬ (tn v) ≤ i := fun z => c_9 ((nI_leI (by omega) (by omega)).mpr z)
    refine lv_iload_n B.1 B.2.1 dX7_byteAt_12 rfl (lv_at hl 1 rfl) ?_
    refine lv_aload_n B.1 B.2.1 dX7_byteAt_13 rfl (lv_at hl 0 rfl) ?_
    refine r_cg B hC (i := 1) (by decide) h0 (C := RX7) (T := TX7) (n := 2) rfl iwX7_byteAt_X7 0 (by decide) (index := 9) flX7_byteAt_9 rfl (v := .ref (ad (2))) rfl dX7_byteAt_14 ?_
    refine r_calen B hC (i := 2) (by decide) h1 1 rfl (n := 72) rfl dX7_byteAt_17 ?_
    refine lv_icmp_ge (tgt := 34) B.1 B.2.1 dX7_byteAt_18 (by decide) (fun z => absurd z (nI_ge (by omega) (by omega))) (fun _ => ?_)
    refine lv_aload_n B.1 B.2.1 dX7_byteAt_21 rfl (lv_at hl 0 rfl) ?_
    refine r_cg B hC (i := 1) (by decide) h0 (C := RX7) (T := TX7) (n := 2) rfl iwX7_byteAt_X7 0 (by decide) (index := 9) flX7_byteAt_9 rfl (v := .ref (ad (2))) rfl dX7_byteAt_22 ?_
    refine lv_iload_n B.1 B.2.1 dX7_byteAt_25 rfl (lv_at hl 1 rfl) ?_
    refine r_cbald B hC (i := 2) (by decide) h1 (j := i) (by omega) (by decide) dX7_byteAt_26 ?_
    refine r_tI (y := sB (tb v i)) rfl ?_
    refine lv_sipush (v := nI 255) B.1 B.2.1 dX7_byteAt_27 (by decide) ?_
    refine lv_iand B.1 B.2.1 dX7_byteAt_30 ?_
    refine r_tI (y := nI (tb v i)) (sB_255 (ok.2 _)) ?_
    refine lv_goto (tgt := 35) B.1 B.2.1 dX7_byteAt_31 (by decide) ?_
    exact r_eI B hC (v := nI (tb v i)) (⟨by rw [tat, if_pos (by omega)]; rfl, rfl⟩) dX7_byteAt_35
set_option maxHeartbeats 4000000 in
set_option maxRecDepth 100000 in
theorem ctX7_figureAt (l : Launch) (g : Gx) (lo : Nat) (ad : Nat → Nat) {F : Nat → va_E} {v : TV} (hT : TextC g ad F v) (ok : TOK v) {i : Nat} (hi : i < 1000) : MI l g lo 196 ad yX7_figureAt wsX7_figureAt 1 21 [.ref (ad (1)), .int (nI i)] F (fun r F' => r = y1 (tat v i) - nI 48 ∧ F' = F) := by
  obtain ⟨h0, h1⟩ := id hT
  have okn := ok.1
  refine enter (cc := cX7_figureAt) (maxL := 2) (ret := some .int) (own := RX7) (by decide +kernel) rfl rfl (Nat.le_of_ble_eq_true rfl) ?_
  intro pp ee ss mm below meth cc B hini hC ls hl
  have hl : lv_has ls 2 [(0, .ref (ad (1))), (1, .int (nI i))] := hl
  refine lv_aload_n B.1 B.2.1 dX7_figureAt_0 rfl (lv_at hl 0 rfl) ?_
  refine lv_iload_n B.1 B.2.1 dX7_figureAt_1 rfl (lv_at hl 1 rfl) ?_
  refine r_calli B hC hl.1 (1) 7 rfl rfl (by decide) h0 (As := [.int (nI i)]) (ctX7_byteAt l g lo ad hT ok (i := i) (by omega)) gX7_figureAt_X7_byteAt rfl (n := 1) rfl (by decide +kernel) ⟨Nat.le_of_ble_eq_true rfl, Nat.le_of_ble_eq_true rfl⟩ ⟨Nat.zero_le _, Nat.zero_le _⟩ rfl (Nat.le_of_ble_eq_true rfl) dX7_figureAt_2 (fun r2 F1 H locs hp2 hC => ?_)
  obtain ⟨er, eF⟩ := hp2
  subst er
  rw [eF] at hC
  refine lv_bipush (v := nI 48) B.1 B.2.1 dX7_figureAt_5 (by decide) ?_
  refine lv_isub B.1 B.2.1 dX7_figureAt_7 ?_
  refine r_tI (y := y1 (tat v i) - nI 48) (rfl) ?_
  exact r_eI B hC (v := y1 (tat v i) - nI 48) (⟨rfl, rfl⟩) dX7_figureAt_8
set_option maxHeartbeats 4000000 in
set_option maxRecDepth 100000 in
theorem ctX7_isFilledPlace (l : Launch) (g : Gx) (lo : Nat) (ad : Nat → Nat) {F : Nat → va_E} {v : TV} (hT : TextC g ad F v) (ok : TOK v) {i : Nat} (hi : i < 1000) : MI l g lo 196 ad yX7_isFilledPlace wsX7_isFilledPlace 1 21 [.ref (ad (1)), .int (nI i)] F (fun r F' => r = bI (decide (tat v i = some 80)) ∧ F' = F) := by
  obtain ⟨h0, h1⟩ := id hT
  have okn := ok.1
  refine enter (cc := cX7_isFilledPlace) (maxL := 2) (ret := some .boolean) (own := RX7) (by decide +kernel) rfl rfl (Nat.le_of_ble_eq_true rfl) ?_
  intro pp ee ss mm below meth cc B hini hC ls hl
  have hl : lv_has ls 2 [(0, .ref (ad (1))), (1, .int (nI i))] := hl
  refine lv_aload_n B.1 B.2.1 dX7_isFilledPlace_0 rfl (lv_at hl 0 rfl) ?_
  refine lv_iload_n B.1 B.2.1 dX7_isFilledPlace_1 rfl (lv_at hl 1 rfl) ?_
  refine r_calli B hC hl.1 (1) 7 rfl rfl (by decide) h0 (As := [.int (nI i)]) (ctX7_byteAt l g lo ad hT ok (i := i) (by omega)) gX7_isFilledPlace_X7_byteAt rfl (n := 1) rfl (by decide +kernel) ⟨Nat.le_of_ble_eq_true rfl, Nat.le_of_ble_eq_true rfl⟩ ⟨Nat.zero_le _, Nat.zero_le _⟩ rfl (Nat.le_of_ble_eq_true rfl) dX7_isFilledPlace_2 (fun r2 F1 H locs hp2 hC => ?_)
  obtain ⟨er, eF⟩ := hp2
  subst er
  rw [eF] at hC
  refine lv_bipush (v := nI 80) B.1 B.2.1 dX7_isFilledPlace_5 (by decide) ?_
  refine lv_icmp_ne (tgt := 14) B.1 B.2.1 dX7_isFilledPlace_7 (by decide) (fun c_7 => ?_) (fun c_7 => ?_)
  · have q_7 : ¬ tat v i = some 80 := fun z => c_7 ((y1_eq ok (by decide)).mpr z)
    refine lv_iconst (v := nI 0) B.1 B.2.1 dX7_isFilledPlace_14 (by decide) ?_
    exact r_eZ B hC (v := nI 0) (rfl) (⟨by simp [q_7, bI]; rfl, rfl⟩) dX7_isFilledPlace_15
  · have q_7 := (y1_eq ok (i := i) (k := 80) (by decide)).mp c_7
    refine lv_iconst (v := nI 1) B.1 B.2.1 dX7_isFilledPlace_10 (by decide) ?_
    refine lv_goto (tgt := 15) B.1 B.2.1 dX7_isFilledPlace_11 (by decide) ?_
    exact r_eZ B hC (v := nI 1) (rfl) (⟨by simp [q_7, bI]; rfl, rfl⟩) dX7_isFilledPlace_15
set_option maxHeartbeats 4000000 in
set_option maxRecDepth 100000 in
theorem ctX7_bytesOfPlace (l : Launch) (g : Gx) (lo : Nat) (ad : Nat → Nat) {F : Nat → va_E} {v : TV} (hT : TextC g ad F v) (ok : TOK v) {i : Nat} (hi : i < 1000) : MI l g lo 196 ad yX7_bytesOfPlace wsX7_bytesOfPlace 2 42 [.ref (ad (1)), .int (nI i)] F (fun r F' => r = nI (bop v i) ∧ F' = F) := by
  obtain ⟨h0, h1⟩ := id hT
  have okn := ok.1
  refine enter (cc := cX7_bytesOfPlace) (maxL := 2) (ret := some .int) (own := RX7) (by decide +kernel) rfl rfl (Nat.le_of_ble_eq_true rfl) ?_
  intro pp ee ss mm below meth cc B hini hC ls hl
  have hl : lv_has ls 2 [(0, .ref (ad (1))), (1, .int (nI i))] := hl
  refine lv_aload_n B.1 B.2.1 dX7_bytesOfPlace_0 rfl (lv_at hl 0 rfl) ?_
  refine lv_iload_n B.1 B.2.1 dX7_bytesOfPlace_1 rfl (lv_at hl 1 rfl) ?_
  refine r_calli B hC hl.1 (1) 7 rfl rfl (by decide) h0 (As := [.int (nI i)]) (ctX7_isFilledPlace l g lo ad hT ok (i := i) (by omega)) gX7_bytesOfPlace_X7_isFilledPlace rfl (n := 1) rfl (by decide +kernel) ⟨Nat.le_of_ble_eq_true rfl, Nat.le_of_ble_eq_true rfl⟩ ⟨Nat.zero_le _, Nat.zero_le _⟩ rfl (Nat.le_of_ble_eq_true rfl) dX7_bytesOfPlace_2 (fun r2 F1 H locs hp2 hC => ?_)
  obtain ⟨er, eF⟩ := hp2
  subst er
  rw [eF] at hC
  refine lv_if_eq (tgt := 13) B.1 B.2.1 dX7_bytesOfPlace_5 (by decide) (fun c_5 => ?_) (fun c_5 => ?_)
  · have q_5 : (decide (tat v i = some 80)) = false := bI_f.mp c_5
    refine lv_iconst (v := nI 4) B.1 B.2.1 dX7_bytesOfPlace_13 (by decide) ?_
    exact r_eI B hC (v := nI 4) (⟨by have q := of_decide_eq_false q_5; simp [bop, q], rfl⟩) dX7_bytesOfPlace_14
  · have q_5 : (decide (tat v i = some 80)) = true := bI_t.mp c_5
    refine lv_bipush (v := nI 6) B.1 B.2.1 dX7_bytesOfPlace_8 (by decide) ?_
    refine lv_goto (tgt := 14) B.1 B.2.1 dX7_bytesOfPlace_10 (by decide) ?_
    exact r_eI B hC (v := nI 6) (⟨by have q := of_decide_eq_true q_5; simp [bop, q], rfl⟩) dX7_bytesOfPlace_14
set_option maxHeartbeats 4000000 in
set_option maxRecDepth 100000 in
theorem ctX7_isFigure (l : Launch) (g : Gx) (lo : Nat) (ad : Nat → Nat) {F : Nat → va_E} {v : TV} (hT : TextC g ad F v) (ok : TOK v) {i a m : Nat} (hi : i < 1000) (ha : a ≤ 9) (hm : m ≤ 10) : MI l g lo 196 ad yX7_isFigure wsX7_isFigure 2 42 [.ref (ad (1)), .int (nI i), .int (nI a), .int (nI m - nI 1)] F (fun r F' => r = bI (isFig v i a m) ∧ F' = F) := by
  obtain ⟨h0, h1⟩ := id hT
  have okn := ok.1
  refine enter (cc := cX7_isFigure) (maxL := 4) (ret := some .boolean) (own := RX7) (by decide +kernel) rfl rfl (Nat.le_of_ble_eq_true rfl) ?_
  intro pp ee ss mm below meth cc B hini hC ls hl
  have hl : lv_has ls 4 [(0, .ref (ad (1))), (1, .int (nI i)), (2, .int (nI a)), (3, .int (nI m - nI 1))] := hl
  refine lv_aload_n B.1 B.2.1 dX7_isFigure_0 rfl (lv_at hl 0 rfl) ?_
  refine lv_iload_n B.1 B.2.1 dX7_isFigure_1 rfl (lv_at hl 1 rfl) ?_
  refine r_calli B hC hl.1 (1) 7 rfl rfl (by decide) h0 (As := [.int (nI i)]) (ctX7_figureAt l g lo ad hT ok (i := i) (by omega)) gX7_isFigure_X7_figureAt rfl (n := 1) rfl (by decide +kernel) ⟨Nat.le_of_ble_eq_true rfl, Nat.le_of_ble_eq_true rfl⟩ ⟨Nat.zero_le _, Nat.zero_le _⟩ rfl (Nat.le_of_ble_eq_true rfl) dX7_isFigure_2 (fun r2 F1 H locs hp2 hC => ?_)
  obtain ⟨er, eF⟩ := hp2
  subst er
  rw [eF] at hC
  refine lv_iload_n B.1 B.2.1 dX7_isFigure_5 rfl (lv_at hl 2 rfl) ?_
  refine lv_icmp_lt (tgt := 22) B.1 B.2.1 dX7_isFigure_6 (by decide) (fun c_6 => ?_) (fun c_6 => ?_)
  · have q_6 := (fg_lt ok ha).mp c_6
    refine lv_iconst (v := nI 0) B.1 B.2.1 dX7_isFigure_22 (by decide) ?_
    exact r_eZ B hC (v := nI 0) (rfl) (⟨by
    have hs : isFig v i a m = false := by
      unfold isFig
      cases hh : tat v i with
      | none => rfl
      | some c => have z := q_6 c hh; simp; omega
    rw [hs]; rfl, rfl⟩) dX7_isFigure_23
  · have q_6 := fun z => c_6 ((fg_lt ok ha).mpr z)
    refine lv_aload_n B.1 B.2.1 dX7_isFigure_9 rfl (lv_at hl 0 rfl) ?_
    refine lv_iload_n B.1 B.2.1 dX7_isFigure_10 rfl (lv_at hl 1 rfl) ?_
    refine r_calli B hC hl.1 (1) 7 rfl rfl (by decide) h0 (As := [.int (nI i)]) (ctX7_figureAt l g lo ad hT ok (i := i) (by omega)) gX7_isFigure_X7_figureAt rfl (n := 1) rfl (by decide +kernel) ⟨Nat.le_of_ble_eq_true rfl, Nat.le_of_ble_eq_true rfl⟩ ⟨Nat.zero_le _, Nat.zero_le _⟩ rfl (Nat.le_of_ble_eq_true rfl) dX7_isFigure_11 (fun r11 F1 H locs hp11 hC => ?_)
    obtain ⟨er, eF⟩ := hp11
    subst er
    rw [eF] at hC
    refine lv_iload_n B.1 B.2.1 dX7_isFigure_14 rfl (lv_at hl 3 rfl) ?_
    refine lv_icmp_gt (tgt := 22) B.1 B.2.1 dX7_isFigure_15 (by decide) (fun c_15 => ?_) (fun c_15 => ?_)
    · have q_15 := (fg_gt ok hm).mp c_15
      refine lv_iconst (v := nI 0) B.1 B.2.1 dX7_isFigure_22 (by decide) ?_
      exact r_eZ B hC (v := nI 0) (rfl) (⟨by
    have hs : isFig v i a m = false := by
      unfold isFig
      cases hh : tat v i with
      | none => rfl
      | some c => obtain ⟨d, hd, z⟩ := q_15; rw [hh] at hd; cases hd; simp; omega
    rw [hs]; rfl, rfl⟩) dX7_isFigure_23
    · have q_15 := fun z => c_15 ((fg_gt ok hm).mpr z)
      refine lv_iconst (v := nI 1) B.1 B.2.1 dX7_isFigure_18 (by decide) ?_
      refine lv_goto (tgt := 23) B.1 B.2.1 dX7_isFigure_19 (by decide) ?_
      exact r_eZ B hC (v := nI 1) (rfl) (⟨by
    have hs : isFig v i a m = true := by
      unfold isFig
      cases hh : tat v i with
      | none => exact absurd (fun c hc => by rw [hh] at hc; cases hc) q_6
      | some c => simp only [Bool.and_eq_true, decide_eq_true_eq]; refine ⟨Nat.not_lt.mp fun z => q_6 fun d hd => ?_, Nat.not_le.mp fun z => q_15 ⟨c, hh, z⟩⟩; rw [hh] at hd; cases hd; exact z
    rw [hs]; rfl, rfl⟩) dX7_isFigure_23
theorem iwX7_hasRoomFor_X7 : ∀ w ∈ u_ws RX7 TX7 2, w ∈ wsX7_hasRoomFor := by decide +kernel
theorem flX7_hasRoomFor_9 : Cond.fieldLink RX7 9 RX7 (TX7 0).2.1 (TX7 0).2.2.1 ∈ wsX7_hasRoomFor := by decide +kernel
theorem flX7_hasRoomFor_15 : Cond.fieldLink RX7 15 RX7 (TX7 1).2.1 (TX7 1).2.2.1 ∈ wsX7_hasRoomFor := by decide +kernel
set_option maxHeartbeats 4000000 in
set_option maxRecDepth 100000 in
theorem ctX7_hasRoomFor (l : Launch) (g : Gx) (lo : Nat) (ad : Nat → Nat) {F : Nat → va_E} {v : TV} (hT : TextC g ad F v) (ok : TOK v) {n : Nat} (hn : n ≤ 8) : MI l g lo 196 ad yX7_hasRoomFor wsX7_hasRoomFor 0 0 [.ref (ad (1)), .int (nI n)] F (fun r F' => r = bI (decide (tn v + n ≤ 72)) ∧ F' = F) := by
  obtain ⟨h0, h1⟩ := id hT
  have okn := ok.1
  refine enter (cc := cX7_hasRoomFor) (maxL := 2) (ret := some .boolean) (own := RX7) (by decide +kernel) rfl rfl (Nat.le_of_ble_eq_true rfl) ?_
  intro pp ee ss mm below meth cc B hini hC ls hl
  have hl : lv_has ls 2 [(0, .ref (ad (1))), (1, .int (nI n))] := hl
  refine lv_aload_n B.1 B.2.1 dX7_hasRoomFor_0 rfl (lv_at hl 0 rfl) ?_
  refine r_cg B hC (i := 1) (by decide) h0 (C := RX7) (T := TX7) (n := 2) rfl iwX7_hasRoomFor_X7 1 (by decide) (index := 15) flX7_hasRoomFor_15 rfl (v := .int (nI (tn v))) rfl dX7_hasRoomFor_1 ?_
  refine lv_iload_n B.1 B.2.1 dX7_hasRoomFor_4 rfl (lv_at hl 1 rfl) ?_
  refine lv_iadd B.1 B.2.1 dX7_hasRoomFor_5 ?_
  refine r_tI (y := nI ((tn v) + n)) (nI_add _ _) ?_
  refine lv_aload_n B.1 B.2.1 dX7_hasRoomFor_6 rfl (lv_at hl 0 rfl) ?_
  refine r_cg B hC (i := 1) (by decide) h0 (C := RX7) (T := TX7) (n := 2) rfl iwX7_hasRoomFor_X7 0 (by decide) (index := 9) flX7_hasRoomFor_9 rfl (v := .ref (ad (2))) rfl dX7_hasRoomFor_7 ?_
  refine r_calen B hC (i := 2) (by decide) h1 1 rfl (n := 72) rfl dX7_hasRoomFor_10 ?_
  refine lv_icmp_gt (tgt := 18) B.1 B.2.1 dX7_hasRoomFor_11 (by decide) (fun c_11 => ?_) (fun c_11 => ?_)
  · have q_11 : 72 < ((tn v) + n) := (nI_ltI (by omega) (by omega)).mp c_11
    refine lv_iconst (v := nI 0) B.1 B.2.1 dX7_hasRoomFor_18 (by decide) ?_
    exact r_eZ B hC (v := nI 0) (rfl) (⟨by rw [decide_eq_false (show ¬ tn v + n ≤ 72 by omega)]; rfl, rfl⟩) dX7_hasRoomFor_19
  · have q_11 : ¬ 72 < ((tn v) + n) := fun z => c_11 ((nI_ltI (by omega) (by omega)).mpr z)
    refine lv_iconst (v := nI 1) B.1 B.2.1 dX7_hasRoomFor_14 (by decide) ?_
    refine lv_goto (tgt := 19) B.1 B.2.1 dX7_hasRoomFor_15 (by decide) ?_
    exact r_eZ B hC (v := nI 1) (rfl) (⟨by rw [decide_eq_true (show tn v + n ≤ 72 by omega)]; rfl, rfl⟩) dX7_hasRoomFor_19
theorem iwX7_size_X7 : ∀ w ∈ u_ws RX7 TX7 2, w ∈ wsX7_size := by decide +kernel
theorem flX7_size_15 : Cond.fieldLink RX7 15 RX7 (TX7 1).2.1 (TX7 1).2.2.1 ∈ wsX7_size := by decide +kernel
set_option maxHeartbeats 4000000 in
set_option maxRecDepth 100000 in
theorem ctX7_size (l : Launch) (g : Gx) (lo : Nat) (ad : Nat → Nat) {F : Nat → va_E} {v : TV} (hT : TextC g ad F v) (ok : TOK v) : MI l g lo 196 ad yX7_size wsX7_size 0 0 [.ref (ad (1))] F (fun r F' => r = nI (tn v) ∧ F' = F) := by
  obtain ⟨h0, h1⟩ := id hT
  have okn := ok.1
  refine enter (cc := cX7_size) (maxL := 1) (ret := some .int) (own := RX7) (by decide +kernel) rfl rfl (Nat.le_of_ble_eq_true rfl) ?_
  intro pp ee ss mm below meth cc B hini hC ls hl
  have hl : lv_has ls 1 [(0, .ref (ad (1)))] := hl
  refine lv_aload_n B.1 B.2.1 dX7_size_0 rfl (lv_at hl 0 rfl) ?_
  refine r_cg B hC (i := 1) (by decide) h0 (C := RX7) (T := TX7) (n := 2) rfl iwX7_size_X7 1 (by decide) (index := 15) flX7_size_15 rfl (v := .int (nI (tn v))) rfl dX7_size_1 ?_
  exact r_eI B hC (v := nI (tn v)) (⟨rfl, rfl⟩) dX7_size_4
theorem iwX7_clear_X7 : ∀ w ∈ u_ws RX7 TX7 2, w ∈ wsX7_clear := by decide +kernel
theorem flX7_clear_15 : Cond.fieldLink RX7 15 RX7 (TX7 1).2.1 (TX7 1).2.2.1 ∈ wsX7_clear := by decide +kernel
set_option maxHeartbeats 4000000 in
set_option maxRecDepth 100000 in
theorem ctX7_clear (l : Launch) (g : Gx) (lo : Nat) (ad : Nat → Nat) {F : Nat → va_E} {v : TV} (hT : TextC g ad F v) (ok : TOK v) : MV l g lo 196 ad yX7_clear wsX7_clear 0 0 [.ref (ad (1))] F (fun F' => TextC g ad F' (tb v, 0) ∧ Same 1 3 F F') := by
  obtain ⟨h0, h1⟩ := id hT
  have okn := ok.1
  refine enter (cc := cX7_clear) (maxL := 1) (ret := none) (own := RX7) (by decide +kernel) rfl rfl (Nat.le_of_ble_eq_true rfl) ?_
  intro pp ee ss mm below meth cc B hini hC ls hl
  have hl : lv_has ls 1 [(0, .ref (ad (1)))] := hl
  refine lv_aload_n B.1 B.2.1 dX7_clear_0 rfl (lv_at hl 0 rfl) ?_
  refine lv_iconst (v := nI 0) B.1 B.2.1 dX7_clear_1 (by decide) ?_
  refine r_cp B hC (i := 1) (by decide) h0 tyX7 tyX7_ok nmX7 (C := RX7) (T := TX7) rfl iwX7_clear_X7 1 (by decide) (index := 15) flX7_clear_15 rfl rfl (v := .int (nI 0)) (rfl) (rfl) (Nat.le_of_ble_eq_true rfl) dX7_clear_2 ?_
  intro H locs hC
  obtain ⟨F1, eF1⟩ : ∃ f : Nat → va_E, f = va_up F (1) (.inr (7, [.ref (ad (2)), .int (nI 0)])) := ⟨_, rfl⟩
  have hC : Cu g lo 196 ad F1 ss ss.heap H locs := by rw [eF1]; exact hC
  have k1_F1 : F1 1 = .inr (7, [.ref (ad (2)), .int (nI 0)]) := by rw [eF1]; exact va_up_self _ _ _
  have h1_F1 : F1 2 = .inl (g.2.2 1, 72, .inl (fun j => sB (tb v j))) := by rw [eF1, va_up_ne _ _ (by decide)]; exact h1
  exact r_eV B hC (⟨⟨k1_F1, h1_F1⟩, (by rw [eF1]; exact Same.up Same.rf (by omega) (by omega))⟩) dX7_clear_5
set_option maxHeartbeats 4000000 in
set_option maxRecDepth 100000 in
theorem ctX7_faultInHead (l : Launch) (g : Gx) (lo : Nat) (ad : Nat → Nat) {F : Nat → va_E} {v : TV} (hT : TextC g ad F v) (ok : TOK v) : MI l g lo 196 ad yX7_faultInHead wsX7_faultInHead 3 65 [.ref (ad (1))] F (fun r F' => r = oI (fHead v) ∧ F' = F) := by
  obtain ⟨h0, h1⟩ := id hT
  have okn := ok.1
  refine enter (cc := cX7_faultInHead) (maxL := 2) (ret := some .int) (own := RX7) (by decide +kernel) rfl rfl (Nat.le_of_ble_eq_true rfl) ?_
  intro pp ee ss mm below meth cc B hini hC ls hl
  have hl : lv_has ls 2 [(0, .ref (ad (1)))] := hl
  refine lv_aload_n B.1 B.2.1 dX7_faultInHead_0 rfl (lv_at hl 0 rfl) ?_
  refine lv_iconst (v := nI 0) B.1 B.2.1 dX7_faultInHead_1 (by decide) ?_
  refine r_calli B hC hl.1 (1) 7 rfl rfl (by decide) h0 (As := [.int (nI 0)]) (ctX7_byteAt l g lo ad hT ok (i := 0) (by omega)) gX7_faultInHead_X7_byteAt rfl (n := 1) rfl (by decide +kernel) ⟨Nat.le_of_ble_eq_true rfl, Nat.le_of_ble_eq_true rfl⟩ ⟨Nat.zero_le _, Nat.zero_le _⟩ rfl (Nat.le_of_ble_eq_true rfl) dX7_faultInHead_2 (fun r2 F1 H locs hp2 hC => ?_)
  obtain ⟨er, eF⟩ := hp2
  subst er
  rw [eF] at hC
  refine lv_bipush (v := nI 83) B.1 B.2.1 dX7_faultInHead_5 (by decide) ?_
  refine lv_icmp_eq (tgt := 12) B.1 B.2.1 dX7_faultInHead_7 (by decide) (fun c_7 => ?_) (fun c_7 => ?_)
  · have q_7 := (y1_eq ok (i := 0) (k := 83) (by decide)).mp c_7
    refine lv_aload_n B.1 B.2.1 dX7_faultInHead_12 rfl (lv_at hl 0 rfl) ?_
    refine lv_iconst (v := nI 1) B.1 B.2.1 dX7_faultInHead_13 (by decide) ?_
    refine lv_iconst (v := nI 0) B.1 B.2.1 dX7_faultInHead_14 (by decide) ?_
    refine lv_bipush (v := nI 9) B.1 B.2.1 dX7_faultInHead_15 (by decide) ?_
    refine r_tI (y := nI 10 - nI 1) (by decide) ?_
    refine r_calli B hC hl.1 (1) 7 rfl rfl (by decide) h0 (As := [.int (nI 1), .int (nI 0), .int (nI 10 - nI 1)]) (ctX7_isFigure l g lo ad hT ok (i := 1) (a := 0) (m := 10) (by omega) (by omega) (by omega)) gX7_faultInHead_X7_isFigure rfl (n := 3) rfl (by decide +kernel) ⟨Nat.le_of_ble_eq_true rfl, Nat.le_of_ble_eq_true rfl⟩ ⟨Nat.zero_le _, Nat.zero_le _⟩ rfl (Nat.le_of_ble_eq_true rfl) dX7_faultInHead_17 (fun r17 F1 H locs hp17 hC => ?_)
    obtain ⟨er, eF⟩ := hp17
    subst er
    rw [eF] at hC
    refine lv_if_ne (tgt := 25) B.1 B.2.1 dX7_faultInHead_20 (by decide) (fun c_20 => ?_) (fun c_20 => ?_)
    · have q_20 : (isFig v 1 0 10) = true := bI_t.mp c_20
      refine lv_aload_n B.1 B.2.1 dX7_faultInHead_25 rfl (lv_at hl 0 rfl) ?_
      refine lv_iconst (v := nI 2) B.1 B.2.1 dX7_faultInHead_26 (by decide) ?_
      refine lv_iconst (v := nI 0) B.1 B.2.1 dX7_faultInHead_27 (by decide) ?_
      refine lv_bipush (v := nI 9) B.1 B.2.1 dX7_faultInHead_28 (by decide) ?_
      refine r_tI (y := nI 10 - nI 1) (by decide) ?_
      refine r_calli B hC hl.1 (1) 7 rfl rfl (by decide) h0 (As := [.int (nI 2), .int (nI 0), .int (nI 10 - nI 1)]) (ctX7_isFigure l g lo ad hT ok (i := 2) (a := 0) (m := 10) (by omega) (by omega) (by omega)) gX7_faultInHead_X7_isFigure rfl (n := 3) rfl (by decide +kernel) ⟨Nat.le_of_ble_eq_true rfl, Nat.le_of_ble_eq_true rfl⟩ ⟨Nat.zero_le _, Nat.zero_le _⟩ rfl (Nat.le_of_ble_eq_true rfl) dX7_faultInHead_30 (fun r30 F1 H locs hp30 hC => ?_)
      obtain ⟨er, eF⟩ := hp30
      subst er
      rw [eF] at hC
      refine lv_if_ne (tgt := 38) B.1 B.2.1 dX7_faultInHead_33 (by decide) (fun c_33 => ?_) (fun c_33 => ?_)
      · have q_33 : (isFig v 2 0 10) = true := bI_t.mp c_33
        refine lv_aload_n B.1 B.2.1 dX7_faultInHead_38 rfl (lv_at hl 0 rfl) ?_
        refine lv_iconst (v := nI 2) B.1 B.2.1 dX7_faultInHead_39 (by decide) ?_
        refine r_calli B hC hl.1 (1) 7 rfl rfl (by decide) h0 (As := [.int (nI 2)]) (ctX7_figureAt l g lo ad hT ok (i := 2) (by omega)) gX7_faultInHead_X7_figureAt rfl (n := 1) rfl (by decide +kernel) ⟨Nat.le_of_ble_eq_true rfl, Nat.le_of_ble_eq_true rfl⟩ ⟨Nat.zero_le _, Nat.zero_le _⟩ rfl (Nat.le_of_ble_eq_true rfl) dX7_faultInHead_40 (fun r40 F1 H locs hp40 hC => ?_)
        obtain ⟨er, eF⟩ := hp40
        subst er
        rw [eF] at hC
        refine lv_if_ne (tgt := 50) B.1 B.2.1 dX7_faultInHead_43 (by decide) (fun c_43 => ?_) (fun c_43 => ?_)
        · have q_43 : ¬ tat v 2 = some 48 := fun z => c_43 ((y1_48 ok).mpr z)
          refine lv_iconst (v := nI 0) B.1 B.2.1 dX7_faultInHead_50 (by decide) ?_
          refine lv_istore_n (lv' := [(1, .int (nI 0)), (0, .ref (ad (1)))]) B.1 B.2.1 dX7_faultInHead_51 rfl hl (by decide) rfl (fun ls hl => ?_)
          refine lv_aload_n B.1 B.2.1 dX7_faultInHead_52 rfl (lv_at hl 1 rfl) ?_
          refine lv_iconst (v := nI 3) B.1 B.2.1 dX7_faultInHead_53 (by decide) ?_
          refine lv_iload_n B.1 B.2.1 dX7_faultInHead_54 rfl (lv_at hl 0 rfl) ?_
          refine lv_bipush (v := nI 9) B.1 B.2.1 dX7_faultInHead_55 (by decide) ?_
          refine r_tI (y := nI 10 - nI 1) (by decide) ?_
          refine r_calli B hC hl.1 (1) 7 rfl rfl (by decide) h0 (As := [.int (nI 3), .int (nI 0), .int (nI 10 - nI 1)]) (ctX7_isFigure l g lo ad hT ok (i := 3) (a := 0) (m := 10) (by omega) (by omega) (by omega)) gX7_faultInHead_X7_isFigure rfl (n := 3) rfl (by decide +kernel) ⟨Nat.le_of_ble_eq_true rfl, Nat.le_of_ble_eq_true rfl⟩ ⟨Nat.zero_le _, Nat.zero_le _⟩ rfl (Nat.le_of_ble_eq_true rfl) dX7_faultInHead_57 (fun r57 F1 H locs hp57 hC => ?_)
          obtain ⟨er, eF⟩ := hp57
          subst er
          rw [eF] at hC
          refine lv_if_eq (tgt := 68) B.1 B.2.1 dX7_faultInHead_60 (by decide) (fun c_60 => ?_) (fun c_60 => ?_)
          · have q_60 : (isFig v 3 0 10) = false := bI_f.mp c_60
            refine lv_iconst (v := nI 3) B.1 B.2.1 dX7_faultInHead_68 (by decide) ?_
            exact r_eI B hC (v := nI 3) (⟨by simp_all [fHead, oI], rfl⟩) dX7_faultInHead_69
          · have q_60 : (isFig v 3 0 10) = true := bI_t.mp c_60
            refine lv_bipush (v := (-9)) B.1 B.2.1 dX7_faultInHead_63 (by decide) ?_
            refine lv_goto (tgt := 69) B.1 B.2.1 dX7_faultInHead_65 (by decide) ?_
            exact r_eI B hC (v := (-9)) (⟨by simp_all [fHead, oI], rfl⟩) dX7_faultInHead_69
        · have q_43 := (y1_48 ok).mp c_43
          refine lv_iconst (v := nI 1) B.1 B.2.1 dX7_faultInHead_46 (by decide) ?_
          refine lv_goto (tgt := 51) B.1 B.2.1 dX7_faultInHead_47 (by decide) ?_
          refine lv_istore_n (lv' := [(1, .int (nI 1)), (0, .ref (ad (1)))]) B.1 B.2.1 dX7_faultInHead_51 rfl hl (by decide) rfl (fun ls hl => ?_)
          refine lv_aload_n B.1 B.2.1 dX7_faultInHead_52 rfl (lv_at hl 1 rfl) ?_
          refine lv_iconst (v := nI 3) B.1 B.2.1 dX7_faultInHead_53 (by decide) ?_
          refine lv_iload_n B.1 B.2.1 dX7_faultInHead_54 rfl (lv_at hl 0 rfl) ?_
          refine lv_bipush (v := nI 9) B.1 B.2.1 dX7_faultInHead_55 (by decide) ?_
          refine r_tI (y := nI 10 - nI 1) (by decide) ?_
          refine r_calli B hC hl.1 (1) 7 rfl rfl (by decide) h0 (As := [.int (nI 3), .int (nI 1), .int (nI 10 - nI 1)]) (ctX7_isFigure l g lo ad hT ok (i := 3) (a := 1) (m := 10) (by omega) (by omega) (by omega)) gX7_faultInHead_X7_isFigure rfl (n := 3) rfl (by decide +kernel) ⟨Nat.le_of_ble_eq_true rfl, Nat.le_of_ble_eq_true rfl⟩ ⟨Nat.zero_le _, Nat.zero_le _⟩ rfl (Nat.le_of_ble_eq_true rfl) dX7_faultInHead_57 (fun r57 F1 H locs hp57 hC => ?_)
          obtain ⟨er, eF⟩ := hp57
          subst er
          rw [eF] at hC
          refine lv_if_eq (tgt := 68) B.1 B.2.1 dX7_faultInHead_60 (by decide) (fun c_60 => ?_) (fun c_60 => ?_)
          · have q_60 : (isFig v 3 1 10) = false := bI_f.mp c_60
            refine lv_iconst (v := nI 3) B.1 B.2.1 dX7_faultInHead_68 (by decide) ?_
            exact r_eI B hC (v := nI 3) (⟨by simp_all [fHead, oI], rfl⟩) dX7_faultInHead_69
          · have q_60 : (isFig v 3 1 10) = true := bI_t.mp c_60
            refine lv_bipush (v := (-9)) B.1 B.2.1 dX7_faultInHead_63 (by decide) ?_
            refine lv_goto (tgt := 69) B.1 B.2.1 dX7_faultInHead_65 (by decide) ?_
            exact r_eI B hC (v := (-9)) (⟨by simp_all [fHead, oI], rfl⟩) dX7_faultInHead_69
      · have q_33 : (isFig v 2 0 10) = false := bI_f.mp c_33
        refine lv_iconst (v := nI 2) B.1 B.2.1 dX7_faultInHead_36 (by decide) ?_
        exact r_eI B hC (v := nI 2) (⟨by simp_all [fHead, oI], rfl⟩) dX7_faultInHead_37
    · have q_20 : (isFig v 1 0 10) = false := bI_f.mp c_20
      refine lv_iconst (v := nI 1) B.1 B.2.1 dX7_faultInHead_23 (by decide) ?_
      exact r_eI B hC (v := nI 1) (⟨by simp_all [fHead, oI], rfl⟩) dX7_faultInHead_24
  · have q_7 : ¬ tat v 0 = some 83 := fun z => c_7 ((y1_eq ok (by decide)).mpr z)
    refine lv_iconst (v := nI 0) B.1 B.2.1 dX7_faultInHead_10 (by decide) ?_
    exact r_eI B hC (v := nI 0) (⟨by simp_all [fHead, oI], rfl⟩) dX7_faultInHead_11
set_option maxHeartbeats 4000000 in
set_option maxRecDepth 100000 in
theorem ctX7_faultInTimber (l : Launch) (g : Gx) (lo : Nat) (ad : Nat → Nat) {F : Nat → va_E} {v : TV} (hT : TextC g ad F v) (ok : TOK v) {i : Nat} (hi : i < 900) : MI l g lo 196 ad yX7_faultInTimber wsX7_faultInTimber 3 65 [.ref (ad (1)), .int (nI i)] F (fun r F' => r = oI (fTimber v i) ∧ F' = F) := by
  obtain ⟨h0, h1⟩ := id hT
  have okn := ok.1
  refine enter (cc := cX7_faultInTimber) (maxL := 2) (ret := some .int) (own := RX7) (by decide +kernel) rfl rfl (Nat.le_of_ble_eq_true rfl) ?_
  intro pp ee ss mm below meth cc B hini hC ls hl
  have hl : lv_has ls 2 [(0, .ref (ad (1))), (1, .int (nI i))] := hl
  refine lv_aload_n B.1 B.2.1 dX7_faultInTimber_0 rfl (lv_at hl 0 rfl) ?_
  refine lv_iload_n B.1 B.2.1 dX7_faultInTimber_1 rfl (lv_at hl 1 rfl) ?_
  refine lv_iconst (v := nI 4) B.1 B.2.1 dX7_faultInTimber_2 (by decide) ?_
  refine lv_iadd B.1 B.2.1 dX7_faultInTimber_3 ?_
  refine r_tI (y := nI (i + 4)) (nI_add _ _) ?_
  refine lv_iconst (v := nI 0) B.1 B.2.1 dX7_faultInTimber_4 (by decide) ?_
  refine lv_iconst (v := nI 2) B.1 B.2.1 dX7_faultInTimber_5 (by decide) ?_
  refine r_tI (y := nI 3 - nI 1) (by decide) ?_
  refine r_calli B hC hl.1 (1) 7 rfl rfl (by decide) h0 (As := [.int (nI (i + 4)), .int (nI 0), .int (nI 3 - nI 1)]) (ctX7_isFigure l g lo ad hT ok (i := (i + 4)) (a := 0) (m := 3) (by omega) (by omega) (by omega)) gX7_faultInTimber_X7_isFigure rfl (n := 3) rfl (by decide +kernel) ⟨Nat.le_of_ble_eq_true rfl, Nat.le_of_ble_eq_true rfl⟩ ⟨Nat.zero_le _, Nat.zero_le _⟩ rfl (Nat.le_of_ble_eq_true rfl) dX7_faultInTimber_6 (fun r6 F1 H locs hp6 hC => ?_)
  obtain ⟨er, eF⟩ := hp6
  subst er
  rw [eF] at hC
  refine lv_if_ne (tgt := 16) B.1 B.2.1 dX7_faultInTimber_9 (by decide) (fun c_9 => ?_) (fun c_9 => ?_)
  · have q_9 : (isFig v (i + 4) 0 3) = true := bI_t.mp c_9
    refine lv_aload_n B.1 B.2.1 dX7_faultInTimber_16 rfl (lv_at hl 0 rfl) ?_
    refine lv_iload_n B.1 B.2.1 dX7_faultInTimber_17 rfl (lv_at hl 1 rfl) ?_
    refine lv_iconst (v := nI 5) B.1 B.2.1 dX7_faultInTimber_18 (by decide) ?_
    refine lv_iadd B.1 B.2.1 dX7_faultInTimber_19 ?_
    refine r_tI (y := nI (i + 5)) (nI_add _ _) ?_
    refine lv_iconst (v := nI 0) B.1 B.2.1 dX7_faultInTimber_20 (by decide) ?_
    refine lv_bipush (v := nI 9) B.1 B.2.1 dX7_faultInTimber_21 (by decide) ?_
    refine r_tI (y := nI 10 - nI 1) (by decide) ?_
    refine r_calli B hC hl.1 (1) 7 rfl rfl (by decide) h0 (As := [.int (nI (i + 5)), .int (nI 0), .int (nI 10 - nI 1)]) (ctX7_isFigure l g lo ad hT ok (i := (i + 5)) (a := 0) (m := 10) (by omega) (by omega) (by omega)) gX7_faultInTimber_X7_isFigure rfl (n := 3) rfl (by decide +kernel) ⟨Nat.le_of_ble_eq_true rfl, Nat.le_of_ble_eq_true rfl⟩ ⟨Nat.zero_le _, Nat.zero_le _⟩ rfl (Nat.le_of_ble_eq_true rfl) dX7_faultInTimber_23 (fun r23 F1 H locs hp23 hC => ?_)
    obtain ⟨er, eF⟩ := hp23
    subst er
    rw [eF] at hC
    refine lv_if_eq (tgt := 34) B.1 B.2.1 dX7_faultInTimber_26 (by decide) (fun c_26 => ?_) (fun c_26 => ?_)
    · have q_26 : (isFig v (i + 5) 0 10) = false := bI_f.mp c_26
      refine lv_iload_n B.1 B.2.1 dX7_faultInTimber_34 rfl (lv_at hl 1 rfl) ?_
      refine lv_iconst (v := nI 5) B.1 B.2.1 dX7_faultInTimber_35 (by decide) ?_
      refine lv_iadd B.1 B.2.1 dX7_faultInTimber_36 ?_
      refine r_tI (y := nI (i + 5)) (nI_add _ _) ?_
      exact r_eI B hC (v := nI (i + 5)) (⟨by simp [fTimber, oI, *], rfl⟩) dX7_faultInTimber_37
    · have q_26 : (isFig v (i + 5) 0 10) = true := bI_t.mp c_26
      refine lv_bipush (v := (-9)) B.1 B.2.1 dX7_faultInTimber_29 (by decide) ?_
      refine lv_goto (tgt := 37) B.1 B.2.1 dX7_faultInTimber_31 (by decide) ?_
      exact r_eI B hC (v := (-9)) (⟨by simp [fTimber, oI, *], rfl⟩) dX7_faultInTimber_37
  · have q_9 : (isFig v (i + 4) 0 3) = false := bI_f.mp c_9
    refine lv_iload_n B.1 B.2.1 dX7_faultInTimber_12 rfl (lv_at hl 1 rfl) ?_
    refine lv_iconst (v := nI 4) B.1 B.2.1 dX7_faultInTimber_13 (by decide) ?_
    refine lv_iadd B.1 B.2.1 dX7_faultInTimber_14 ?_
    refine r_tI (y := nI (i + 4)) (nI_add _ _) ?_
    exact r_eI B hC (v := nI (i + 4)) (⟨by simp [fTimber, oI, *], rfl⟩) dX7_faultInTimber_15
set_option maxHeartbeats 4000000 in
set_option maxRecDepth 100000 in
theorem ctX7_faultInPlace (l : Launch) (g : Gx) (lo : Nat) (ad : Nat → Nat) {F : Nat → va_E} {v : TV} (hT : TextC g ad F v) (ok : TOK v) {i p : Nat} (hi : i < 900) (hp : p ≤ 10) : MI l g lo 196 ad yX7_faultInPlace wsX7_faultInPlace 4 86 [.ref (ad (1)), .int (nI i), .int (nI p)] F (fun r F' => r = oI (fPlace v i p) ∧ F' = F) := by
  obtain ⟨h0, h1⟩ := id hT
  have okn := ok.1
  refine enter (cc := cX7_faultInPlace) (maxL := 3) (ret := some .int) (own := RX7) (by decide +kernel) rfl rfl (Nat.le_of_ble_eq_true rfl) ?_
  intro pp ee ss mm below meth cc B hini hC ls hl
  have hl : lv_has ls 3 [(0, .ref (ad (1))), (1, .int (nI i)), (2, .int (nI p))] := hl
  refine lv_aload_n B.1 B.2.1 dX7_faultInPlace_0 rfl (lv_at hl 0 rfl) ?_
  refine lv_iload_n B.1 B.2.1 dX7_faultInPlace_1 rfl (lv_at hl 1 rfl) ?_
  refine r_calli B hC hl.1 (1) 7 rfl rfl (by decide) h0 (As := [.int (nI i)]) (ctX7_isFilledPlace l g lo ad hT ok (i := i) (by omega)) gX7_faultInPlace_X7_isFilledPlace rfl (n := 1) rfl (by decide +kernel) ⟨Nat.le_of_ble_eq_true rfl, Nat.le_of_ble_eq_true rfl⟩ ⟨Nat.zero_le _, Nat.zero_le _⟩ rfl (Nat.le_of_ble_eq_true rfl) dX7_faultInPlace_2 (fun r2 F1 H locs hp2 hC => ?_)
  obtain ⟨er, eF⟩ := hp2
  subst er
  rw [eF] at hC
  refine lv_if_ne (tgt := 20) B.1 B.2.1 dX7_faultInPlace_5 (by decide) (fun c_5 => ?_) (fun c_5 => ?_)
  · have q_5 : (decide (tat v i = some 80)) = true := bI_t.mp c_5
    refine lv_aload_n B.1 B.2.1 dX7_faultInPlace_20 rfl (lv_at hl 0 rfl) ?_
    refine lv_iload_n B.1 B.2.1 dX7_faultInPlace_21 rfl (lv_at hl 1 rfl) ?_
    refine lv_iconst (v := nI 1) B.1 B.2.1 dX7_faultInPlace_22 (by decide) ?_
    refine lv_iadd B.1 B.2.1 dX7_faultInPlace_23 ?_
    refine r_tI (y := nI (i + 1)) (nI_add _ _) ?_
    refine lv_iconst (v := nI 1) B.1 B.2.1 dX7_faultInPlace_24 (by decide) ?_
    refine lv_bipush (v := nI 9) B.1 B.2.1 dX7_faultInPlace_25 (by decide) ?_
    refine r_tI (y := nI 10 - nI 1) (by decide) ?_
    refine r_calli B hC hl.1 (1) 7 rfl rfl (by decide) h0 (As := [.int (nI (i + 1)), .int (nI 1), .int (nI 10 - nI 1)]) (ctX7_isFigure l g lo ad hT ok (i := (i + 1)) (a := 1) (m := 10) (by omega) (by omega) (by omega)) gX7_faultInPlace_X7_isFigure rfl (n := 3) rfl (by decide +kernel) ⟨Nat.le_of_ble_eq_true rfl, Nat.le_of_ble_eq_true rfl⟩ ⟨Nat.zero_le _, Nat.zero_le _⟩ rfl (Nat.le_of_ble_eq_true rfl) dX7_faultInPlace_27 (fun r27 F1 H locs hp27 hC => ?_)
    obtain ⟨er, eF⟩ := hp27
    subst er
    rw [eF] at hC
    refine lv_if_ne (tgt := 37) B.1 B.2.1 dX7_faultInPlace_30 (by decide) (fun c_30 => ?_) (fun c_30 => ?_)
    · have q_30 : (isFig v (i + 1) 1 10) = true := bI_t.mp c_30
      refine lv_aload_n B.1 B.2.1 dX7_faultInPlace_37 rfl (lv_at hl 0 rfl) ?_
      refine lv_iload_n B.1 B.2.1 dX7_faultInPlace_38 rfl (lv_at hl 1 rfl) ?_
      refine lv_iconst (v := nI 2) B.1 B.2.1 dX7_faultInPlace_39 (by decide) ?_
      refine lv_iadd B.1 B.2.1 dX7_faultInPlace_40 ?_
      refine r_tI (y := nI (i + 2)) (nI_add _ _) ?_
      refine lv_iconst (v := nI 0) B.1 B.2.1 dX7_faultInPlace_41 (by decide) ?_
      refine lv_bipush (v := nI 9) B.1 B.2.1 dX7_faultInPlace_42 (by decide) ?_
      refine r_tI (y := nI 10 - nI 1) (by decide) ?_
      refine r_calli B hC hl.1 (1) 7 rfl rfl (by decide) h0 (As := [.int (nI (i + 2)), .int (nI 0), .int (nI 10 - nI 1)]) (ctX7_isFigure l g lo ad hT ok (i := (i + 2)) (a := 0) (m := 10) (by omega) (by omega) (by omega)) gX7_faultInPlace_X7_isFigure rfl (n := 3) rfl (by decide +kernel) ⟨Nat.le_of_ble_eq_true rfl, Nat.le_of_ble_eq_true rfl⟩ ⟨Nat.zero_le _, Nat.zero_le _⟩ rfl (Nat.le_of_ble_eq_true rfl) dX7_faultInPlace_44 (fun r44 F1 H locs hp44 hC => ?_)
      obtain ⟨er, eF⟩ := hp44
      subst er
      rw [eF] at hC
      refine lv_if_ne (tgt := 54) B.1 B.2.1 dX7_faultInPlace_47 (by decide) (fun c_47 => ?_) (fun c_47 => ?_)
      · have q_47 : (isFig v (i + 2) 0 10) = true := bI_t.mp c_47
        refine lv_aload_n B.1 B.2.1 dX7_faultInPlace_54 rfl (lv_at hl 0 rfl) ?_
        refine lv_iload_n B.1 B.2.1 dX7_faultInPlace_55 rfl (lv_at hl 1 rfl) ?_
        refine lv_iconst (v := nI 3) B.1 B.2.1 dX7_faultInPlace_56 (by decide) ?_
        refine lv_iadd B.1 B.2.1 dX7_faultInPlace_57 ?_
        refine r_tI (y := nI (i + 3)) (nI_add _ _) ?_
        refine r_calli B hC hl.1 (1) 7 rfl rfl (by decide) h0 (As := [.int (nI (i + 3))]) (ctX7_byteAt l g lo ad hT ok (i := (i + 3)) (by omega)) gX7_faultInPlace_X7_byteAt rfl (n := 1) rfl (by decide +kernel) ⟨Nat.le_of_ble_eq_true rfl, Nat.le_of_ble_eq_true rfl⟩ ⟨Nat.zero_le _, Nat.zero_le _⟩ rfl (Nat.le_of_ble_eq_true rfl) dX7_faultInPlace_58 (fun r58 F1 H locs hp58 hC => ?_)
        obtain ⟨er, eF⟩ := hp58
        subst er
        rw [eF] at hC
        refine lv_bipush (v := nI 45) B.1 B.2.1 dX7_faultInPlace_61 (by decide) ?_
        refine lv_icmp_eq (tgt := 84) B.1 B.2.1 dX7_faultInPlace_63 (by decide) (fun c_63 => ?_) (fun c_63 => ?_)
        · have q_63 := (y1_eq ok (i := i + 3) (k := 45) (by decide)).mp c_63
          refine lv_aload_n B.1 B.2.1 dX7_faultInPlace_84 rfl (lv_at hl 0 rfl) ?_
          refine lv_iload_n B.1 B.2.1 dX7_faultInPlace_85 rfl (lv_at hl 1 rfl) ?_
          refine r_calli B hC hl.1 (1) 7 rfl rfl (by decide) h0 (As := [.int (nI i)]) (ctX7_isFilledPlace l g lo ad hT ok (i := i) (by omega)) gX7_faultInPlace_X7_isFilledPlace rfl (n := 1) rfl (by decide +kernel) ⟨Nat.le_of_ble_eq_true rfl, Nat.le_of_ble_eq_true rfl⟩ ⟨Nat.zero_le _, Nat.zero_le _⟩ rfl (Nat.le_of_ble_eq_true rfl) dX7_faultInPlace_86 (fun r86 F1 H locs hp86 hC => ?_)
          obtain ⟨er, eF⟩ := hp86
          subst er
          rw [eF] at hC
          refine lv_if_eq (tgt := 100) B.1 B.2.1 dX7_faultInPlace_89 (by decide) (fun c_89 => ?_) (fun c_89 => ?_)
          · have q_89 : (decide (tat v i = some 80)) = false := bI_f.mp c_89
            refine lv_bipush (v := (-9)) B.1 B.2.1 dX7_faultInPlace_100 (by decide) ?_
            exact r_eI B hC (v := (-9)) (⟨by simp_all [fPlace, oI], rfl⟩) dX7_faultInPlace_102
          · have q_89 : (decide (tat v i = some 80)) = true := bI_t.mp c_89
            refine lv_aload_n B.1 B.2.1 dX7_faultInPlace_92 rfl (lv_at hl 0 rfl) ?_
            refine lv_iload_n B.1 B.2.1 dX7_faultInPlace_93 rfl (lv_at hl 1 rfl) ?_
            refine r_calli B hC hl.1 (1) 7 rfl rfl (by decide) h0 (As := [.int (nI i)]) (ctX7_faultInTimber l g lo ad hT ok (i := i) (by omega)) gX7_faultInPlace_X7_faultInTimber rfl (n := 1) rfl (by decide +kernel) ⟨Nat.le_of_ble_eq_true rfl, Nat.le_of_ble_eq_true rfl⟩ ⟨Nat.zero_le _, Nat.zero_le _⟩ rfl (Nat.le_of_ble_eq_true rfl) dX7_faultInPlace_94 (fun r94 F1 H locs hp94 hC => ?_)
            obtain ⟨er, eF⟩ := hp94
            subst er
            rw [eF] at hC
            refine lv_goto (tgt := 102) B.1 B.2.1 dX7_faultInPlace_97 (by decide) ?_
            exact r_eI B hC (v := oI (fTimber v i)) (⟨by simp_all [fPlace, oI], rfl⟩) dX7_faultInPlace_102
        · have q_63 : ¬ tat v (i + 3) = some 45 := fun z => c_63 ((y1_eq ok (by decide)).mpr z)
          refine lv_aload_n B.1 B.2.1 dX7_faultInPlace_66 rfl (lv_at hl 0 rfl) ?_
          refine lv_iload_n B.1 B.2.1 dX7_faultInPlace_67 rfl (lv_at hl 1 rfl) ?_
          refine lv_iconst (v := nI 3) B.1 B.2.1 dX7_faultInPlace_68 (by decide) ?_
          refine lv_iadd B.1 B.2.1 dX7_faultInPlace_69 ?_
          refine r_tI (y := nI (i + 3)) (nI_add _ _) ?_
          refine lv_iconst (v := nI 0) B.1 B.2.1 dX7_faultInPlace_70 (by decide) ?_
          refine lv_iload_n B.1 B.2.1 dX7_faultInPlace_71 rfl (lv_at hl 2 rfl) ?_
          refine lv_iconst (v := nI 1) B.1 B.2.1 dX7_faultInPlace_72 (by decide) ?_
          refine lv_isub B.1 B.2.1 dX7_faultInPlace_73 ?_
          refine r_tI (y := nI p - nI 1) (rfl) ?_
          refine r_calli B hC hl.1 (1) 7 rfl rfl (by decide) h0 (As := [.int (nI (i + 3)), .int (nI 0), .int (nI p - nI 1)]) (ctX7_isFigure l g lo ad hT ok (i := (i + 3)) (a := 0) (m := p) (by omega) (by omega) (by omega)) gX7_faultInPlace_X7_isFigure rfl (n := 3) rfl (by decide +kernel) ⟨Nat.le_of_ble_eq_true rfl, Nat.le_of_ble_eq_true rfl⟩ ⟨Nat.zero_le _, Nat.zero_le _⟩ rfl (Nat.le_of_ble_eq_true rfl) dX7_faultInPlace_74 (fun r74 F1 H locs hp74 hC => ?_)
          obtain ⟨er, eF⟩ := hp74
          subst er
          rw [eF] at hC
          refine lv_if_ne (tgt := 84) B.1 B.2.1 dX7_faultInPlace_77 (by decide) (fun c_77 => ?_) (fun c_77 => ?_)
          · have q_77 : (isFig v (i + 3) 0 p) = true := bI_t.mp c_77
            refine lv_aload_n B.1 B.2.1 dX7_faultInPlace_84 rfl (lv_at hl 0 rfl) ?_
            refine lv_iload_n B.1 B.2.1 dX7_faultInPlace_85 rfl (lv_at hl 1 rfl) ?_
            refine r_calli B hC hl.1 (1) 7 rfl rfl (by decide) h0 (As := [.int (nI i)]) (ctX7_isFilledPlace l g lo ad hT ok (i := i) (by omega)) gX7_faultInPlace_X7_isFilledPlace rfl (n := 1) rfl (by decide +kernel) ⟨Nat.le_of_ble_eq_true rfl, Nat.le_of_ble_eq_true rfl⟩ ⟨Nat.zero_le _, Nat.zero_le _⟩ rfl (Nat.le_of_ble_eq_true rfl) dX7_faultInPlace_86 (fun r86 F1 H locs hp86 hC => ?_)
            obtain ⟨er, eF⟩ := hp86
            subst er
            rw [eF] at hC
            refine lv_if_eq (tgt := 100) B.1 B.2.1 dX7_faultInPlace_89 (by decide) (fun c_89 => ?_) (fun c_89 => ?_)
            · have q_89 : (decide (tat v i = some 80)) = false := bI_f.mp c_89
              refine lv_bipush (v := (-9)) B.1 B.2.1 dX7_faultInPlace_100 (by decide) ?_
              exact r_eI B hC (v := (-9)) (⟨by simp_all [fPlace, oI], rfl⟩) dX7_faultInPlace_102
            · have q_89 : (decide (tat v i = some 80)) = true := bI_t.mp c_89
              refine lv_aload_n B.1 B.2.1 dX7_faultInPlace_92 rfl (lv_at hl 0 rfl) ?_
              refine lv_iload_n B.1 B.2.1 dX7_faultInPlace_93 rfl (lv_at hl 1 rfl) ?_
              refine r_calli B hC hl.1 (1) 7 rfl rfl (by decide) h0 (As := [.int (nI i)]) (ctX7_faultInTimber l g lo ad hT ok (i := i) (by omega)) gX7_faultInPlace_X7_faultInTimber rfl (n := 1) rfl (by decide +kernel) ⟨Nat.le_of_ble_eq_true rfl, Nat.le_of_ble_eq_true rfl⟩ ⟨Nat.zero_le _, Nat.zero_le _⟩ rfl (Nat.le_of_ble_eq_true rfl) dX7_faultInPlace_94 (fun r94 F1 H locs hp94 hC => ?_)
              obtain ⟨er, eF⟩ := hp94
              subst er
              rw [eF] at hC
              refine lv_goto (tgt := 102) B.1 B.2.1 dX7_faultInPlace_97 (by decide) ?_
              exact r_eI B hC (v := oI (fTimber v i)) (⟨by simp_all [fPlace, oI], rfl⟩) dX7_faultInPlace_102
          · have q_77 : (isFig v (i + 3) 0 p) = false := bI_f.mp c_77
            refine lv_iload_n B.1 B.2.1 dX7_faultInPlace_80 rfl (lv_at hl 1 rfl) ?_
            refine lv_iconst (v := nI 3) B.1 B.2.1 dX7_faultInPlace_81 (by decide) ?_
            refine lv_iadd B.1 B.2.1 dX7_faultInPlace_82 ?_
            refine r_tI (y := nI (i + 3)) (nI_add _ _) ?_
            exact r_eI B hC (v := nI (i + 3)) (⟨by simp_all [fPlace, oI], rfl⟩) dX7_faultInPlace_83
      · have q_47 : (isFig v (i + 2) 0 10) = false := bI_f.mp c_47
        refine lv_iload_n B.1 B.2.1 dX7_faultInPlace_50 rfl (lv_at hl 1 rfl) ?_
        refine lv_iconst (v := nI 2) B.1 B.2.1 dX7_faultInPlace_51 (by decide) ?_
        refine lv_iadd B.1 B.2.1 dX7_faultInPlace_52 ?_
        refine r_tI (y := nI (i + 2)) (nI_add _ _) ?_
        exact r_eI B hC (v := nI (i + 2)) (⟨by simp_all [fPlace, oI], rfl⟩) dX7_faultInPlace_53
    · have q_30 : (isFig v (i + 1) 1 10) = false := bI_f.mp c_30
      refine lv_iload_n B.1 B.2.1 dX7_faultInPlace_33 rfl (lv_at hl 1 rfl) ?_
      refine lv_iconst (v := nI 1) B.1 B.2.1 dX7_faultInPlace_34 (by decide) ?_
      refine lv_iadd B.1 B.2.1 dX7_faultInPlace_35 ?_
      refine r_tI (y := nI (i + 1)) (nI_add _ _) ?_
      exact r_eI B hC (v := nI (i + 1)) (⟨by simp_all [fPlace, oI], rfl⟩) dX7_faultInPlace_36
  · have q_5 : (decide (tat v i = some 80)) = false := bI_f.mp c_5
    refine lv_aload_n B.1 B.2.1 dX7_faultInPlace_8 rfl (lv_at hl 0 rfl) ?_
    refine lv_iload_n B.1 B.2.1 dX7_faultInPlace_9 rfl (lv_at hl 1 rfl) ?_
    refine r_calli B hC hl.1 (1) 7 rfl rfl (by decide) h0 (As := [.int (nI i)]) (ctX7_byteAt l g lo ad hT ok (i := i) (by omega)) gX7_faultInPlace_X7_byteAt rfl (n := 1) rfl (by decide +kernel) ⟨Nat.le_of_ble_eq_true rfl, Nat.le_of_ble_eq_true rfl⟩ ⟨Nat.zero_le _, Nat.zero_le _⟩ rfl (Nat.le_of_ble_eq_true rfl) dX7_faultInPlace_10 (fun r10 F1 H locs hp10 hC => ?_)
    obtain ⟨er, eF⟩ := hp10
    subst er
    rw [eF] at hC
    refine lv_bipush (v := nI 79) B.1 B.2.1 dX7_faultInPlace_13 (by decide) ?_
    refine lv_icmp_eq (tgt := 20) B.1 B.2.1 dX7_faultInPlace_15 (by decide) (fun c_15 => ?_) (fun c_15 => ?_)
    · have q_15 := (y1_eq ok (i := i) (k := 79) (by decide)).mp c_15
      refine lv_aload_n B.1 B.2.1 dX7_faultInPlace_20 rfl (lv_at hl 0 rfl) ?_
      refine lv_iload_n B.1 B.2.1 dX7_faultInPlace_21 rfl (lv_at hl 1 rfl) ?_
      refine lv_iconst (v := nI 1) B.1 B.2.1 dX7_faultInPlace_22 (by decide) ?_
      refine lv_iadd B.1 B.2.1 dX7_faultInPlace_23 ?_
      refine r_tI (y := nI (i + 1)) (nI_add _ _) ?_
      refine lv_iconst (v := nI 1) B.1 B.2.1 dX7_faultInPlace_24 (by decide) ?_
      refine lv_bipush (v := nI 9) B.1 B.2.1 dX7_faultInPlace_25 (by decide) ?_
      refine r_tI (y := nI 10 - nI 1) (by decide) ?_
      refine r_calli B hC hl.1 (1) 7 rfl rfl (by decide) h0 (As := [.int (nI (i + 1)), .int (nI 1), .int (nI 10 - nI 1)]) (ctX7_isFigure l g lo ad hT ok (i := (i + 1)) (a := 1) (m := 10) (by omega) (by omega) (by omega)) gX7_faultInPlace_X7_isFigure rfl (n := 3) rfl (by decide +kernel) ⟨Nat.le_of_ble_eq_true rfl, Nat.le_of_ble_eq_true rfl⟩ ⟨Nat.zero_le _, Nat.zero_le _⟩ rfl (Nat.le_of_ble_eq_true rfl) dX7_faultInPlace_27 (fun r27 F1 H locs hp27 hC => ?_)
      obtain ⟨er, eF⟩ := hp27
      subst er
      rw [eF] at hC
      refine lv_if_ne (tgt := 37) B.1 B.2.1 dX7_faultInPlace_30 (by decide) (fun c_30 => ?_) (fun c_30 => ?_)
      · have q_30 : (isFig v (i + 1) 1 10) = true := bI_t.mp c_30
        refine lv_aload_n B.1 B.2.1 dX7_faultInPlace_37 rfl (lv_at hl 0 rfl) ?_
        refine lv_iload_n B.1 B.2.1 dX7_faultInPlace_38 rfl (lv_at hl 1 rfl) ?_
        refine lv_iconst (v := nI 2) B.1 B.2.1 dX7_faultInPlace_39 (by decide) ?_
        refine lv_iadd B.1 B.2.1 dX7_faultInPlace_40 ?_
        refine r_tI (y := nI (i + 2)) (nI_add _ _) ?_
        refine lv_iconst (v := nI 0) B.1 B.2.1 dX7_faultInPlace_41 (by decide) ?_
        refine lv_bipush (v := nI 9) B.1 B.2.1 dX7_faultInPlace_42 (by decide) ?_
        refine r_tI (y := nI 10 - nI 1) (by decide) ?_
        refine r_calli B hC hl.1 (1) 7 rfl rfl (by decide) h0 (As := [.int (nI (i + 2)), .int (nI 0), .int (nI 10 - nI 1)]) (ctX7_isFigure l g lo ad hT ok (i := (i + 2)) (a := 0) (m := 10) (by omega) (by omega) (by omega)) gX7_faultInPlace_X7_isFigure rfl (n := 3) rfl (by decide +kernel) ⟨Nat.le_of_ble_eq_true rfl, Nat.le_of_ble_eq_true rfl⟩ ⟨Nat.zero_le _, Nat.zero_le _⟩ rfl (Nat.le_of_ble_eq_true rfl) dX7_faultInPlace_44 (fun r44 F1 H locs hp44 hC => ?_)
        obtain ⟨er, eF⟩ := hp44
        subst er
        rw [eF] at hC
        refine lv_if_ne (tgt := 54) B.1 B.2.1 dX7_faultInPlace_47 (by decide) (fun c_47 => ?_) (fun c_47 => ?_)
        · have q_47 : (isFig v (i + 2) 0 10) = true := bI_t.mp c_47
          refine lv_aload_n B.1 B.2.1 dX7_faultInPlace_54 rfl (lv_at hl 0 rfl) ?_
          refine lv_iload_n B.1 B.2.1 dX7_faultInPlace_55 rfl (lv_at hl 1 rfl) ?_
          refine lv_iconst (v := nI 3) B.1 B.2.1 dX7_faultInPlace_56 (by decide) ?_
          refine lv_iadd B.1 B.2.1 dX7_faultInPlace_57 ?_
          refine r_tI (y := nI (i + 3)) (nI_add _ _) ?_
          refine r_calli B hC hl.1 (1) 7 rfl rfl (by decide) h0 (As := [.int (nI (i + 3))]) (ctX7_byteAt l g lo ad hT ok (i := (i + 3)) (by omega)) gX7_faultInPlace_X7_byteAt rfl (n := 1) rfl (by decide +kernel) ⟨Nat.le_of_ble_eq_true rfl, Nat.le_of_ble_eq_true rfl⟩ ⟨Nat.zero_le _, Nat.zero_le _⟩ rfl (Nat.le_of_ble_eq_true rfl) dX7_faultInPlace_58 (fun r58 F1 H locs hp58 hC => ?_)
          obtain ⟨er, eF⟩ := hp58
          subst er
          rw [eF] at hC
          refine lv_bipush (v := nI 45) B.1 B.2.1 dX7_faultInPlace_61 (by decide) ?_
          refine lv_icmp_eq (tgt := 84) B.1 B.2.1 dX7_faultInPlace_63 (by decide) (fun c_63 => ?_) (fun c_63 => ?_)
          · have q_63 := (y1_eq ok (i := i + 3) (k := 45) (by decide)).mp c_63
            refine lv_aload_n B.1 B.2.1 dX7_faultInPlace_84 rfl (lv_at hl 0 rfl) ?_
            refine lv_iload_n B.1 B.2.1 dX7_faultInPlace_85 rfl (lv_at hl 1 rfl) ?_
            refine r_calli B hC hl.1 (1) 7 rfl rfl (by decide) h0 (As := [.int (nI i)]) (ctX7_isFilledPlace l g lo ad hT ok (i := i) (by omega)) gX7_faultInPlace_X7_isFilledPlace rfl (n := 1) rfl (by decide +kernel) ⟨Nat.le_of_ble_eq_true rfl, Nat.le_of_ble_eq_true rfl⟩ ⟨Nat.zero_le _, Nat.zero_le _⟩ rfl (Nat.le_of_ble_eq_true rfl) dX7_faultInPlace_86 (fun r86 F1 H locs hp86 hC => ?_)
            obtain ⟨er, eF⟩ := hp86
            subst er
            rw [eF] at hC
            refine lv_if_eq (tgt := 100) B.1 B.2.1 dX7_faultInPlace_89 (by decide) (fun c_89 => ?_) (fun c_89 => ?_)
            · have q_89 : (decide (tat v i = some 80)) = false := bI_f.mp c_89
              refine lv_bipush (v := (-9)) B.1 B.2.1 dX7_faultInPlace_100 (by decide) ?_
              exact r_eI B hC (v := (-9)) (⟨by simp_all [fPlace, oI], rfl⟩) dX7_faultInPlace_102
            · have q_89 : (decide (tat v i = some 80)) = true := bI_t.mp c_89
              refine lv_aload_n B.1 B.2.1 dX7_faultInPlace_92 rfl (lv_at hl 0 rfl) ?_
              refine lv_iload_n B.1 B.2.1 dX7_faultInPlace_93 rfl (lv_at hl 1 rfl) ?_
              refine r_calli B hC hl.1 (1) 7 rfl rfl (by decide) h0 (As := [.int (nI i)]) (ctX7_faultInTimber l g lo ad hT ok (i := i) (by omega)) gX7_faultInPlace_X7_faultInTimber rfl (n := 1) rfl (by decide +kernel) ⟨Nat.le_of_ble_eq_true rfl, Nat.le_of_ble_eq_true rfl⟩ ⟨Nat.zero_le _, Nat.zero_le _⟩ rfl (Nat.le_of_ble_eq_true rfl) dX7_faultInPlace_94 (fun r94 F1 H locs hp94 hC => ?_)
              obtain ⟨er, eF⟩ := hp94
              subst er
              rw [eF] at hC
              refine lv_goto (tgt := 102) B.1 B.2.1 dX7_faultInPlace_97 (by decide) ?_
              exact r_eI B hC (v := oI (fTimber v i)) (⟨by simp_all [fPlace, oI], rfl⟩) dX7_faultInPlace_102
          · have q_63 : ¬ tat v (i + 3) = some 45 := fun z => c_63 ((y1_eq ok (by decide)).mpr z)
            refine lv_aload_n B.1 B.2.1 dX7_faultInPlace_66 rfl (lv_at hl 0 rfl) ?_
            refine lv_iload_n B.1 B.2.1 dX7_faultInPlace_67 rfl (lv_at hl 1 rfl) ?_
            refine lv_iconst (v := nI 3) B.1 B.2.1 dX7_faultInPlace_68 (by decide) ?_
            refine lv_iadd B.1 B.2.1 dX7_faultInPlace_69 ?_
            refine r_tI (y := nI (i + 3)) (nI_add _ _) ?_
            refine lv_iconst (v := nI 0) B.1 B.2.1 dX7_faultInPlace_70 (by decide) ?_
            refine lv_iload_n B.1 B.2.1 dX7_faultInPlace_71 rfl (lv_at hl 2 rfl) ?_
            refine lv_iconst (v := nI 1) B.1 B.2.1 dX7_faultInPlace_72 (by decide) ?_
            refine lv_isub B.1 B.2.1 dX7_faultInPlace_73 ?_
            refine r_tI (y := nI p - nI 1) (rfl) ?_
            refine r_calli B hC hl.1 (1) 7 rfl rfl (by decide) h0 (As := [.int (nI (i + 3)), .int (nI 0), .int (nI p - nI 1)]) (ctX7_isFigure l g lo ad hT ok (i := (i + 3)) (a := 0) (m := p) (by omega) (by omega) (by omega)) gX7_faultInPlace_X7_isFigure rfl (n := 3) rfl (by decide +kernel) ⟨Nat.le_of_ble_eq_true rfl, Nat.le_of_ble_eq_true rfl⟩ ⟨Nat.zero_le _, Nat.zero_le _⟩ rfl (Nat.le_of_ble_eq_true rfl) dX7_faultInPlace_74 (fun r74 F1 H locs hp74 hC => ?_)
            obtain ⟨er, eF⟩ := hp74
            subst er
            rw [eF] at hC
            refine lv_if_ne (tgt := 84) B.1 B.2.1 dX7_faultInPlace_77 (by decide) (fun c_77 => ?_) (fun c_77 => ?_)
            · have q_77 : (isFig v (i + 3) 0 p) = true := bI_t.mp c_77
              refine lv_aload_n B.1 B.2.1 dX7_faultInPlace_84 rfl (lv_at hl 0 rfl) ?_
              refine lv_iload_n B.1 B.2.1 dX7_faultInPlace_85 rfl (lv_at hl 1 rfl) ?_
              refine r_calli B hC hl.1 (1) 7 rfl rfl (by decide) h0 (As := [.int (nI i)]) (ctX7_isFilledPlace l g lo ad hT ok (i := i) (by omega)) gX7_faultInPlace_X7_isFilledPlace rfl (n := 1) rfl (by decide +kernel) ⟨Nat.le_of_ble_eq_true rfl, Nat.le_of_ble_eq_true rfl⟩ ⟨Nat.zero_le _, Nat.zero_le _⟩ rfl (Nat.le_of_ble_eq_true rfl) dX7_faultInPlace_86 (fun r86 F1 H locs hp86 hC => ?_)
              obtain ⟨er, eF⟩ := hp86
              subst er
              rw [eF] at hC
              refine lv_if_eq (tgt := 100) B.1 B.2.1 dX7_faultInPlace_89 (by decide) (fun c_89 => ?_) (fun c_89 => ?_)
              · have q_89 : (decide (tat v i = some 80)) = false := bI_f.mp c_89
                refine lv_bipush (v := (-9)) B.1 B.2.1 dX7_faultInPlace_100 (by decide) ?_
                exact r_eI B hC (v := (-9)) (⟨by simp_all [fPlace, oI], rfl⟩) dX7_faultInPlace_102
              · have q_89 : (decide (tat v i = some 80)) = true := bI_t.mp c_89
                refine lv_aload_n B.1 B.2.1 dX7_faultInPlace_92 rfl (lv_at hl 0 rfl) ?_
                refine lv_iload_n B.1 B.2.1 dX7_faultInPlace_93 rfl (lv_at hl 1 rfl) ?_
                refine r_calli B hC hl.1 (1) 7 rfl rfl (by decide) h0 (As := [.int (nI i)]) (ctX7_faultInTimber l g lo ad hT ok (i := i) (by omega)) gX7_faultInPlace_X7_faultInTimber rfl (n := 1) rfl (by decide +kernel) ⟨Nat.le_of_ble_eq_true rfl, Nat.le_of_ble_eq_true rfl⟩ ⟨Nat.zero_le _, Nat.zero_le _⟩ rfl (Nat.le_of_ble_eq_true rfl) dX7_faultInPlace_94 (fun r94 F1 H locs hp94 hC => ?_)
                obtain ⟨er, eF⟩ := hp94
                subst er
                rw [eF] at hC
                refine lv_goto (tgt := 102) B.1 B.2.1 dX7_faultInPlace_97 (by decide) ?_
                exact r_eI B hC (v := oI (fTimber v i)) (⟨by simp_all [fPlace, oI], rfl⟩) dX7_faultInPlace_102
            · have q_77 : (isFig v (i + 3) 0 p) = false := bI_f.mp c_77
              refine lv_iload_n B.1 B.2.1 dX7_faultInPlace_80 rfl (lv_at hl 1 rfl) ?_
              refine lv_iconst (v := nI 3) B.1 B.2.1 dX7_faultInPlace_81 (by decide) ?_
              refine lv_iadd B.1 B.2.1 dX7_faultInPlace_82 ?_
              refine r_tI (y := nI (i + 3)) (nI_add _ _) ?_
              exact r_eI B hC (v := nI (i + 3)) (⟨by simp_all [fPlace, oI], rfl⟩) dX7_faultInPlace_83
        · have q_47 : (isFig v (i + 2) 0 10) = false := bI_f.mp c_47
          refine lv_iload_n B.1 B.2.1 dX7_faultInPlace_50 rfl (lv_at hl 1 rfl) ?_
          refine lv_iconst (v := nI 2) B.1 B.2.1 dX7_faultInPlace_51 (by decide) ?_
          refine lv_iadd B.1 B.2.1 dX7_faultInPlace_52 ?_
          refine r_tI (y := nI (i + 2)) (nI_add _ _) ?_
          exact r_eI B hC (v := nI (i + 2)) (⟨by simp_all [fPlace, oI], rfl⟩) dX7_faultInPlace_53
      · have q_30 : (isFig v (i + 1) 1 10) = false := bI_f.mp c_30
        refine lv_iload_n B.1 B.2.1 dX7_faultInPlace_33 rfl (lv_at hl 1 rfl) ?_
        refine lv_iconst (v := nI 1) B.1 B.2.1 dX7_faultInPlace_34 (by decide) ?_
        refine lv_iadd B.1 B.2.1 dX7_faultInPlace_35 ?_
        refine r_tI (y := nI (i + 1)) (nI_add _ _) ?_
        exact r_eI B hC (v := nI (i + 1)) (⟨by simp_all [fPlace, oI], rfl⟩) dX7_faultInPlace_36
    · have q_15 : ¬ tat v i = some 79 := fun z => c_15 ((y1_eq ok (by decide)).mpr z)
      refine lv_iload_n B.1 B.2.1 dX7_faultInPlace_18 rfl (lv_at hl 1 rfl) ?_
      exact r_eI B hC (v := nI i) (⟨by simp_all [fPlace, oI], rfl⟩) dX7_faultInPlace_19
theorem bop_le (v : TV) (i : Nat) : 4 ≤ bop v i ∧ bop v i ≤ 6 := by unfold bop; split <;> omega
theorem fTimber_le {v : TV} {i k : Nat} (h : fTimber v i = some k) : k ≤ i + 5 := by
  unfold fTimber at h
  split at h
  · split at h
    · cases h
    · cases h; omega
  · cases h; omega
theorem fPlace_le {v : TV} {i p k : Nat} (h : fPlace v i p = some k) : k ≤ i + 5 := by
  unfold fPlace at h
  split at h
  · split at h
    · split at h
      · split at h
        · split at h
          · exact fTimber_le h
          · cases h
        · cases h; omega
      · cases h; omega
    · cases h; omega
  · cases h; omega
theorem fHead_le {v : TV} {k : Nat} (h : fHead v = some k) : k ≤ 3 := by
  unfold fHead at h
  generalize (if tat v 2 = some 48 then 1 else 0) = lu at h
  split at h
  · split at h
    · split at h
      · split at h
        · cases h
        · cases h; omega
      · cases h; omega
    · cases h; omega
  · cases h; omega
/-- behind the head: k places at most from place p on, that would begin at i -/
def fRest (v : TV) : Nat → Nat → Nat → Option Nat
  | 0, _, i => if i < tn v then some i else none
  | k + 1, p, i => if i < tn v then (if fPlace v i p = none then fRest v k (p + 1) (i + bop v i) else fPlace v i p) else none
def fAll (v : TV) : Option Nat := if fHead v = none then fRest v 10 0 4 else fHead v
theorem iwX7_firstFault_X7 : ∀ w ∈ u_ws RX7 TX7 2, w ∈ wsX7_firstFault := by decide +kernel
theorem flX7_firstFault_15 : Cond.fieldLink RX7 15 RX7 (TX7 1).2.1 (TX7 1).2.2.1 ∈ wsX7_firstFault := by decide +kernel
set_option maxHeartbeats 4000000 in
set_option maxRecDepth 100000 in
theorem ctX7_firstFault (l : Launch) (g : Gx) (lo : Nat) (ad : Nat → Nat) {F : Nat → va_E} {v : TV} (hT : TextC g ad F v) (ok : TOK v) : MI l g lo 196 ad yX7_firstFault wsX7_firstFault 5 108 [.ref (ad (1))] F (fun r F' => r = oI (fAll v) ∧ F' = F) := by
  obtain ⟨h0, h1⟩ := id hT
  have okn := ok.1
  refine enter (cc := cX7_firstFault) (maxL := 5) (ret := some .int) (own := RX7) (by decide +kernel) rfl rfl (Nat.le_of_ble_eq_true rfl) ?_
  intro pp ee ss mm below meth cc B hini hC ls hl
  have hl : lv_has ls 5 [(0, .ref (ad (1)))] := hl
  refine lv_aload_n B.1 B.2.1 dX7_firstFault_0 rfl (lv_at hl 0 rfl) ?_
  refine r_calli B hC hl.1 (1) 7 rfl rfl (by decide) h0 (As := []) (ctX7_faultInHead l g lo ad hT ok) gX7_firstFault_X7_faultInHead rfl (n := 0) rfl (by decide +kernel) ⟨Nat.le_of_ble_eq_true rfl, Nat.le_of_ble_eq_true rfl⟩ ⟨Nat.zero_le _, Nat.zero_le _⟩ rfl (Nat.le_of_ble_eq_true rfl) dX7_firstFault_1 (fun r1 F1 H locs hp1 hC => ?_)
  obtain ⟨er, eF⟩ := hp1
  subst er
  rw [eF] at hC
  refine lv_istore_n (lv' := [(1, .int (oI (fHead v))), (0, .ref (ad (1)))]) B.1 B.2.1 dX7_firstFault_4 rfl hl (by decide) rfl (fun ls hl => ?_)
  refine lv_iload_n B.1 B.2.1 dX7_firstFault_5 rfl (lv_at hl 0 rfl) ?_
  refine lv_bipush (v := (-9)) B.1 B.2.1 dX7_firstFault_6 (by decide) ?_
  refine lv_icmp_eq (tgt := 13) B.1 B.2.1 dX7_firstFault_8 (by decide) (fun c_8 => ?_) (fun c_8 => ?_)
  · have q_8 := (oI_9 (fun k hk => Nat.lt_of_le_of_lt (fHead_le hk) (by decide))).mp c_8
    refine lv_iconst (v := nI 4) B.1 B.2.1 dX7_firstFault_13 (by decide) ?_
    refine lv_istore_n (lv' := [(2, .int (nI 4)), (1, .int (oI (fHead v))), (0, .ref (ad (1)))]) B.1 B.2.1 dX7_firstFault_14 rfl hl (by decide) rfl (fun ls hl => ?_)
    refine lv_iconst (v := nI 0) B.1 B.2.1 dX7_firstFault_15 (by decide) ?_
    refine lv_istore_n (lv' := [(3, .int (nI 0)), (2, .int (nI 4)), (1, .int (oI (fHead v))), (0, .ref (ad (1)))]) B.1 B.2.1 dX7_firstFault_16 rfl hl (by decide) rfl (fun ls hl => ?_)
    have loop17 : ∀ (k : Nat) (p i : Nat), (p + k = 10) → (i ≤ 4 + 6 * p) → (fAll v = fRest v k p i) → ∀ (H : Heap) (locs : List Loc) (ls : Array Slot), Cu g lo 196 ad F ss ss.heap H locs → lv_has ls 5 [(3, .int (nI p)), (2, .int (nI i)), (0, .ref (ad (1)))] → W pp l ee { frames := 5, cells := 0, slots := 0, locals := 108 } ss mm ([.ref (ad (1))] : List Value).toArray below meth cc H locs 0 0 (MQ below (va_Qi (fun r F' => r = oI (fAll v) ∧ F' = F) (fun F' t => Wd g lo 196 ad F' t) (fun q => lo ≤ q)) ([.ref (ad (1))] : List Value).toArray ss 0 0 (fun q => lo ≤ q)) (F0 mm 17 ls []) := by
      intro k
      induction k with
      | zero =>
        intro p i hpk hi hf H locs ls hC hl
        have hbo := bop_le v i
        refine lv_iload_n B.1 B.2.1 dX7_firstFault_17 rfl (lv_at hl 0 rfl) ?_
        refine lv_bipush (v := nI 10) B.1 B.2.1 dX7_firstFault_18 (by decide) ?_
        refine lv_icmp_ge (tgt := 63) B.1 B.2.1 dX7_firstFault_20 (by decide) (fun _ => ?_) (fun z => absurd (nI_le (by omega) (by omega)) z)
        refine lv_iload_n B.1 B.2.1 dX7_firstFault_63 rfl (lv_at hl 1 rfl) ?_
        refine lv_aload_n B.1 B.2.1 dX7_firstFault_64 rfl (lv_at hl 2 rfl) ?_
        refine r_cg B hC (i := 1) (by decide) h0 (C := RX7) (T := TX7) (n := 2) rfl iwX7_firstFault_X7 1 (by decide) (index := 15) flX7_firstFault_15 rfl (v := .int (nI (tn v))) rfl dX7_firstFault_65 ?_
        refine lv_icmp_ge (tgt := 75) B.1 B.2.1 dX7_firstFault_68 (by decide) (fun c_68 => ?_) (fun c_68 => ?_)
        · have q_68 : (tn v) ≤ i := (nI_leI (by omega) (by omega)).mp c_68
          refine lv_bipush (v := (-9)) B.1 B.2.1 dX7_firstFault_75 (by decide) ?_
          exact r_eI B hC (v := (-9)) (⟨by rw [hf, fRest, if_neg (by omega)]; rfl, rfl⟩) dX7_firstFault_77
        · have q_68 : ¬ (tn v) ≤ i := fun z => c_68 ((nI_leI (by omega) (by omega)).mpr z)
          refine lv_iload_n B.1 B.2.1 dX7_firstFault_71 rfl (lv_at hl 1 rfl) ?_
          refine lv_goto (tgt := 77) B.1 B.2.1 dX7_firstFault_72 (by decide) ?_
          exact r_eI B hC (v := nI i) (⟨by rw [hf, fRest, if_pos (by omega)]; rfl, rfl⟩) dX7_firstFault_77
      | succ k ih17 =>
        intro p i hpk hi hf H locs ls hC hl
        have hbo := bop_le v i
        refine lv_iload_n B.1 B.2.1 dX7_firstFault_17 rfl (lv_at hl 0 rfl) ?_
        refine lv_bipush (v := nI 10) B.1 B.2.1 dX7_firstFault_18 (by decide) ?_
        refine lv_icmp_ge (tgt := 63) B.1 B.2.1 dX7_firstFault_20 (by decide) (fun z => absurd z (nI_ge (by omega) (by omega))) (fun _ => ?_)
        refine lv_iload_n B.1 B.2.1 dX7_firstFault_23 rfl (lv_at hl 1 rfl) ?_
        refine lv_aload_n B.1 B.2.1 dX7_firstFault_24 rfl (lv_at hl 2 rfl) ?_
        refine r_cg B hC (i := 1) (by decide) h0 (C := RX7) (T := TX7) (n := 2) rfl iwX7_firstFault_X7 1 (by decide) (index := 15) flX7_firstFault_15 rfl (v := .int (nI (tn v))) rfl dX7_firstFault_25 ?_
        refine lv_icmp_ge (tgt := 63) B.1 B.2.1 dX7_firstFault_28 (by decide) (fun c_28 => ?_) (fun c_28 => ?_)
        · have q_28 : (tn v) ≤ i := (nI_leI (by omega) (by omega)).mp c_28
          refine lv_iload_n B.1 B.2.1 dX7_firstFault_63 rfl (lv_at hl 1 rfl) ?_
          refine lv_aload_n B.1 B.2.1 dX7_firstFault_64 rfl (lv_at hl 2 rfl) ?_
          refine r_cg B hC (i := 1) (by decide) h0 (C := RX7) (T := TX7) (n := 2) rfl iwX7_firstFault_X7 1 (by decide) (index := 15) flX7_firstFault_15 rfl (v := .int (nI (tn v))) rfl dX7_firstFault_65 ?_
          refine lv_icmp_ge (tgt := 75) B.1 B.2.1 dX7_firstFault_68 (by decide) (fun _ => ?_) (fun z => absurd (nI_le (by omega) (by omega)) z)
          refine lv_bipush (v := (-9)) B.1 B.2.1 dX7_firstFault_75 (by decide) ?_
          exact r_eI B hC (v := (-9)) (⟨by rw [hf, fRest, if_neg (by omega)]; rfl, rfl⟩) dX7_firstFault_77
        · have q_28 : ¬ (tn v) ≤ i := fun z => c_28 ((nI_leI (by omega) (by omega)).mpr z)
          refine lv_aload_n B.1 B.2.1 dX7_firstFault_31 rfl (lv_at hl 2 rfl) ?_
          refine lv_iload_n B.1 B.2.1 dX7_firstFault_32 rfl (lv_at hl 1 rfl) ?_
          refine lv_iload_n B.1 B.2.1 dX7_firstFault_33 rfl (lv_at hl 0 rfl) ?_
          refine r_calli B hC hl.1 (1) 7 rfl rfl (by decide) h0 (As := [.int (nI i), .int (nI p)]) (ctX7_faultInPlace l g lo ad hT ok (i := i) (p := p) (by omega) (by omega)) gX7_firstFault_X7_faultInPlace rfl (n := 2) rfl (by decide +kernel) ⟨Nat.le_of_ble_eq_true rfl, Nat.le_of_ble_eq_true rfl⟩ ⟨Nat.zero_le _, Nat.zero_le _⟩ rfl (Nat.le_of_ble_eq_true rfl) dX7_firstFault_34 (fun r34 F1 H locs hp34 hC => ?_)
          obtain ⟨er, eF⟩ := hp34
          subst er
          rw [eF] at hC
          refine lv_istore (lv' := [(4, .int (oI (fPlace v i p))), (3, .int (nI p)), (2, .int (nI i)), (0, .ref (ad (1)))]) B.1 B.2.1 dX7_firstFault_37 hl (by decide) rfl (fun ls hl => ?_)
          refine lv_iload B.1 B.2.1 dX7_firstFault_39 (lv_at hl 0 rfl) ?_
          refine lv_bipush (v := (-9)) B.1 B.2.1 dX7_firstFault_41 (by decide) ?_
          refine lv_icmp_eq (tgt := 49) B.1 B.2.1 dX7_firstFault_43 (by decide) (fun c_43 => ?_) (fun c_43 => ?_)
          · have q_43 := (oI_9 (fun k hk => Nat.lt_of_le_of_lt (fPlace_le hk) (by omega))).mp c_43
            refine lv_iload_n B.1 B.2.1 dX7_firstFault_49 rfl (lv_at hl 2 rfl) ?_
            refine lv_aload_n B.1 B.2.1 dX7_firstFault_50 rfl (lv_at hl 3 rfl) ?_
            refine lv_iload_n B.1 B.2.1 dX7_firstFault_51 rfl (lv_at hl 2 rfl) ?_
            refine r_calli B hC hl.1 (1) 7 rfl rfl (by decide) h0 (As := [.int (nI i)]) (ctX7_bytesOfPlace l g lo ad hT ok (i := i) (by omega)) gX7_firstFault_X7_bytesOfPlace rfl (n := 1) rfl (by decide +kernel) ⟨Nat.le_of_ble_eq_true rfl, Nat.le_of_ble_eq_true rfl⟩ ⟨Nat.zero_le _, Nat.zero_le _⟩ rfl (Nat.le_of_ble_eq_true rfl) dX7_firstFault_52 (fun r52 F1 H locs hp52 hC => ?_)
            obtain ⟨er, eF⟩ := hp52
            subst er
            rw [eF] at hC
            refine lv_iadd B.1 B.2.1 dX7_firstFault_55 ?_
            refine r_tI (y := nI (i + (bop v i))) (nI_add _ _) ?_
            refine lv_istore_n (lv' := [(2, .int (nI (i + (bop v i)))), (4, .int (oI (fPlace v i p))), (3, .int (nI p)), (0, .ref (ad (1)))]) B.1 B.2.1 dX7_firstFault_56 rfl hl (by decide) rfl (fun ls hl => ?_)
            refine lv_iinc (v := nI (p + 1)) (lv' := [(3, .int (nI (p + 1))), (2, .int (nI (i + (bop v i)))), (4, .int (oI (fPlace v i p))), (0, .ref (ad (1)))]) B.1 B.2.1 dX7_firstFault_57 hl (k := 2) rfl (nI_1 _) (by decide) rfl (fun ls hl => ?_)
            refine lv_goto (tgt := 17) B.1 B.2.1 dX7_firstFault_60 (by decide) ?_
            exact ih17 (p + 1) (i + bop v i) (by omega) (by have := bop_le v i; omega) (by rw [hf, fRest, if_pos (by omega), if_pos q_43]) _ _ ls hC (lv_sub hl [0, 1, 3] rfl)
          · have q_43 : ¬ fPlace v i p = none := fun z => c_43 ((oI_9 (fun k hk => Nat.lt_of_le_of_lt (fPlace_le hk) (by omega))).mpr z)
            refine lv_iload B.1 B.2.1 dX7_firstFault_46 (lv_at hl 0 rfl) ?_
            exact r_eI B hC (v := oI (fPlace v i p)) (⟨by rw [hf, fRest, if_pos (by omega), if_neg q_43], rfl⟩) dX7_firstFault_48
    exact loop17 10 0 4 rfl (by decide) (by rw [fAll, if_pos q_8]) _ _ ls hC (lv_sub hl [0, 1, 3] rfl)
  · have q_8 : ¬ fHead v = none := fun z => c_8 ((oI_9 (fun k hk => Nat.lt_of_le_of_lt (fHead_le hk) (by decide))).mpr z)
    refine lv_iload_n B.1 B.2.1 dX7_firstFault_11 rfl (lv_at hl 0 rfl) ?_
    exact r_eI B hC (v := oI (fHead v)) (⟨by rw [fAll, if_neg q_8], rfl⟩) dX7_firstFault_12
