/-! THE WHOLE OBJECT: share, storm -/
def shTo (h : HV) (w : LV) (s : Nat) : Nat → Nat
  | 0 => 0
  | p + 1 => shTo h w s p + (match ti w p with
    | none => 0
    | some t => if hsh h t = some s then ln w t else 0)
def alTo (w : LV) : Nat → Nat
  | 0 => 0
  | p + 1 => alTo w p + (match ti w p with
    | none => 0
    | some t => ln w t)
def isSh (s : Int32) : Bool := decide (s = nI 0) || (decide (s = nI 1) || decide (s = nI 2))
theorem isSh_i {s : Int32} (h0 : ¬ s < 0) (h2 : s < nI 3) : isSh s = true ∧ ∃ j, j < 3 ∧ s = nI j := by
  obtain ⟨j, hj, rfl⟩ := nI_of h0
  have hj2 := (nI_ltI hj (by decide)).mp h2
  refine ⟨?_, j, hj2, rfl⟩
  match j, hj2 with
  | 0, _ => decide
  | 1, _ => decide
  | 2, _ => decide
theorem isSh_n {s : Int32} (h : s < 0 ∨ ¬ s < nI 3) : ¬ isSh s = true := by
  intro q
  simp only [isSh, Bool.or_eq_true, decide_eq_true_eq] at q
  rcases q with rfl | rfl | rfl <;> rcases h with h | h <;> first | exact absurd h (by decide) | exact absurd (by decide) h
def shareA (x : XV) (s : Int32) (u : Bool) : Int32 := if isSh s = true then nI (leastA (shTo (xh x) (xw x) (ix s) (hn (xh x))) (alTo (xw x) (hn (xh x))) u) else -1
def wTo (h : HV) (w : LV) (x : Nat) : Nat → Nat → Nat
  | 0 => fun i => if i = leakV h w then 1 else 0
  | p + 1 => if ti w p = none then wTo h w x p else tearV (wTo h w x p) (hin_ h p) x
def aTo (w : LV) : Nat → Nat
  | 0 => 1
  | p + 1 => if ti w p = none then aTo w p else aTo w p * 10
theorem aTo_le (w : LV) : ∀ k, aTo w k ≤ 10 ^ k
  | 0 => Nat.le_refl _
  | k + 1 => by
    have q := aTo_le w k
    rw [Nat.pow_succ]
    unfold aTo
    split <;> omega
theorem tearV_le {f : Nat → Nat} {c d x i : Nat} (hf : ∀ i, f i ≤ c) (hx : x ≤ 10) : tearV f d x i ≤ c * 10 := by
  unfold tearV
  have h1 := Nat.mul_le_mul_right (10 - x) (hf i)
  have h3 : c * (10 - x) + c * x = c * 10 := by rw [← Nat.mul_add]; congr 1; omega
  split
  · have h2 := Nat.mul_le_mul_right x (hf (i - d))
    omega
  · omega
theorem wTo_le {h : HV} {w : LV} {x : Nat} (hx : x ≤ 10) : ∀ k i, wTo h w x k i ≤ 10 ^ k
  | 0, i => by
    show (if i = leakV h w then 1 else 0) ≤ 1
    split <;> omega
  | k + 1, i => by
    have q := wTo_le (h := h) (w := w) hx k
    rw [Nat.pow_succ]
    unfold wTo
    split
    · have := q i; omega
    · exact tearV_le q hx
theorem sumTo_cong {f g : Nat → Nat} : ∀ {n : Nat}, (∀ i, i < n → f i = g i) → sumTo f n = sumTo g n
  | 0, _ => rfl
  | n + 1, h => by rw [sumTo, sumTo, sumTo_cong (fun i hi => h i (by omega)), h n (by omega)]
theorem sumTo_le {f : Nat → Nat} {c : Nat} (h : ∀ i, f i ≤ c) : ∀ n, sumTo f n ≤ n * c
  | 0 => by rw [Nat.zero_mul]; exact Nat.le_refl _
  | n + 1 => by
    have q := sumTo_le h n
    have := h n
    rw [sumTo, Nat.succ_mul]; omega
def stormB (x y : Int32) : Bool := (decide (0 ≤ x) && decide (x ≤ nI 10)) && (decide (0 ≤ y) && decide (y ≤ nI 99))
def stormA (X : XV) (x y : Int32) (u : Bool) : Int64 := if stormB x y = true then lN (leastA (sumTo (wTo (xh X) (xw X) (ix x) (hn (xh X))) (min (ix y + 1) 91)) (aTo (xw X) (hn (xh X))) u) else -2
theorem n0_ge {n : Int32} (h : ¬ n < 0) : (0 : Int32) ≤ n := by
  rw [Int32.le_iff_toInt_le]
  rw [Int32.lt_iff_toInt_lt] at h
  have e1 : (0 : Int32).toInt = 0 := by decide
  omega
theorem n0_nge {n : Int32} (h : n < 0) : ¬ (0 : Int32) ≤ n := by
  rw [Int32.le_iff_toInt_le]
  rw [Int32.lt_iff_toInt_lt] at h
  have e1 : (0 : Int32).toInt = 0 := by decide
  omega
theorem n_nlt {n k : Int32} (h : ¬ k < n) : n ≤ k := by
  rw [Int32.le_iff_toInt_le]
  rw [Int32.lt_iff_toInt_lt] at h
  omega
theorem n_lt {n k : Int32} (h : k < n) : ¬ n ≤ k := by
  rw [Int32.le_iff_toInt_le]
  rw [Int32.lt_iff_toInt_lt] at h
  omega
theorem iwX8_share_X8 : ∀ w ∈ u_ws RX8 TX8 8, w ∈ wsX8_share := by decide +kernel
theorem flX8_share_19 : Cond.fieldLink RX8 19 RX8 (TX8 1).2.1 (TX8 1).2.2.1 ∈ wsX8_share := by decide +kernel
theorem flX8_share_26 : Cond.fieldLink RX8 26 RX8 (TX8 2).2.1 (TX8 2).2.2.1 ∈ wsX8_share := by decide +kernel
set_option maxHeartbeats 4000000 in
set_option maxRecDepth 100000 in
theorem ctX8_share (l : Launch) (g : Gx) (lo : Nat) (ad : Nat → Nat) {F : Nat → va_E} {x : XV} (hX : XC g ad F x) (okx : XOK x) {s : Int32} {u : Bool} : MI l g lo 196 ad yX8_share wsX8_share 2 56 [.ref (ad (0)), .int (s), .int (bI u)] F (fun r F' => r = shareA x s u ∧ F' = F) := by
  obtain ⟨hP, hT, hH, hL, hA, hS, ⟨wt, hW, hct⟩, ⟨c, hCh⟩, ⟨fm, fo, hQ⟩, rv0, hR, okR⟩ := id hX
  obtain ⟨okT, okH, okL, okA, okS, okAu, okSu⟩ := id okx
  have okn := okH.1
  have okt := okT.1
  refine enter (cc := cX8_share) (maxL := 7) (ret := some .int) (own := RX8) (by decide +kernel) rfl rfl (Nat.le_of_ble_eq_true rfl) ?_
  intro pp ee ss mm below meth cc B hini hC ls hl
  have hl : lv_has ls 7 [(0, .ref (ad (0))), (1, .int (s)), (2, .int (bI u))] := hl
  refine lv_iload_n B.1 B.2.1 dX8_share_0 rfl (lv_at hl 1 rfl) ?_
  refine lv_if_lt (tgt := 9) B.1 B.2.1 dX8_share_1 (by decide) (fun c_1 => ?_) (fun c_1 => ?_)
  · have q : ¬ isSh s = true := isSh_n (Or.inl c_1)
    refine lv_iconst (v := (-1)) B.1 B.2.1 dX8_share_9 (by decide) ?_
    exact r_eI B hC (v := (-1)) (⟨by rw [shareA, if_neg q], rfl⟩) dX8_share_10
  · refine lv_iload_n B.1 B.2.1 dX8_share_4 rfl (lv_at hl 1 rfl) ?_
    refine lv_iconst (v := nI 3) B.1 B.2.1 dX8_share_5 (by decide) ?_
    refine lv_icmp_lt (tgt := 11) B.1 B.2.1 dX8_share_6 (by decide) (fun c_6 => ?_) (fun c_6 => ?_)
    · obtain ⟨q, j, hj, ej⟩ := isSh_i c_1 c_6
      refine lv_iconst (v := nI 0) B.1 B.2.1 dX8_share_11 (by decide) ?_
      refine lv_istore_n (lv' := [(3, .int (nI 0)), (0, .ref (ad (0))), (1, .int (s)), (2, .int (bI u))]) B.1 B.2.1 dX8_share_12 rfl hl (by decide) rfl (fun ls hl => ?_)
      refine lv_iconst (v := nI 0) B.1 B.2.1 dX8_share_13 (by decide) ?_
      refine lv_istore (lv' := [(4, .int (nI 0)), (3, .int (nI 0)), (0, .ref (ad (0))), (1, .int (s)), (2, .int (bI u))]) B.1 B.2.1 dX8_share_14 hl (by decide) rfl (fun ls hl => ?_)
      refine lv_iconst (v := nI 0) B.1 B.2.1 dX8_share_16 (by decide) ?_
      refine lv_istore (lv' := [(5, .int (nI 0)), (4, .int (nI 0)), (3, .int (nI 0)), (0, .ref (ad (0))), (1, .int (s)), (2, .int (bI u))]) B.1 B.2.1 dX8_share_17 hl (by decide) rfl (fun ls hl => ?_)
      have loop19 : ∀ (k : Nat) (p a1 a2 : Nat), (p + k = hn (xh x)) → (a1 = shTo (xh x) (xw x) j p) → (a2 = alTo (xw x) p) → (a1 ≤ 9 * p) → (a2 ≤ 9 * p) → ∀ (H : Heap) (locs : List Loc) (ls : Array Slot), Cu g lo 196 ad F ss ss.heap H locs → lv_has ls 7 [(5, .int (nI p)), (4, .int (nI a2)), (3, .int (nI a1)), (0, .ref (ad (0))), (1, .int (s)), (2, .int (bI u))] → W pp l ee { frames := 2, cells := 0, slots := 0, locals := 56 } ss mm ([.ref (ad (0)), .int (s), .int (bI u)] : List Value).toArray below meth cc H locs 0 0 (MQ below (va_Qi (fun r F' => r = shareA x s u ∧ F' = F) (fun F' t => Wd g lo 196 ad F' t) (fun q => lo ≤ q)) ([.ref (ad (0)), .int (s), .int (bI u)] : List Value).toArray ss 0 0 (fun q => lo ≤ q)) (F0 mm 19 ls []) := by
        intro k
        induction k with
        | zero =>
          intro p a1 a2 hpk h1 h2 hb1 hb2 H locs ls hC hl
          refine lv_iload B.1 B.2.1 dX8_share_19 (lv_at hl 0 rfl) ?_
          refine lv_aload_n B.1 B.2.1 dX8_share_21 rfl (lv_at hl 3 rfl) ?_
          refine r_cg B hC (i := 0) (by decide) hP (C := RX8) (T := TX8) (n := 8) rfl iwX8_share_X8 1 (by decide) (index := 19) flX8_share_19 rfl (v := .ref (ad (3))) rfl dX8_share_22 ?_
          refine r_calli B hC hl.1 (3) 2 rfl rfl (by decide) (hH.1) (As := []) (ctX2_places l g lo ad hH okH) gX8_share_X2_places rfl (n := 0) rfl (by decide +kernel) ⟨Nat.le_of_ble_eq_true rfl, Nat.le_of_ble_eq_true rfl⟩ ⟨Nat.zero_le _, Nat.zero_le _⟩ rfl (Nat.le_of_ble_eq_true rfl) dX8_share_25 (fun r25 F1 H locs hp25 hC => ?_)
          obtain ⟨er, eF⟩ := hp25
          subst er
          rw [eF] at hC
          refine lv_icmp_ge (tgt := 98) B.1 B.2.1 dX8_share_28 (by decide) (fun _ => ?_) (fun z => absurd (nI_le (by omega) (by omega)) z)
          refine lv_iload_n B.1 B.2.1 dX8_share_98 rfl (lv_at hl 2 rfl) ?_
          refine lv_i2l (v := lN a1) B.1 B.2.1 dX8_share_99 (nI_l (by omega)) ?_
          refine lv_iload B.1 B.2.1 dX8_share_100 (lv_at hl 1 rfl) ?_
          refine lv_i2l (v := lN a2) B.1 B.2.1 dX8_share_102 (nI_l (by omega)) ?_
          refine lv_iload_n B.1 B.2.1 dX8_share_103 rfl (lv_at hl 5 rfl) ?_
          refine r_scalll B hC hl.1 (As := [.long (lN a1), .long (lN a2), .int (bI u)]) (ctX8_leastTerms l g lo ad (a := a1) (b := a2) (u := u) (by omega) (by omega)) gX8_share_X8_leastTerms rfl (n := 3) rfl (by decide +kernel) ⟨Nat.le_of_ble_eq_true rfl, Nat.le_of_ble_eq_true rfl⟩ ⟨Nat.zero_le _, Nat.zero_le _⟩ rfl (Nat.le_of_ble_eq_true rfl) dX8_share_104 (fun r104 F1 H locs hp104 hC => ?_)
          obtain ⟨er, eF⟩ := hp104
          subst er
          rw [eF] at hC
          refine lv_l2i (v := nI (leastA a1 a2 u)) B.1 B.2.1 dX8_share_107 (lN_i _) ?_
          exact r_eI B hC (v := nI (leastA a1 a2 u)) (⟨by rw [shareA, if_pos q, ej, ix_n (by omega), show hn (xh x) = p by omega, ← h1, ← h2], rfl⟩) dX8_share_108
        | succ k ih19 =>
          intro p a1 a2 hpk h1 h2 hb1 hb2 H locs ls hC hl
          refine lv_iload B.1 B.2.1 dX8_share_19 (lv_at hl 0 rfl) ?_
          refine lv_aload_n B.1 B.2.1 dX8_share_21 rfl (lv_at hl 3 rfl) ?_
          refine r_cg B hC (i := 0) (by decide) hP (C := RX8) (T := TX8) (n := 8) rfl iwX8_share_X8 1 (by decide) (index := 19) flX8_share_19 rfl (v := .ref (ad (3))) rfl dX8_share_22 ?_
          refine r_calli B hC hl.1 (3) 2 rfl rfl (by decide) (hH.1) (As := []) (ctX2_places l g lo ad hH okH) gX8_share_X2_places rfl (n := 0) rfl (by decide +kernel) ⟨Nat.le_of_ble_eq_true rfl, Nat.le_of_ble_eq_true rfl⟩ ⟨Nat.zero_le _, Nat.zero_le _⟩ rfl (Nat.le_of_ble_eq_true rfl) dX8_share_25 (fun r25 F1 H locs hp25 hC => ?_)
          obtain ⟨er, eF⟩ := hp25
          subst er
          rw [eF] at hC
          refine lv_icmp_ge (tgt := 98) B.1 B.2.1 dX8_share_28 (by decide) (fun z => absurd z (nI_ge (by omega) (by omega))) (fun _ => ?_)
          refine lv_aload_n B.1 B.2.1 dX8_share_31 rfl (lv_at hl 3 rfl) ?_
          refine r_cg B hC (i := 0) (by decide) hP (C := RX8) (T := TX8) (n := 8) rfl iwX8_share_X8 2 (by decide) (index := 26) flX8_share_26 rfl (v := .ref (ad (8))) rfl dX8_share_32 ?_
          refine lv_iload B.1 B.2.1 dX8_share_35 (lv_at hl 0 rfl) ?_
          refine r_calli B hC hl.1 (8) 3 rfl rfl (by decide) (hL.1) (As := [.int (nI p)]) (ctX3_timberIn l g lo ad (b := 8) (by decide) hL (t := p) (by omega)) gX8_share_X3_timberIn rfl (n := 1) rfl (by decide +kernel) ⟨Nat.le_of_ble_eq_true rfl, Nat.le_of_ble_eq_true rfl⟩ ⟨Nat.zero_le _, Nat.zero_le _⟩ rfl (Nat.le_of_ble_eq_true rfl) dX8_share_37 (fun r37 F1 H locs hp37 hC => ?_)
          obtain ⟨er, eF⟩ := hp37
          subst er
          rw [eF] at hC
          rcases ht0 : ti (xw x) p with _ | t
          · refine r_tI (y := (-9)) rfl ?_
            refine lv_istore (lv' := [(6, .int ((-9))), (5, .int (nI p)), (4, .int (nI a2)), (3, .int (nI a1)), (0, .ref (ad (0))), (1, .int (s)), (2, .int (bI u))]) B.1 B.2.1 dX8_share_40 hl (by decide) rfl (fun ls hl => ?_)
            refine lv_iload B.1 B.2.1 dX8_share_42 (lv_at hl 0 rfl) ?_
            refine lv_bipush (v := (-9)) B.1 B.2.1 dX8_share_44 (by decide) ?_
            refine lv_icmp_eq (tgt := 92) B.1 B.2.1 dX8_share_46 (by decide) (fun _ => ?_) (fun z => absurd (rfl) z)
            refine lv_iinc (v := nI (p + 1)) (lv' := [(5, .int (nI (p + 1))), (6, .int ((-9))), (4, .int (nI a2)), (3, .int (nI a1)), (0, .ref (ad (0))), (1, .int (s)), (2, .int (bI u))]) B.1 B.2.1 dX8_share_92 hl (k := 1) rfl (nI_1 _) (by decide) rfl (fun ls hl => ?_)
            refine lv_goto (tgt := 19) B.1 B.2.1 dX8_share_95 (by decide) ?_
            exact ih19 (p + 1) a1 a2 (by omega) (by rw [shTo, ht0]; exact h1) (by rw [alTo, ht0]; exact h2) (by omega) (by omega) _ _ ls hC (lv_sub hl [0, 2, 3, 4, 5, 6] rfl)
          · have ht10 := okL.t10 (by omega) t ht0
            have htn := okL.in_ okH (by omega) ht0
            have hln := (okL.1 t).2.1
            refine r_tI (y := nI t) rfl ?_
            refine lv_istore (lv' := [(6, .int (nI t)), (5, .int (nI p)), (4, .int (nI a2)), (3, .int (nI a1)), (0, .ref (ad (0))), (1, .int (s)), (2, .int (bI u))]) B.1 B.2.1 dX8_share_40 hl (by decide) rfl (fun ls hl => ?_)
            refine lv_iload B.1 B.2.1 dX8_share_42 (lv_at hl 0 rfl) ?_
            refine lv_bipush (v := (-9)) B.1 B.2.1 dX8_share_44 (by decide) ?_
            refine lv_icmp_eq (tgt := 92) B.1 B.2.1 dX8_share_46 (by decide) (fun z => absurd z (nI_ne9 (by omega))) (fun _ => ?_)
            refine lv_iload B.1 B.2.1 dX8_share_49 (lv_at hl 2 rfl) ?_
            refine lv_aload_n B.1 B.2.1 dX8_share_51 rfl (lv_at hl 4 rfl) ?_
            refine r_cg B hC (i := 0) (by decide) hP (C := RX8) (T := TX8) (n := 8) rfl iwX8_share_X8 2 (by decide) (index := 26) flX8_share_26 rfl (v := .ref (ad (8))) rfl dX8_share_52 ?_
            refine lv_iload B.1 B.2.1 dX8_share_55 (lv_at hl 0 rfl) ?_
            refine r_calli B hC hl.1 (8) 3 rfl rfl (by decide) (hL.1) (As := [.int (nI t)]) (ctX3_lengthOf l g lo ad (b := 8) (by decide) hL (t := t) ht10) gX8_share_X3_lengthOf rfl (n := 1) rfl (by decide +kernel) ⟨Nat.le_of_ble_eq_true rfl, Nat.le_of_ble_eq_true rfl⟩ ⟨Nat.zero_le _, Nat.zero_le _⟩ rfl (Nat.le_of_ble_eq_true rfl) dX8_share_57 (fun r57 F1 H locs hp57 hC => ?_)
            obtain ⟨er, eF⟩ := hp57
            subst er
            rw [eF] at hC
            refine lv_iadd B.1 B.2.1 dX8_share_60 ?_
            refine r_tI (y := nI (a2 + (ln (xw x) t))) (nI_add _ _) ?_
            refine lv_istore (lv' := [(4, .int (nI (a2 + (ln (xw x) t)))), (6, .int (nI t)), (5, .int (nI p)), (3, .int (nI a1)), (0, .ref (ad (0))), (1, .int (s)), (2, .int (bI u))]) B.1 B.2.1 dX8_share_61 hl (by decide) rfl (fun ls hl => ?_)
            refine lv_iload_n B.1 B.2.1 dX8_share_63 rfl (lv_at hl 3 rfl) ?_
            refine lv_aload_n B.1 B.2.1 dX8_share_64 rfl (lv_at hl 4 rfl) ?_
            refine r_cg B hC (i := 0) (by decide) hP (C := RX8) (T := TX8) (n := 8) rfl iwX8_share_X8 1 (by decide) (index := 19) flX8_share_19 rfl (v := .ref (ad (3))) rfl dX8_share_65 ?_
            refine lv_iload B.1 B.2.1 dX8_share_68 (lv_at hl 1 rfl) ?_
            refine r_calli B hC hl.1 (3) 2 rfl rfl (by decide) (hH.1) (As := [.int (nI t)]) (ctX2_shipOf l g lo ad hH okH (p := t) htn) gX8_share_X2_shipOf rfl (n := 1) rfl (by decide +kernel) ⟨Nat.le_of_ble_eq_true rfl, Nat.le_of_ble_eq_true rfl⟩ ⟨Nat.zero_le _, Nat.zero_le _⟩ rfl (Nat.le_of_ble_eq_true rfl) dX8_share_70 (fun r70 F1 H locs hp70 hC => ?_)
            obtain ⟨er, eF⟩ := hp70
            subst er
            rw [eF] at hC
            refine lv_iload_n B.1 B.2.1 dX8_share_73 rfl (lv_at hl 5 rfl) ?_
            refine r_tI (y := nI j) (ej) ?_
            refine lv_icmp_ne (tgt := 89) B.1 B.2.1 dX8_share_74 (by decide) (fun c_74 => ?_) (fun c_74 => ?_)
            · have q_74 : ¬ hsh (xh x) t = some j := fun z => c_74 ((oI_eq (fun r hr => Nat.lt_trans (okH.2.2.2.2.2 t r hr) (by decide)) (by omega)).mpr z)
              refine lv_iconst (v := nI 0) B.1 B.2.1 dX8_share_89 (by decide) ?_
              refine lv_iadd B.1 B.2.1 dX8_share_90 ?_
              refine r_tI (y := nI (a1 + 0)) (nI_add _ _) ?_
              refine lv_istore_n (lv' := [(3, .int (nI (a1 + 0))), (4, .int (nI (a2 + (ln (xw x) t)))), (6, .int (nI t)), (5, .int (nI p)), (0, .ref (ad (0))), (1, .int (s)), (2, .int (bI u))]) B.1 B.2.1 dX8_share_91 rfl hl (by decide) rfl (fun ls hl => ?_)
              refine lv_iinc (v := nI (p + 1)) (lv' := [(5, .int (nI (p + 1))), (3, .int (nI (a1 + 0))), (4, .int (nI (a2 + (ln (xw x) t)))), (6, .int (nI t)), (0, .ref (ad (0))), (1, .int (s)), (2, .int (bI u))]) B.1 B.2.1 dX8_share_92 hl (k := 3) rfl (nI_1 _) (by decide) rfl (fun ls hl => ?_)
              refine lv_goto (tgt := 19) B.1 B.2.1 dX8_share_95 (by decide) ?_
              exact ih19 (p + 1) ((a1 + 0)) ((a2 + (ln (xw x) t))) (by omega) (by rw [shTo, ht0, h1]; show _ = shTo (xh x) (xw x) j p + (if hsh (xh x) t = some j then ln (xw x) t else 0); rw [if_neg q_74]) (by rw [alTo, ht0, h2]) (by omega) (by omega) _ _ ls hC (lv_sub hl [0, 2, 1, 4, 5, 6] rfl)
            · have q_74 := (oI_eq (fun r hr => Nat.lt_trans (okH.2.2.2.2.2 t r hr) (by decide)) (by omega)).mp c_74
              refine lv_aload_n B.1 B.2.1 dX8_share_77 rfl (lv_at hl 4 rfl) ?_
              refine r_cg B hC (i := 0) (by decide) hP (C := RX8) (T := TX8) (n := 8) rfl iwX8_share_X8 2 (by decide) (index := 26) flX8_share_26 rfl (v := .ref (ad (8))) rfl dX8_share_78 ?_
              refine lv_iload B.1 B.2.1 dX8_share_81 (lv_at hl 1 rfl) ?_
              refine r_calli B hC hl.1 (8) 3 rfl rfl (by decide) (hL.1) (As := [.int (nI t)]) (ctX3_lengthOf l g lo ad (b := 8) (by decide) hL (t := t) ht10) gX8_share_X3_lengthOf rfl (n := 1) rfl (by decide +kernel) ⟨Nat.le_of_ble_eq_true rfl, Nat.le_of_ble_eq_true rfl⟩ ⟨Nat.zero_le _, Nat.zero_le _⟩ rfl (Nat.le_of_ble_eq_true rfl) dX8_share_83 (fun r83 F1 H locs hp83 hC => ?_)
              obtain ⟨er, eF⟩ := hp83
              subst er
              rw [eF] at hC
              refine lv_goto (tgt := 90) B.1 B.2.1 dX8_share_86 (by decide) ?_
              refine lv_iadd B.1 B.2.1 dX8_share_90 ?_
              refine r_tI (y := nI (a1 + (ln (xw x) t))) (nI_add _ _) ?_
              refine lv_istore_n (lv' := [(3, .int (nI (a1 + (ln (xw x) t)))), (4, .int (nI (a2 + (ln (xw x) t)))), (6, .int (nI t)), (5, .int (nI p)), (0, .ref (ad (0))), (1, .int (s)), (2, .int (bI u))]) B.1 B.2.1 dX8_share_91 rfl hl (by decide) rfl (fun ls hl => ?_)
              refine lv_iinc (v := nI (p + 1)) (lv' := [(5, .int (nI (p + 1))), (3, .int (nI (a1 + (ln (xw x) t)))), (4, .int (nI (a2 + (ln (xw x) t)))), (6, .int (nI t)), (0, .ref (ad (0))), (1, .int (s)), (2, .int (bI u))]) B.1 B.2.1 dX8_share_92 hl (k := 3) rfl (nI_1 _) (by decide) rfl (fun ls hl => ?_)
              refine lv_goto (tgt := 19) B.1 B.2.1 dX8_share_95 (by decide) ?_
              exact ih19 (p + 1) ((a1 + (ln (xw x) t))) ((a2 + (ln (xw x) t))) (by omega) (by rw [shTo, ht0, h1]; show _ = shTo (xh x) (xw x) j p + (if hsh (xh x) t = some j then ln (xw x) t else 0); rw [if_pos q_74]) (by rw [alTo, ht0, h2]) (by omega) (by omega) _ _ ls hC (lv_sub hl [0, 2, 1, 4, 5, 6] rfl)
      exact loop19 (hn (xh x)) 0 0 0 (by omega) rfl rfl (by decide) (by decide) _ _ ls hC (lv_sub hl [0, 1, 2, 3, 4, 5] rfl)
    · have q : ¬ isSh s = true := isSh_n (Or.inr c_6)
      refine lv_iconst (v := (-1)) B.1 B.2.1 dX8_share_9 (by decide) ?_
      exact r_eI B hC (v := (-1)) (⟨by rw [shareA, if_neg q], rfl⟩) dX8_share_10
theorem iwX8_storm_X8 : ∀ w ∈ u_ws RX8 TX8 8, w ∈ wsX8_storm := by decide +kernel
theorem flX8_storm_19 : Cond.fieldLink RX8 19 RX8 (TX8 1).2.1 (TX8 1).2.2.1 ∈ wsX8_storm := by decide +kernel
theorem flX8_storm_26 : Cond.fieldLink RX8 26 RX8 (TX8 2).2.1 (TX8 2).2.2.1 ∈ wsX8_storm := by decide +kernel
theorem flX8_storm_50 : Cond.fieldLink RX8 50 RX8 (TX8 6).2.1 (TX8 6).2.2.1 ∈ wsX8_storm := by decide +kernel
set_option maxHeartbeats 4000000 in
set_option maxRecDepth 100000 in
theorem ctX8_storm (l : Launch) (g : Gx) (lo : Nat) (ad : Nat → Nat) {F : Nat → va_E} {x : XV} (hX : XC g ad F x) (okx : XOK x) {xx yy : Int32} {u : Bool} : ML l g lo 196 ad yX8_storm wsX8_storm 2 56 [.ref (ad (0)), .int (xx), .int (yy), .int (bI u)] F (fun r F' => r = stormA x xx yy u ∧ XC g ad F' x ∧ Same 0 175 F F') := by
  obtain ⟨hP, hT, hH, hL, hA, hS, ⟨wt, hW, hct⟩, ⟨c, hCh⟩, ⟨fm, fo, hQ⟩, rv0, hR, okR⟩ := id hX
  obtain ⟨okT, okH, okL, okA, okS, okAu, okSu⟩ := id okx
  have okn := okH.1
  have okt := okT.1
  refine enter (cc := cX8_storm) (maxL := 5) (ret := some .long) (own := RX8) (by decide +kernel) rfl rfl (Nat.le_of_ble_eq_true rfl) ?_
  intro pp ee ss mm below meth cc B hini hC ls hl
  have hl : lv_has ls 5 [(0, .ref (ad (0))), (1, .int (xx)), (2, .int (yy)), (3, .int (bI u))] := hl
  refine lv_iload_n B.1 B.2.1 dX8_storm_0 rfl (lv_at hl 1 rfl) ?_
  refine lv_if_lt (tgt := 20) B.1 B.2.1 dX8_storm_1 (by decide) (fun c_1 => ?_) (fun c_1 => ?_)
  · have q : ¬ stormB xx yy = true := fun z => by simp only [stormB, Bool.and_eq_true, decide_eq_true_eq] at z; exact n0_nge c_1 z.1.1
    refine lv_ldc2 (own := RX8) (v := (-2)) B.1 B.2.1 B.2.2.2.1 (B.2.2.2.2.1 (.constantLong RX8 191 (-2)) (by decide +kernel)) dX8_storm_20 ?_
    exact r_eL B hC (v := (-2)) (⟨by rw [stormA, if_neg q], hX, Same.rf⟩) dX8_storm_23
  · refine lv_iload_n B.1 B.2.1 dX8_storm_4 rfl (lv_at hl 1 rfl) ?_
    refine lv_bipush (v := nI 10) B.1 B.2.1 dX8_storm_5 (by decide) ?_
    refine lv_icmp_gt (tgt := 20) B.1 B.2.1 dX8_storm_7 (by decide) (fun c_7 => ?_) (fun c_7 => ?_)
    · have q : ¬ stormB xx yy = true := fun z => by simp only [stormB, Bool.and_eq_true, decide_eq_true_eq] at z; exact n_lt c_7 z.1.2
      refine lv_ldc2 (own := RX8) (v := (-2)) B.1 B.2.1 B.2.2.2.1 (B.2.2.2.2.1 (.constantLong RX8 191 (-2)) (by decide +kernel)) dX8_storm_20 ?_
      exact r_eL B hC (v := (-2)) (⟨by rw [stormA, if_neg q], hX, Same.rf⟩) dX8_storm_23
    · refine lv_iload_n B.1 B.2.1 dX8_storm_10 rfl (lv_at hl 2 rfl) ?_
      refine lv_if_lt (tgt := 20) B.1 B.2.1 dX8_storm_11 (by decide) (fun c_11 => ?_) (fun c_11 => ?_)
      · have q : ¬ stormB xx yy = true := fun z => by simp only [stormB, Bool.and_eq_true, decide_eq_true_eq] at z; exact n0_nge c_11 z.2.1
        refine lv_ldc2 (own := RX8) (v := (-2)) B.1 B.2.1 B.2.2.2.1 (B.2.2.2.2.1 (.constantLong RX8 191 (-2)) (by decide +kernel)) dX8_storm_20 ?_
        exact r_eL B hC (v := (-2)) (⟨by rw [stormA, if_neg q], hX, Same.rf⟩) dX8_storm_23
      · refine lv_iload_n B.1 B.2.1 dX8_storm_14 rfl (lv_at hl 2 rfl) ?_
        refine lv_bipush (v := nI 99) B.1 B.2.1 dX8_storm_15 (by decide) ?_
        refine lv_icmp_le (tgt := 24) B.1 B.2.1 dX8_storm_17 (by decide) (fun c_17 => ?_) (fun c_17 => ?_)
        · have q : stormB xx yy = true := by simp only [stormB, Bool.and_eq_true, decide_eq_true_eq]; exact ⟨⟨n0_ge c_1, n_nlt c_7⟩, n0_ge c_11, c_17⟩
          obtain ⟨j, hj31, ej⟩ := nI_of c_1
          have hj10 : j ≤ 10 := Nat.not_lt.mp (fun z => c_7 (by rw [ej]; exact nI_lt z hj31))
          obtain ⟨i, hi31, ei⟩ := nI_of c_11
          have hi99 : i ≤ 99 := (nI_leI hi31 (by decide)).mp (ei ▸ c_17)
          refine lv_aload_n B.1 B.2.1 dX8_storm_24 rfl (lv_at hl 0 rfl) ?_
          refine r_cg B hC (i := 0) (by decide) hP (C := RX8) (T := TX8) (n := 8) rfl iwX8_storm_X8 6 (by decide) (index := 50) flX8_storm_50 rfl (v := .ref (ad (153))) rfl dX8_storm_25 ?_
          refine lv_aload_n B.1 B.2.1 dX8_storm_28 rfl (lv_at hl 0 rfl) ?_
          refine r_cg B hC (i := 0) (by decide) hP (C := RX8) (T := TX8) (n := 8) rfl iwX8_storm_X8 1 (by decide) (index := 19) flX8_storm_19 rfl (v := .ref (ad (3))) rfl dX8_storm_29 ?_
          refine lv_aload_n B.1 B.2.1 dX8_storm_32 rfl (lv_at hl 0 rfl) ?_
          refine r_cg B hC (i := 0) (by decide) hP (C := RX8) (T := TX8) (n := 8) rfl iwX8_storm_X8 2 (by decide) (index := 26) flX8_storm_26 rfl (v := .ref (ad (8))) rfl dX8_storm_33 ?_
          refine r_calli B hC hl.1 (3) 2 rfl rfl (by decide) (hH.1) (As := [.ref (ad (8))]) (ctX2_leakOf l g lo ad hH okH (b := 8) (by decide) hL okL) gX8_storm_X2_leakOf rfl (n := 1) rfl (by decide +kernel) ⟨Nat.le_of_ble_eq_true rfl, Nat.le_of_ble_eq_true rfl⟩ ⟨Nat.zero_le _, Nat.zero_le _⟩ rfl (Nat.le_of_ble_eq_true rfl) dX8_storm_36 (fun r36 F1 H locs hp36 hC => ?_)
          obtain ⟨er, eF⟩ := hp36
          subst er
          rw [eF] at hC
          refine r_callv B hC hl.1 (153) 1 rfl rfl (by decide) (hCh.1) (As := [.int (nI (leakV (xh x) (xw x)))]) (ctX1_begin l g lo ad hCh (x := leakV (xh x) (xw x)) (leakV_le okH)) gX8_storm_X1_begin rfl (n := 1) rfl (by decide +kernel) ⟨Nat.le_of_ble_eq_true rfl, Nat.le_of_ble_eq_true rfl⟩ ⟨Nat.zero_le _, Nat.zero_le _⟩ rfl (Nat.le_of_ble_eq_true rfl) dX8_storm_39 (fun F1 H locs hp39 hC => ?_)
          obtain ⟨c1, hC_F1, hw1, hca1, hs_F1⟩ := hp39
          refine lv_iconst (v := nI 0) B.1 B.2.1 dX8_storm_42 (by decide) ?_
          refine lv_istore (lv' := [(4, .int (nI 0)), (0, .ref (ad (0))), (1, .int (xx)), (2, .int (yy)), (3, .int (bI u))]) B.1 B.2.1 dX8_storm_43 hl (by decide) rfl (fun ls hl => ?_)
          have loop45 : ∀ (k : Nat) (p : Nat) (cc_ : CV) (G : Nat → va_E), (p + k = hn (xh x)) → (ChC g ad G cc_) → (∀ z, z < 91 → cw cc_ z = wTo (xh x) (xw x) j p z) → (ca cc_ = aTo (xw x) p) → (Same 153 155 F G) → ∀ (H : Heap) (locs : List Loc) (ls : Array Slot), Cu g lo 196 ad G ss ss.heap H locs → lv_has ls 5 [(4, .int (nI p)), (0, .ref (ad (0))), (1, .int (xx)), (2, .int (yy)), (3, .int (bI u))] → W pp l ee { frames := 2, cells := 0, slots := 0, locals := 56 } ss mm ([.ref (ad (0)), .int (xx), .int (yy), .int (bI u)] : List Value).toArray below meth cc H locs 0 0 (MQ below (va_Ql (fun r F' => r = stormA x xx yy u ∧ XC g ad F' x ∧ Same 0 175 F F') (fun F' t => Wd g lo 196 ad F' t) (fun q => lo ≤ q)) ([.ref (ad (0)), .int (xx), .int (yy), .int (bI u)] : List Value).toArray ss 0 0 (fun q => lo ≤ q)) (F0 mm 45 ls []) := by
            intro k
            induction k with
            | zero =>
              intro p cc_ G hpk hCG hw0 hca0 hs H locs ls hC hl
              refine lv_iload B.1 B.2.1 dX8_storm_45 (lv_at hl 0 rfl) ?_
              refine lv_aload_n B.1 B.2.1 dX8_storm_47 rfl (lv_at hl 1 rfl) ?_
              refine r_cg B hC (i := 0) (by decide) (TopC.at hP (fun i h1 h2 => by rw [hs i (by omega)])) (C := RX8) (T := TX8) (n := 8) rfl iwX8_storm_X8 1 (by decide) (index := 19) flX8_storm_19 rfl (v := .ref (ad (3))) rfl dX8_storm_48 ?_
              refine r_calli B hC hl.1 (3) 2 rfl rfl (by decide) ((HullC.at hH (fun i h1 h2 => by rw [hs i (by omega)])).1) (As := []) (ctX2_places l g lo ad (HullC.at hH (fun i h1 h2 => by rw [hs i (by omega)])) okH) gX8_storm_X2_places rfl (n := 0) rfl (by decide +kernel) ⟨Nat.le_of_ble_eq_true rfl, Nat.le_of_ble_eq_true rfl⟩ ⟨Nat.zero_le _, Nat.zero_le _⟩ rfl (Nat.le_of_ble_eq_true rfl) dX8_storm_51 (fun r51 F21 H locs hp51 hC => ?_)
              obtain ⟨er, eF⟩ := hp51
              subst er
              rw [eF] at hC
              refine lv_icmp_ge (tgt := 92) B.1 B.2.1 dX8_storm_54 (by decide) (fun _ => ?_) (fun z => absurd (nI_le (by omega) (by omega)) z)
              have hsB : sumTo (wTo (xh x) (xw x) j (hn (xh x))) (min (i + 1) 91) < 2 ^ 62 := Nat.lt_of_le_of_lt (sumTo_le (fun z => wTo_le hj10 (hn (xh x)) z) _) (Nat.lt_of_le_of_lt (Nat.mul_le_mul (Nat.min_le_right _ _) (Nat.pow_le_pow_right (by decide) okn)) (by decide))
              have haB : aTo (xw x) (hn (xh x)) < 2 ^ 62 := Nat.lt_of_le_of_lt (aTo_le _ _) (Nat.lt_of_le_of_lt (Nat.pow_le_pow_right (by decide) okn) (by decide))
              refine lv_aload_n B.1 B.2.1 dX8_storm_92 rfl (lv_at hl 1 rfl) ?_
              refine r_cg B hC (i := 0) (by decide) (TopC.at hP (fun i h1 h2 => by rw [hs i (by omega)])) (C := RX8) (T := TX8) (n := 8) rfl iwX8_storm_X8 6 (by decide) (index := 50) flX8_storm_50 rfl (v := .ref (ad (153))) rfl dX8_storm_93 ?_
              refine lv_iload_n B.1 B.2.1 dX8_storm_96 rfl (lv_at hl 3 rfl) ?_
              refine r_tI (y := nI i) (ei) ?_
              refine r_calll B hC hl.1 (153) 1 rfl rfl (by decide) (hCG.1) (As := [.int (nI i)]) (ctX1_upTo l g lo ad hCG (y := i) (by omega)) gX8_storm_X1_upTo rfl (n := 1) rfl (by decide +kernel) ⟨Nat.le_of_ble_eq_true rfl, Nat.le_of_ble_eq_true rfl⟩ ⟨Nat.zero_le _, Nat.zero_le _⟩ rfl (Nat.le_of_ble_eq_true rfl) dX8_storm_97 (fun r97 F21 H locs hp97 hC => ?_)
              obtain ⟨er, eF⟩ := hp97
              subst er
              rw [eF] at hC
              refine r_tL (y := lN (sumTo (wTo (xh x) (xw x) j (hn (xh x))) (min (i + 1) 91))) (by rw [sumTo_cong (fun z hz => hw0 z (by omega)), show hn (xh x) = p by omega]) ?_
              refine lv_aload_n B.1 B.2.1 dX8_storm_100 rfl (lv_at hl 1 rfl) ?_
              refine r_cg B hC (i := 0) (by decide) (TopC.at hP (fun i h1 h2 => by rw [hs i (by omega)])) (C := RX8) (T := TX8) (n := 8) rfl iwX8_storm_X8 6 (by decide) (index := 50) flX8_storm_50 rfl (v := .ref (ad (153))) rfl dX8_storm_101 ?_
              refine r_calll B hC hl.1 (153) 1 rfl rfl (by decide) (hCG.1) (As := []) (ctX1_all l g lo ad hCG) gX8_storm_X1_all rfl (n := 0) rfl (by decide +kernel) ⟨Nat.le_of_ble_eq_true rfl, Nat.le_of_ble_eq_true rfl⟩ ⟨Nat.zero_le _, Nat.zero_le _⟩ rfl (Nat.le_of_ble_eq_true rfl) dX8_storm_104 (fun r104 F21 H locs hp104 hC => ?_)
              obtain ⟨er, eF⟩ := hp104
              subst er
              rw [eF] at hC
              refine r_tL (y := lN (aTo (xw x) (hn (xh x)))) (by rw [hca0, show hn (xh x) = p by omega]) ?_
              refine lv_iload_n B.1 B.2.1 dX8_storm_107 rfl (lv_at hl 4 rfl) ?_
              refine r_scalll B hC hl.1 (As := [.long (lN (sumTo (wTo (xh x) (xw x) j (hn (xh x))) (min (i + 1) 91))), .long (lN (aTo (xw x) (hn (xh x)))), .int (bI u)]) (ctX8_leastTerms l g lo ad (a := sumTo (wTo (xh x) (xw x) j (hn (xh x))) (min (i + 1) 91)) (b := aTo (xw x) (hn (xh x))) (u := u) hsB haB) gX8_storm_X8_leastTerms rfl (n := 3) rfl (by decide +kernel) ⟨Nat.le_of_ble_eq_true rfl, Nat.le_of_ble_eq_true rfl⟩ ⟨Nat.zero_le _, Nat.zero_le _⟩ rfl (Nat.le_of_ble_eq_true rfl) dX8_storm_108 (fun r108 F21 H locs hp108 hC => ?_)
              obtain ⟨er, eF⟩ := hp108
              subst er
              rw [eF] at hC
              exact r_eL B hC (v := lN (leastA (sumTo (wTo (xh x) (xw x) j (hn (xh x))) (min (i + 1) 91)) (aTo (xw x) (hn (xh x))) u)) (⟨by rw [stormA, if_pos q, ej, ei, ix_n hj31, ix_n hi31], ⟨(TopC.at hP (fun i h1 h2 => by rw [hs i (by omega)])), (TextC.at hT (fun i h1 h2 => by rw [hs i (by omega)])), (HullC.at hH (fun i h1 h2 => by rw [hs i (by omega)])), (LoadC.at hL (fun i h1 h2 => by rw [hs i (by omega)])), (ActC.keep hA (fun i h1 h2 => by rw [hs i (by omega)])), (SlotC.keep hS (fun i h1 h2 => by rw [hs i (by omega)])), ⟨_, (LoadC.at hW (fun i h1 h2 => by rw [hs i (by omega)])), hct⟩, ⟨_, hCG⟩, ⟨_, _, (SeaC.at hQ (fun i h1 h2 => by rw [hs i (by omega)]))⟩, _, (RowsC.keep hR (fun i h1 h2 => by rw [hs i (by omega)])), okR⟩, (fun i hi => by rw [hs i (by omega)])⟩) dX8_storm_111
            | succ k ih45 =>
              intro p cc_ G hpk hCG hw0 hca0 hs H locs ls hC hl
              refine lv_iload B.1 B.2.1 dX8_storm_45 (lv_at hl 0 rfl) ?_
              refine lv_aload_n B.1 B.2.1 dX8_storm_47 rfl (lv_at hl 1 rfl) ?_
              refine r_cg B hC (i := 0) (by decide) (TopC.at hP (fun i h1 h2 => by rw [hs i (by omega)])) (C := RX8) (T := TX8) (n := 8) rfl iwX8_storm_X8 1 (by decide) (index := 19) flX8_storm_19 rfl (v := .ref (ad (3))) rfl dX8_storm_48 ?_
              refine r_calli B hC hl.1 (3) 2 rfl rfl (by decide) ((HullC.at hH (fun i h1 h2 => by rw [hs i (by omega)])).1) (As := []) (ctX2_places l g lo ad (HullC.at hH (fun i h1 h2 => by rw [hs i (by omega)])) okH) gX8_storm_X2_places rfl (n := 0) rfl (by decide +kernel) ⟨Nat.le_of_ble_eq_true rfl, Nat.le_of_ble_eq_true rfl⟩ ⟨Nat.zero_le _, Nat.zero_le _⟩ rfl (Nat.le_of_ble_eq_true rfl) dX8_storm_51 (fun r51 F21 H locs hp51 hC => ?_)
              obtain ⟨er, eF⟩ := hp51
              subst er
              rw [eF] at hC
              refine lv_icmp_ge (tgt := 92) B.1 B.2.1 dX8_storm_54 (by decide) (fun z => absurd z (nI_ge (by omega) (by omega))) (fun _ => ?_)
              refine lv_aload_n B.1 B.2.1 dX8_storm_57 rfl (lv_at hl 1 rfl) ?_
              refine r_cg B hC (i := 0) (by decide) (TopC.at hP (fun i h1 h2 => by rw [hs i (by omega)])) (C := RX8) (T := TX8) (n := 8) rfl iwX8_storm_X8 2 (by decide) (index := 26) flX8_storm_26 rfl (v := .ref (ad (8))) rfl dX8_storm_58 ?_
              refine lv_iload B.1 B.2.1 dX8_storm_61 (lv_at hl 0 rfl) ?_
              refine r_calli B hC hl.1 (8) 3 rfl rfl (by decide) ((LoadC.at hL (fun i h1 h2 => by rw [hs i (by omega)])).1) (As := [.int (nI p)]) (ctX3_isOpen l g lo ad (b := 8) (by decide) (LoadC.at hL (fun i h1 h2 => by rw [hs i (by omega)])) (t := p) (by omega) (okL.t10 (by omega))) gX8_storm_X3_isOpen rfl (n := 1) rfl (by decide +kernel) ⟨Nat.le_of_ble_eq_true rfl, Nat.le_of_ble_eq_true rfl⟩ ⟨Nat.zero_le _, Nat.zero_le _⟩ rfl (Nat.le_of_ble_eq_true rfl) dX8_storm_63 (fun r63 F21 H locs hp63 hC => ?_)
              obtain ⟨er, eF⟩ := hp63
              subst er
              rw [eF] at hC
              refine lv_if_ne (tgt := 86) B.1 B.2.1 dX8_storm_66 (by decide) (fun c_66 => ?_) (fun c_66 => ?_)
              · have q_66 : ti (xw x) p = none := Option.isNone_iff_eq_none.mp (bI_t.mp c_66)
                refine lv_iinc (v := nI (p + 1)) (lv' := [(4, .int (nI (p + 1))), (0, .ref (ad (0))), (1, .int (xx)), (2, .int (yy)), (3, .int (bI u))]) B.1 B.2.1 dX8_storm_86 hl (k := 0) rfl (nI_1 _) (by decide) rfl (fun ls hl => ?_)
                refine lv_goto (tgt := 45) B.1 B.2.1 dX8_storm_89 (by decide) ?_
                exact ih45 (p + 1) cc_ G (by omega) hCG (fun z hz => by rw [wTo, if_pos q_66]; exact hw0 z hz) (by rw [aTo, if_pos q_66]; exact hca0) hs _ _ ls hC (lv_sub hl [0, 1, 2, 3, 4] rfl)
              · have q_66 : ¬ ti (xw x) p = none := fun z => by rw [z] at c_66; exact absurd c_66 (by decide)
                refine lv_aload_n B.1 B.2.1 dX8_storm_69 rfl (lv_at hl 1 rfl) ?_
                refine r_cg B hC (i := 0) (by decide) (TopC.at hP (fun i h1 h2 => by rw [hs i (by omega)])) (C := RX8) (T := TX8) (n := 8) rfl iwX8_storm_X8 6 (by decide) (index := 50) flX8_storm_50 rfl (v := .ref (ad (153))) rfl dX8_storm_70 ?_
                refine lv_aload_n B.1 B.2.1 dX8_storm_73 rfl (lv_at hl 1 rfl) ?_
                refine r_cg B hC (i := 0) (by decide) (TopC.at hP (fun i h1 h2 => by rw [hs i (by omega)])) (C := RX8) (T := TX8) (n := 8) rfl iwX8_storm_X8 1 (by decide) (index := 19) flX8_storm_19 rfl (v := .ref (ad (3))) rfl dX8_storm_74 ?_
                refine lv_iload B.1 B.2.1 dX8_storm_77 (lv_at hl 0 rfl) ?_
                refine r_calli B hC hl.1 (3) 2 rfl rfl (by decide) ((HullC.at hH (fun i h1 h2 => by rw [hs i (by omega)])).1) (As := [.int (nI p)]) (ctX2_letsIn l g lo ad (HullC.at hH (fun i h1 h2 => by rw [hs i (by omega)])) okH (p := p) (by omega)) gX8_storm_X2_letsIn rfl (n := 1) rfl (by decide +kernel) ⟨Nat.le_of_ble_eq_true rfl, Nat.le_of_ble_eq_true rfl⟩ ⟨Nat.zero_le _, Nat.zero_le _⟩ rfl (Nat.le_of_ble_eq_true rfl) dX8_storm_79 (fun r79 F21 H locs hp79 hC => ?_)
                obtain ⟨er, eF⟩ := hp79
                subst er
                rw [eF] at hC
                refine lv_iload_n B.1 B.2.1 dX8_storm_82 rfl (lv_at hl 2 rfl) ?_
                refine r_tI (y := nI j) (ej) ?_
                refine r_callv B hC hl.1 (153) 1 rfl rfl (by decide) (hCG.1) (As := [.int (nI (hin_ (xh x) p)), .int (nI j)]) (ctX1_tearOut l g lo ad hCG (d := hin_ (xh x) p) (x := j) (okH.2.2.2.1 p).2 hj10) gX8_storm_X1_tearOut rfl (n := 2) rfl (by decide +kernel) ⟨Nat.le_of_ble_eq_true rfl, Nat.le_of_ble_eq_true rfl⟩ ⟨Nat.zero_le _, Nat.zero_le _⟩ rfl (Nat.le_of_ble_eq_true rfl) dX8_storm_83 (fun F21 H locs hp83 hC => ?_)
                obtain ⟨c1, hC_F21, hw1, hca1, hs_F21⟩ := hp83
                refine lv_iinc (v := nI (p + 1)) (lv' := [(4, .int (nI (p + 1))), (0, .ref (ad (0))), (1, .int (xx)), (2, .int (yy)), (3, .int (bI u))]) B.1 B.2.1 dX8_storm_86 hl (k := 0) rfl (nI_1 _) (by decide) rfl (fun ls hl => ?_)
                refine lv_goto (tgt := 45) B.1 B.2.1 dX8_storm_89 (by decide) ?_
                exact ih45 (p + 1) c1 F21 (by omega) hC_F21 (fun z hz => by rw [wTo, if_neg q_66, hw1 z hz]; unfold tearV; rw [hw0 z hz]; by_cases e : hin_ (xh x) p ≤ z; rw [if_pos e, if_pos e, hw0 _ (by omega)]; rw [if_neg e, if_neg e]) (by rw [aTo, if_neg q_66, hca1, hca0]) (fun i hi => by rw [hs_F21 i (by omega)]; rw [hs i (by omega)]) _ _ ls hC (lv_sub hl [0, 1, 2, 3, 4] rfl)
          exact loop45 (hn (xh x)) 0 c1 F1 (by omega) hC_F1 (fun z hz => hw1 z hz) hca1 (fun i hi => by rw [hs_F1 i (by omega)]) _ _ ls hC (lv_sub hl [0, 1, 2, 3, 4] rfl)
        · have q : ¬ stormB xx yy = true := fun z => by simp only [stormB, Bool.and_eq_true, decide_eq_true_eq] at z; exact c_17 z.2.2
          refine lv_ldc2 (own := RX8) (v := (-2)) B.1 B.2.1 B.2.2.2.1 (B.2.2.2.2.1 (.constantLong RX8 191 (-2)) (by decide +kernel)) dX8_storm_20 ?_
          exact r_eL B hC (v := (-2)) (⟨by rw [stormA, if_neg q], hX, Same.rf⟩) dX8_storm_23
