/-! THE REFERENCE: in, isPlace, inside, isBorne, canTake, canPut -/
theorem HullR.upc {h : HV} {c : Nat → Int32} {q : Nat → Nat → Int32} {k : Nat} {v : Int32} (r : HullR h c q) (h1 : k ≠ 12) (h2 : k ≠ 13) (h3 : k ≠ 14) : HullR h (va_up c k v) q := ⟨by rw [va_up_ne _ _ h1.symm]; exact r.1, by rw [va_up_ne _ _ h2.symm]; exact r.2.1, by rw [va_up_ne _ _ h3.symm]; exact r.2.2.1, r.2.2.2⟩
theorem HullR.upq {h : HV} {c : Nat → Int32} {q : Nat → Nat → Int32} {i : Nat} {f : Nat → Int32} (r : HullR h c q) (h1 : i < 181 ∨ 184 < i) : HullR h c (va_up q i f) := ⟨r.1, r.2.1, r.2.2.1, fun p hp => by rw [va_up_ne _ _ (by omega), va_up_ne _ _ (by omega), va_up_ne _ _ (by omega), va_up_ne _ _ (by omega)]; exact r.2.2.2 p hp⟩
theorem inB_p {h : HV} (ok : HOK h) (x : Int32) : inB (Int32.toInt64 x) (lN 0) (Int32.toInt64 (nI (hn h) - nI 1)) = isP h x := by
  have okn := ok.1
  have e0 : (lN 0).toInt = 0 := by decide
  have e1 : (nI (hn h) - nI 1).toInt = (hn h : Int) - 1 := by rw [pk_sub_toInt (by omega) (by decide)]; rfl
  unfold inB isP
  simp only [Int64.le_iff_toInt_le, Int32.le_iff_toInt_le, Int32.lt_iff_toInt_lt, Int32.toInt_toInt64, e0, e1, nI_toInt (show hn h < 2 ^ 31 by omega), Int32.toInt_zero]
  congr 1
  exact decide_eq_decide.mpr (by omega)
set_option maxHeartbeats 4000000 in
set_option maxRecDepth 100000 in
theorem ctX9_in (l : Launch) (g : Gx) (lo : Nat) (ad : Nat → Nat) {F : Nat → va_E} {v a b : Int64} : MI l g lo 196 ad yX9_in wsX9_in 0 0 [.long (v), .long (a), .long (b)] F (fun r F' => r = bI (inB v a b) ∧ F' = F) := by
  refine enter (cc := cX9_in) (maxL := 6) (ret := some .boolean) (own := RX9) (by decide +kernel) rfl rfl (Nat.le_of_ble_eq_true rfl) ?_
  intro pp ee ss mm below meth cc B hini hC ls hl
  have hl : lv_has ls 6 [(0, .long (v)), (2, .long (a)), (4, .long (b))] := hl
  refine lv_lload_n B.1 B.2.1 dX9_in_0 rfl (lv_at hl 0 rfl) ?_
  refine lv_lload_n B.1 B.2.1 dX9_in_1 rfl (lv_at hl 1 rfl) ?_
  refine W.lcmp B.1 B.2.1 dX9_in_2 ?_
  refine lv_if_lt (tgt := 17) B.1 B.2.1 dX9_in_3 (by decide) (fun c_3 => ?_) (fun c_3 => ?_)
  · have q_3 : ¬ a ≤ v := lc_lt.mp c_3
    refine lv_iconst (v := nI 0) B.1 B.2.1 dX9_in_17 (by decide) ?_
    exact r_eZ B hC (v := nI 0) (rfl) (⟨by rw [inB, decide_eq_false q_3]; rfl, rfl⟩) dX9_in_18
  · have q_3 : a ≤ v := Classical.byContradiction (fun z => c_3 (lc_lt.mpr z))
    refine lv_lload_n B.1 B.2.1 dX9_in_6 rfl (lv_at hl 0 rfl) ?_
    refine lv_lload B.1 B.2.1 dX9_in_7 (lv_at hl 2 rfl) ?_
    refine W.lcmp B.1 B.2.1 dX9_in_9 ?_
    refine lv_if_gt (tgt := 17) B.1 B.2.1 dX9_in_10 (by decide) (fun c_10 => ?_) (fun c_10 => ?_)
    · have q_10 : ¬ v ≤ b := lc_gt.mp c_10
      refine lv_iconst (v := nI 0) B.1 B.2.1 dX9_in_17 (by decide) ?_
      exact r_eZ B hC (v := nI 0) (rfl) (⟨by rw [inB, decide_eq_true q_3, decide_eq_false q_10]; rfl, rfl⟩) dX9_in_18
    · have q_10 : v ≤ b := Classical.byContradiction (fun z => c_10 (lc_gt.mpr z))
      refine lv_iconst (v := nI 1) B.1 B.2.1 dX9_in_13 (by decide) ?_
      refine lv_goto (tgt := 18) B.1 B.2.1 dX9_in_14 (by decide) ?_
      exact r_eZ B hC (v := nI 1) (rfl) (⟨by rw [inB, decide_eq_true q_3, decide_eq_true q_10]; rfl, rfl⟩) dX9_in_18
theorem iwX9_isPlace_X9 : ∀ w ∈ u_ws RX9 TX9 35, w ∈ wsX9_isPlace := by decide +kernel
theorem flX9_isPlace_114 : Cond.fieldLink RX9 114 RX9 (TX9 12).2.1 (TX9 12).2.2.1 ∈ wsX9_isPlace := by decide +kernel
set_option maxHeartbeats 4000000 in
set_option maxRecDepth 100000 in
theorem ctX9_isPlace (l : Launch) (g : Gx) (lo : Nat) (ad : Nat → Nat) {F : Nat → va_E} {c : Nat → Int32} {q : Nat → Nat → Int32} {su : Nat → Int64} (hM : MC g ad F c q su) {h : HV} (ok : HOK h) (hR : HullR h c q) {x : Int32} : MI l g lo 196 ad yX9_isPlace wsX9_isPlace 1 25 [.ref (ad (175)), .int (x)] F (fun r F' => r = bI (isP h x) ∧ F' = F) := by
  have okn := ok.1
  have okp := ok.2.1
  have okh := ok.2.2.1
  have hS : Same 175 196 F F := Same.rf
  refine enter (cc := cX9_isPlace) (maxL := 2) (ret := some .boolean) (own := RX9) (by decide +kernel) rfl rfl (Nat.le_of_ble_eq_true rfl) ?_
  intro pp ee ss mm below meth cc B hini hC ls hl
  have hl : lv_has ls 2 [(0, .ref (ad (175))), (1, .int (x))] := hl
  refine lv_iload_n B.1 B.2.1 dX9_isPlace_0 rfl (lv_at hl 1 rfl) ?_
  refine lv_i2l (v := Int32.toInt64 (x)) B.1 B.2.1 dX9_isPlace_1 (rfl) ?_
  refine lv_lconst (v := lN 0) B.1 B.2.1 dX9_isPlace_2 (by decide) ?_
  refine lv_aload_n B.1 B.2.1 dX9_isPlace_3 rfl (lv_at hl 0 rfl) ?_
  refine r_cg B hC (i := 175) (by decide) hM.1 (C := RX9) (T := TX9) (n := 35) rfl iwX9_isPlace_X9 12 (by decide) (index := 114) flX9_isPlace_114 rfl (v := .int (c 12)) rfl dX9_isPlace_4 ?_
  refine r_tI (y := nI (hn h)) (hR.1) ?_
  refine lv_iconst (v := nI 1) B.1 B.2.1 dX9_isPlace_7 (by decide) ?_
  refine lv_isub B.1 B.2.1 dX9_isPlace_8 ?_
  refine r_tI (y := (nI (hn h)) - (nI 1)) (rfl) ?_
  refine lv_i2l (v := Int32.toInt64 ((nI (hn h)) - (nI 1))) B.1 B.2.1 dX9_isPlace_9 (rfl) ?_
  refine r_scalli B hC hl.1 (As := [.long (Int32.toInt64 (x)), .long (lN 0), .long (Int32.toInt64 ((nI (hn h)) - (nI 1)))]) (ctX9_in l g lo ad (v := Int32.toInt64 x) (a := lN 0) (b := Int32.toInt64 (nI (hn h) - nI 1))) gX9_isPlace_X9_in rfl (n := 3) rfl (by decide +kernel) ⟨Nat.le_of_ble_eq_true rfl, Nat.le_of_ble_eq_true rfl⟩ ⟨Nat.zero_le _, Nat.zero_le _⟩ rfl (Nat.le_of_ble_eq_true rfl) dX9_isPlace_10 (fun r10 F1 H locs hp10 hC => ?_)
  obtain ⟨er, eF⟩ := hp10
  subst er
  rw [eF] at hC
  exact r_eZ B hC (v := bI (inB (Int32.toInt64 x) (lN 0) (Int32.toInt64 (nI (hn h) - nI 1)))) (nar_b _) (⟨by rw [inB_p ok], rfl⟩) dX9_isPlace_13
theorem iwX9_inside_X9 : ∀ w ∈ u_ws RX9 TX9 35, w ∈ wsX9_inside := by decide +kernel
theorem flX9_inside_40 : Cond.fieldLink RX9 40 RX9 (TX9 19).2.1 (TX9 19).2.2.1 ∈ wsX9_inside := by decide +kernel
theorem flX9_inside_114 : Cond.fieldLink RX9 114 RX9 (TX9 12).2.1 (TX9 12).2.2.1 ∈ wsX9_inside := by decide +kernel
set_option maxHeartbeats 4000000 in
set_option maxRecDepth 100000 in
theorem ctX9_inside (l : Launch) (g : Gx) (lo : Nat) (ad : Nat → Nat) {F : Nat → va_E} {c : Nat → Int32} {q : Nat → Nat → Int32} {su : Nat → Int64} (hM : MC g ad F c q su) {h : HV} (ok : HOK h) (hR : HullR h c q) {b : Nat} {w : LV} (hb : b ≤ 50) (hB : BankR h q b w) (hw : LOK h w) {p : Nat} (hp : p < 10) : MI l g lo 196 ad yX9_inside wsX9_inside 0 0 [.ref (ad (175)), .int (nI b), .int (nI p)] F (fun r F' => r = oI (ti w p) ∧ F' = F) := by
  have okn := ok.1
  have okp := ok.2.1
  have okh := ok.2.2.1
  have hS : Same 175 196 F F := Same.rf
  refine enter (cc := cX9_inside) (maxL := 4) (ret := some .int) (own := RX9) (by decide +kernel) rfl rfl (Nat.le_of_ble_eq_true rfl) ?_
  intro pp ee ss mm below meth cc B hini hC ls hl
  have hl : lv_has ls 4 [(0, .ref (ad (175))), (1, .int (nI b)), (2, .int (nI p))] := hl
  refine lv_iconst (v := nI 0) B.1 B.2.1 dX9_inside_0 (by decide) ?_
  refine lv_istore_n (lv' := [(3, .int (nI 0)), (0, .ref (ad (175))), (1, .int (nI b)), (2, .int (nI p))]) B.1 B.2.1 dX9_inside_1 rfl hl (by decide) rfl (fun ls hl => ?_)
  have loop2 : ∀ (k : Nat) (t : Nat), (t + k = hn h) → (∀ s, s < t → wh w s ≠ p) → ∀ (H : Heap) (locs : List Loc) (ls : Array Slot), Cu g lo 196 ad F ss ss.heap H locs → lv_has ls 4 [(3, .int (nI t)), (0, .ref (ad (175))), (1, .int (nI b)), (2, .int (nI p))] → W pp l ee { frames := 0, cells := 0, slots := 0, locals := 0 } ss mm ([.ref (ad (175)), .int (nI b), .int (nI p)] : List Value).toArray below meth cc H locs 0 0 (MQ below (va_Qi (fun r F' => r = oI (ti w p) ∧ F' = F) (fun F' t => Wd g lo 196 ad F' t) (fun q => lo ≤ q)) ([.ref (ad (175)), .int (nI b), .int (nI p)] : List Value).toArray ss 0 0 (fun q => lo ≤ q)) (F0 mm 2 ls []) := by
    intro k
    induction k with
    | zero =>
      intro t htk hno H locs ls hC hl
      refine lv_iload_n B.1 B.2.1 dX9_inside_2 rfl (lv_at hl 0 rfl) ?_
      refine lv_aload_n B.1 B.2.1 dX9_inside_3 rfl (lv_at hl 1 rfl) ?_
      refine r_cg B hC (i := 175) (by decide) hM.1 (C := RX9) (T := TX9) (n := 35) rfl iwX9_inside_X9 12 (by decide) (index := 114) flX9_inside_114 rfl (v := .int (c 12)) rfl dX9_inside_4 ?_
      refine r_tI (y := nI (hn h)) (hR.1) ?_
      refine lv_icmp_ge (tgt := 30) B.1 B.2.1 dX9_inside_7 (by decide) (fun _ => ?_) (fun z => absurd (nI_le (by omega) (by omega)) z)
      refine lv_bipush (v := (-9)) B.1 B.2.1 dX9_inside_30 (by decide) ?_
      exact r_eI B hC (v := (-9)) (⟨by rw [in_none ok hw (by omega) (fun t ht => hno t (by omega))]; rfl, rfl⟩) dX9_inside_32
    | succ k ih2 =>
      intro t htk hno H locs ls hC hl
      refine lv_iload_n B.1 B.2.1 dX9_inside_2 rfl (lv_at hl 0 rfl) ?_
      refine lv_aload_n B.1 B.2.1 dX9_inside_3 rfl (lv_at hl 1 rfl) ?_
      refine r_cg B hC (i := 175) (by decide) hM.1 (C := RX9) (T := TX9) (n := 35) rfl iwX9_inside_X9 12 (by decide) (index := 114) flX9_inside_114 rfl (v := .int (c 12)) rfl dX9_inside_4 ?_
      refine r_tI (y := nI (hn h)) (hR.1) ?_
      refine lv_icmp_ge (tgt := 30) B.1 B.2.1 dX9_inside_7 (by decide) (fun z => absurd z (nI_ge (by omega) (by omega))) (fun _ => ?_)
      have hwt := (hw.1 t).1
      refine lv_aload_n B.1 B.2.1 dX9_inside_10 rfl (lv_at hl 1 rfl) ?_
      refine r_cg B hC (i := 175) (by decide) hM.1 (C := RX9) (T := TX9) (n := 35) rfl iwX9_inside_X9 19 (by decide) (index := 40) flX9_inside_40 rfl (v := .ref (ad (186))) rfl dX9_inside_11 ?_
      refine lv_iload_n B.1 B.2.1 dX9_inside_14 rfl (lv_at hl 2 rfl) ?_
      refine lv_iload_n B.1 B.2.1 dX9_inside_15 rfl (lv_at hl 0 rfl) ?_
      refine lv_iadd B.1 B.2.1 dX9_inside_16 ?_
      refine r_tI (y := nI (b + t)) (nI_add _ _) ?_
      refine r_cald B hC (i := 186) (by decide) hM.c186 (j := (b + t)) (by omega) (by decide) dX9_inside_17 ?_
      refine r_tI (y := q 186 (b + t)) rfl ?_
      refine r_tI (y := nI (wh w t)) ((hB t (by omega)).1) ?_
      refine lv_iload_n B.1 B.2.1 dX9_inside_18 rfl (lv_at hl 3 rfl) ?_
      refine lv_icmp_ne (tgt := 24) B.1 B.2.1 dX9_inside_19 (by decide) (fun c_19 => ?_) (fun c_19 => ?_)
      · have q_19 : ¬ (wh w t) = p := fun z => c_19 ((nI_eq (by omega) (by omega)).mpr z)
        refine lv_iinc (v := nI (t + 1)) (lv' := [(3, .int (nI (t + 1))), (0, .ref (ad (175))), (1, .int (nI b)), (2, .int (nI p))]) B.1 B.2.1 dX9_inside_24 hl (k := 0) rfl (nI_1 _) (by decide) rfl (fun ls hl => ?_)
        refine lv_goto (tgt := 2) B.1 B.2.1 dX9_inside_27 (by decide) ?_
        exact ih2 (t + 1) (by omega) (fun s hs => by rcases Nat.lt_succ_iff_lt_or_eq.mp hs with z | z; exact hno s z; rw [z]; exact q_19) _ _ ls hC (lv_sub hl [0, 1, 2, 3] rfl)
      · have q_19 : (wh w t) = p := (nI_eq (by omega) (by omega)).mp c_19
        refine lv_iload_n B.1 B.2.1 dX9_inside_22 rfl (lv_at hl 0 rfl) ?_
        exact r_eI B hC (v := nI t) (⟨by rw [in_some ok hw (by omega) (by omega) q_19]; rfl, rfl⟩) dX9_inside_23
  exact loop2 (hn h) 0 (by omega) (fun s hs => absurd hs (Nat.not_lt_zero s)) _ _ ls hC (lv_sub hl [0, 1, 2, 3] rfl)
theorem iwX9_isBorne_X9 : ∀ w ∈ u_ws RX9 TX9 35, w ∈ wsX9_isBorne := by decide +kernel
theorem flX9_isBorne_31 : Cond.fieldLink RX9 31 RX9 (TX9 10).2.1 (TX9 10).2.2.1 ∈ wsX9_isBorne := by decide +kernel
theorem flX9_isBorne_114 : Cond.fieldLink RX9 114 RX9 (TX9 12).2.1 (TX9 12).2.2.1 ∈ wsX9_isBorne := by decide +kernel
set_option maxHeartbeats 4000000 in
set_option maxRecDepth 100000 in
theorem ctX9_isBorne (l : Launch) (g : Gx) (lo : Nat) (ad : Nat → Nat) {F : Nat → va_E} {c : Nat → Int32} {q : Nat → Nat → Int32} {su : Nat → Int64} (hM : MC g ad F c q su) {h : HV} (ok : HOK h) (hR : HullR h c q) {b : Nat} {w : LV} (hb : b ≤ 50) (hB : BankR h q b w) (hw : LOK h w) {p : Nat} (hp : p < 10) : MI l g lo 196 ad yX9_isBorne wsX9_isBorne 1 23 [.ref (ad (175)), .int (nI b), .int (nI p)] F (fun r F' => r = bI (borneTo h w p (hn h)) ∧ F' = F) := by
  have okn := ok.1
  have okp := ok.2.1
  have okh := ok.2.2.1
  have hS : Same 175 196 F F := Same.rf
  refine enter (cc := cX9_isBorne) (maxL := 5) (ret := some .boolean) (own := RX9) (by decide +kernel) rfl rfl (Nat.le_of_ble_eq_true rfl) ?_
  intro pp ee ss mm below meth cc B hini hC ls hl
  have hl : lv_has ls 5 [(0, .ref (ad (175))), (1, .int (nI b)), (2, .int (nI p))] := hl
  refine lv_iconst (v := nI 0) B.1 B.2.1 dX9_isBorne_0 (by decide) ?_
  refine lv_istore_n (lv' := [(3, .int (nI 0)), (0, .ref (ad (175))), (1, .int (nI b)), (2, .int (nI p))]) B.1 B.2.1 dX9_isBorne_1 rfl hl (by decide) rfl (fun ls hl => ?_)
  refine lv_iconst (v := nI 0) B.1 B.2.1 dX9_isBorne_2 (by decide) ?_
  refine lv_istore (lv' := [(4, .int (nI 0)), (3, .int (nI 0)), (0, .ref (ad (175))), (1, .int (nI b)), (2, .int (nI p))]) B.1 B.2.1 dX9_isBorne_3 hl (by decide) rfl (fun ls hl => ?_)
  have loop5 : ∀ (k : Nat) (o : Nat) (a : Bool), (o + k = hn h) → (a = borneTo h w p o) → ∀ (H : Heap) (locs : List Loc) (ls : Array Slot), Cu g lo 196 ad F ss ss.heap H locs → lv_has ls 5 [(4, .int (nI o)), (3, .int (bI a)), (0, .ref (ad (175))), (1, .int (nI b)), (2, .int (nI p))] → W pp l ee { frames := 1, cells := 0, slots := 0, locals := 23 } ss mm ([.ref (ad (175)), .int (nI b), .int (nI p)] : List Value).toArray below meth cc H locs 0 0 (MQ below (va_Qi (fun r F' => r = bI (borneTo h w p (hn h)) ∧ F' = F) (fun F' t => Wd g lo 196 ad F' t) (fun q => lo ≤ q)) ([.ref (ad (175)), .int (nI b), .int (nI p)] : List Value).toArray ss 0 0 (fun q => lo ≤ q)) (F0 mm 5 ls []) := by
    intro k
    induction k with
    | zero =>
      intro o a hpk ha H locs ls hC hl
      refine lv_iload B.1 B.2.1 dX9_isBorne_5 (lv_at hl 0 rfl) ?_
      refine lv_aload_n B.1 B.2.1 dX9_isBorne_7 rfl (lv_at hl 2 rfl) ?_
      refine r_cg B hC (i := 175) (by decide) hM.1 (C := RX9) (T := TX9) (n := 35) rfl iwX9_isBorne_X9 12 (by decide) (index := 114) flX9_isBorne_114 rfl (v := .int (c 12)) rfl dX9_isBorne_8 ?_
      refine r_tI (y := nI (hn h)) (hR.1) ?_
      refine lv_icmp_ge (tgt := 53) B.1 B.2.1 dX9_isBorne_11 (by decide) (fun _ => ?_) (fun z => absurd (nI_le (by omega) (by omega)) z)
      refine lv_iload_n B.1 B.2.1 dX9_isBorne_53 rfl (lv_at hl 1 rfl) ?_
      exact r_eZ B hC (v := bI a) (nar_b _) (⟨by rw [ha, show o = hn h by omega], rfl⟩) dX9_isBorne_54
    | succ k ih5 =>
      intro o a hpk ha H locs ls hC hl
      refine lv_iload B.1 B.2.1 dX9_isBorne_5 (lv_at hl 0 rfl) ?_
      refine lv_aload_n B.1 B.2.1 dX9_isBorne_7 rfl (lv_at hl 2 rfl) ?_
      refine r_cg B hC (i := 175) (by decide) hM.1 (C := RX9) (T := TX9) (n := 35) rfl iwX9_isBorne_X9 12 (by decide) (index := 114) flX9_isBorne_114 rfl (v := .int (c 12)) rfl dX9_isBorne_8 ?_
      refine r_tI (y := nI (hn h)) (hR.1) ?_
      refine lv_icmp_ge (tgt := 53) B.1 B.2.1 dX9_isBorne_11 (by decide) (fun z => absurd z (nI_ge (by omega) (by omega))) (fun _ => ?_)
      refine lv_iload_n B.1 B.2.1 dX9_isBorne_14 rfl (lv_at hl 1 rfl) ?_
      refine lv_if_ne (tgt := 41) B.1 B.2.1 dX9_isBorne_15 (by decide) (fun c_15 => ?_) (fun c_15 => ?_)
      · have q_15 : a = true := bI_t.mp c_15
        refine lv_iconst (v := nI 1) B.1 B.2.1 dX9_isBorne_41 (by decide) ?_
        refine lv_goto (tgt := 46) B.1 B.2.1 dX9_isBorne_42 (by decide) ?_
        refine lv_istore_n (lv' := [(3, .int (nI 1)), (4, .int (nI o)), (0, .ref (ad (175))), (1, .int (nI b)), (2, .int (nI p))]) B.1 B.2.1 dX9_isBorne_46 rfl hl (by decide) rfl (fun ls hl => ?_)
        refine lv_iinc (v := nI (o + 1)) (lv' := [(4, .int (nI (o + 1))), (3, .int (nI 1)), (0, .ref (ad (175))), (1, .int (nI b)), (2, .int (nI p))]) B.1 B.2.1 dX9_isBorne_47 hl (k := 1) rfl (nI_1 _) (by decide) rfl (fun ls hl => ?_)
        refine lv_goto (tgt := 5) B.1 B.2.1 dX9_isBorne_50 (by decide) ?_
        exact ih5 (o + 1) true (by omega) (by rw [borneTo, ← ha, q_15]; rfl) _ _ ls hC (lv_sub hl [0, 1, 2, 3, 4] rfl)
      · have q_15 : a = false := bI_f.mp c_15
        refine lv_aload_n B.1 B.2.1 dX9_isBorne_18 rfl (lv_at hl 2 rfl) ?_
        refine r_cg B hC (i := 175) (by decide) hM.1 (C := RX9) (T := TX9) (n := 35) rfl iwX9_isBorne_X9 10 (by decide) (index := 31) flX9_isBorne_31 rfl (v := .ref (ad (183))) rfl dX9_isBorne_19 ?_
        refine lv_iload B.1 B.2.1 dX9_isBorne_22 (lv_at hl 0 rfl) ?_
        refine r_cald B hC (i := 183) (by decide) hM.c183 (j := o) (by omega) (by decide) dX9_isBorne_24 ?_
        refine r_tI (y := q 183 o) rfl ?_
        refine r_tI (y := oI (hre h o)) ((hR.2.2.2 o (by omega)).2.2.1) ?_
        refine lv_iload_n B.1 B.2.1 dX9_isBorne_25 rfl (lv_at hl 4 rfl) ?_
        refine lv_icmp_ne (tgt := 45) B.1 B.2.1 dX9_isBorne_26 (by decide) (fun c_26 => ?_) (fun c_26 => ?_)
        · have q_26 : ¬ hre h o = some p := fun z => c_26 ((oI_eq (fun j hj => Nat.lt_trans (ok.2.2.2.2.1 o j hj).1 (by decide)) (by omega)).mpr z)
          refine lv_iconst (v := nI 0) B.1 B.2.1 dX9_isBorne_45 (by decide) ?_
          refine lv_istore_n (lv' := [(3, .int (nI 0)), (4, .int (nI o)), (0, .ref (ad (175))), (1, .int (nI b)), (2, .int (nI p))]) B.1 B.2.1 dX9_isBorne_46 rfl hl (by decide) rfl (fun ls hl => ?_)
          refine lv_iinc (v := nI (o + 1)) (lv' := [(4, .int (nI (o + 1))), (3, .int (nI 0)), (0, .ref (ad (175))), (1, .int (nI b)), (2, .int (nI p))]) B.1 B.2.1 dX9_isBorne_47 hl (k := 1) rfl (nI_1 _) (by decide) rfl (fun ls hl => ?_)
          refine lv_goto (tgt := 5) B.1 B.2.1 dX9_isBorne_50 (by decide) ?_
          exact ih5 (o + 1) false (by omega) (by rw [borneTo, ← ha, q_15, decide_eq_false q_26]; rfl) _ _ ls hC (lv_sub hl [0, 1, 2, 3, 4] rfl)
        · have q_26 : hre h o = some p := (oI_eq (fun j hj => Nat.lt_trans (ok.2.2.2.2.1 o j hj).1 (by decide)) (by omega)).mp c_26
          refine lv_aload_n B.1 B.2.1 dX9_isBorne_29 rfl (lv_at hl 2 rfl) ?_
          refine lv_iload_n B.1 B.2.1 dX9_isBorne_30 rfl (lv_at hl 3 rfl) ?_
          refine lv_iload B.1 B.2.1 dX9_isBorne_31 (lv_at hl 0 rfl) ?_
          refine r_calli B hC hl.1 (175) 9 rfl rfl (by decide) hM.1 (As := [.int (nI b), .int (nI o)]) (ctX9_inside l g lo ad hM ok hR hb hB hw (p := o) (by omega)) gX9_isBorne_X9_inside rfl (n := 2) rfl (by decide +kernel) ⟨Nat.le_of_ble_eq_true rfl, Nat.le_of_ble_eq_true rfl⟩ ⟨Nat.zero_le _, Nat.zero_le _⟩ rfl (Nat.le_of_ble_eq_true rfl) dX9_isBorne_33 (fun r33 F1 H locs hp33 hC => ?_)
          obtain ⟨er, eF⟩ := hp33
          subst er
          rw [eF] at hC
          refine lv_bipush (v := (-9)) B.1 B.2.1 dX9_isBorne_36 (by decide) ?_
          refine lv_icmp_eq (tgt := 45) B.1 B.2.1 dX9_isBorne_38 (by decide) (fun c_38 => ?_) (fun c_38 => ?_)
          · have q_38 : ti w o = none := (oI_9 (fun j hj => Nat.lt_trans (hw.t10 (by omega) j hj) (by decide))).mp c_38
            refine lv_iconst (v := nI 0) B.1 B.2.1 dX9_isBorne_45 (by decide) ?_
            refine lv_istore_n (lv' := [(3, .int (nI 0)), (4, .int (nI o)), (0, .ref (ad (175))), (1, .int (nI b)), (2, .int (nI p))]) B.1 B.2.1 dX9_isBorne_46 rfl hl (by decide) rfl (fun ls hl => ?_)
            refine lv_iinc (v := nI (o + 1)) (lv' := [(4, .int (nI (o + 1))), (3, .int (nI 0)), (0, .ref (ad (175))), (1, .int (nI b)), (2, .int (nI p))]) B.1 B.2.1 dX9_isBorne_47 hl (k := 1) rfl (nI_1 _) (by decide) rfl (fun ls hl => ?_)
            refine lv_goto (tgt := 5) B.1 B.2.1 dX9_isBorne_50 (by decide) ?_
            exact ih5 (o + 1) false (by omega) (by rw [borneTo, ← ha, q_15, q_38]; simp) _ _ ls hC (lv_sub hl [0, 1, 2, 3, 4] rfl)
          · have q_38 : ¬ ti w o = none := fun z => c_38 ((oI_9 (fun j hj => Nat.lt_trans (hw.t10 (by omega) j hj) (by decide))).mpr z)
            refine lv_iconst (v := nI 1) B.1 B.2.1 dX9_isBorne_41 (by decide) ?_
            refine lv_goto (tgt := 46) B.1 B.2.1 dX9_isBorne_42 (by decide) ?_
            refine lv_istore_n (lv' := [(3, .int (nI 1)), (4, .int (nI o)), (0, .ref (ad (175))), (1, .int (nI b)), (2, .int (nI p))]) B.1 B.2.1 dX9_isBorne_46 rfl hl (by decide) rfl (fun ls hl => ?_)
            refine lv_iinc (v := nI (o + 1)) (lv' := [(4, .int (nI (o + 1))), (3, .int (nI 1)), (0, .ref (ad (175))), (1, .int (nI b)), (2, .int (nI p))]) B.1 B.2.1 dX9_isBorne_47 hl (k := 1) rfl (nI_1 _) (by decide) rfl (fun ls hl => ?_)
            refine lv_goto (tgt := 5) B.1 B.2.1 dX9_isBorne_50 (by decide) ?_
            exact ih5 (o + 1) true (by omega) (by rw [borneTo, ← ha, q_15, decide_eq_true q_26]; cases hh : ti w o <;> simp_all) _ _ ls hC (lv_sub hl [0, 1, 2, 3, 4] rfl)
  exact loop5 (hn h) 0 false (by omega) rfl _ _ ls hC (lv_sub hl [0, 1, 2, 3, 4] rfl)
set_option maxHeartbeats 4000000 in
set_option maxRecDepth 100000 in
theorem ctX9_canTake (l : Launch) (g : Gx) (lo : Nat) (ad : Nat → Nat) {F : Nat → va_E} {c : Nat → Int32} {q : Nat → Nat → Int32} {su : Nat → Int64} (hM : MC g ad F c q su) {h : HV} (ok : HOK h) (hR : HullR h c q) {b : Nat} {w : LV} (hb : b ≤ 50) (hB : BankR h q b w) (hw : LOK h w) {p : Nat} (hp : p < 10) : MI l g lo 196 ad yX9_canTake wsX9_canTake 2 47 [.ref (ad (175)), .int (nI b), .int (nI p)] F (fun r F' => r = bI (takeV h w p) ∧ F' = F) := by
  have okn := ok.1
  have okp := ok.2.1
  have okh := ok.2.2.1
  have hS : Same 175 196 F F := Same.rf
  refine enter (cc := cX9_canTake) (maxL := 3) (ret := some .boolean) (own := RX9) (by decide +kernel) rfl rfl (Nat.le_of_ble_eq_true rfl) ?_
  intro pp ee ss mm below meth cc B hini hC ls hl
  have hl : lv_has ls 3 [(0, .ref (ad (175))), (1, .int (nI b)), (2, .int (nI p))] := hl
  refine lv_aload_n B.1 B.2.1 dX9_canTake_0 rfl (lv_at hl 0 rfl) ?_
  refine lv_iload_n B.1 B.2.1 dX9_canTake_1 rfl (lv_at hl 1 rfl) ?_
  refine lv_iload_n B.1 B.2.1 dX9_canTake_2 rfl (lv_at hl 2 rfl) ?_
  refine r_calli B hC hl.1 (175) 9 rfl rfl (by decide) hM.1 (As := [.int (nI b), .int (nI p)]) (ctX9_inside l g lo ad hM ok hR hb hB hw (p := p) (by omega)) gX9_canTake_X9_inside rfl (n := 2) rfl (by decide +kernel) ⟨Nat.le_of_ble_eq_true rfl, Nat.le_of_ble_eq_true rfl⟩ ⟨Nat.zero_le _, Nat.zero_le _⟩ rfl (Nat.le_of_ble_eq_true rfl) dX9_canTake_3 (fun r3 F1 H locs hp3 hC => ?_)
  obtain ⟨er, eF⟩ := hp3
  subst er
  rw [eF] at hC
  refine lv_bipush (v := (-9)) B.1 B.2.1 dX9_canTake_6 (by decide) ?_
  refine lv_icmp_eq (tgt := 24) B.1 B.2.1 dX9_canTake_8 (by decide) (fun c_8 => ?_) (fun c_8 => ?_)
  · have q_8 : ti w p = none := (oI_9 (fun j hj => Nat.lt_trans (hw.t10 (by omega) j hj) (by decide))).mp c_8
    refine lv_iconst (v := nI 0) B.1 B.2.1 dX9_canTake_24 (by decide) ?_
    exact r_eZ B hC (v := nI 0) (rfl) (⟨by rw [takeV, q_8]; rfl, rfl⟩) dX9_canTake_25
  · have q_8 : ¬ ti w p = none := fun z => c_8 ((oI_9 (fun j hj => Nat.lt_trans (hw.t10 (by omega) j hj) (by decide))).mpr z)
    refine lv_aload_n B.1 B.2.1 dX9_canTake_11 rfl (lv_at hl 0 rfl) ?_
    refine lv_iload_n B.1 B.2.1 dX9_canTake_12 rfl (lv_at hl 1 rfl) ?_
    refine lv_iload_n B.1 B.2.1 dX9_canTake_13 rfl (lv_at hl 2 rfl) ?_
    refine r_calli B hC hl.1 (175) 9 rfl rfl (by decide) hM.1 (As := [.int (nI b), .int (nI p)]) (ctX9_isBorne l g lo ad hM ok hR hb hB hw (p := p) hp) gX9_canTake_X9_isBorne rfl (n := 2) rfl (by decide +kernel) ⟨Nat.le_of_ble_eq_true rfl, Nat.le_of_ble_eq_true rfl⟩ ⟨Nat.zero_le _, Nat.zero_le _⟩ rfl (Nat.le_of_ble_eq_true rfl) dX9_canTake_14 (fun r14 F1 H locs hp14 hC => ?_)
    obtain ⟨er, eF⟩ := hp14
    subst er
    rw [eF] at hC
    refine lv_if_ne (tgt := 24) B.1 B.2.1 dX9_canTake_17 (by decide) (fun c_17 => ?_) (fun c_17 => ?_)
    · have q_17 : (borneTo h w p (hn h)) = true := bI_t.mp c_17
      refine lv_iconst (v := nI 0) B.1 B.2.1 dX9_canTake_24 (by decide) ?_
      exact r_eZ B hC (v := nI 0) (rfl) (⟨by rw [takeV, q_17]; cases hh : ti w p <;> simp_all; rfl, rfl⟩) dX9_canTake_25
    · have q_17 : (borneTo h w p (hn h)) = false := bI_f.mp c_17
      refine lv_iconst (v := nI 1) B.1 B.2.1 dX9_canTake_20 (by decide) ?_
      refine lv_goto (tgt := 25) B.1 B.2.1 dX9_canTake_21 (by decide) ?_
      exact r_eZ B hC (v := nI 1) (rfl) (⟨by rw [takeV, q_17]; cases hh : ti w p <;> simp_all; rfl, rfl⟩) dX9_canTake_25
theorem iwX9_canPut_X9 : ∀ w ∈ u_ws RX9 TX9 35, w ∈ wsX9_canPut := by decide +kernel
theorem flX9_canPut_25 : Cond.fieldLink RX9 25 RX9 (TX9 8).2.1 (TX9 8).2.2.1 ∈ wsX9_canPut := by decide +kernel
theorem flX9_canPut_31 : Cond.fieldLink RX9 31 RX9 (TX9 10).2.1 (TX9 10).2.2.1 ∈ wsX9_canPut := by decide +kernel
theorem flX9_canPut_40 : Cond.fieldLink RX9 40 RX9 (TX9 19).2.1 (TX9 19).2.2.1 ∈ wsX9_canPut := by decide +kernel
theorem flX9_canPut_43 : Cond.fieldLink RX9 43 RX9 (TX9 20).2.1 (TX9 20).2.2.1 ∈ wsX9_canPut := by decide +kernel
set_option maxHeartbeats 4000000 in
set_option maxRecDepth 100000 in
theorem ctX9_canPut (l : Launch) (g : Gx) (lo : Nat) (ad : Nat → Nat) {F : Nat → va_E} {c : Nat → Int32} {q : Nat → Nat → Int32} {su : Nat → Int64} (hM : MC g ad F c q su) {h : HV} (ok : HOK h) (hR : HullR h c q) {b : Nat} {w : LV} (hb : b ≤ 50) (hB : BankR h q b w) (hw : LOK h w) {t p : Nat} (ht : t < hn h) (hp : p < hn h) : MI l g lo 196 ad yX9_canPut wsX9_canPut 1 23 [.ref (ad (175)), .int (nI b), .int (nI t), .int (nI p)] F (fun r F' => r = bI (decide (wh w t = 100) && fitsV h w t p) ∧ F' = F) := by
  have okn := ok.1
  have okp := ok.2.1
  have okh := ok.2.2.1
  have hS : Same 175 196 F F := Same.rf
  have w1 := (ok.2.2.2.1 p).1
  have w2 := (hw.1 t).2.1
  have w3 := (hw.1 t).1
  refine enter (cc := cX9_canPut) (maxL := 4) (ret := some .boolean) (own := RX9) (by decide +kernel) rfl rfl (Nat.le_of_ble_eq_true rfl) ?_
  intro pp ee ss mm below meth cc B hini hC ls hl
  have hl : lv_has ls 4 [(0, .ref (ad (175))), (1, .int (nI b)), (2, .int (nI t)), (3, .int (nI p))] := hl
  refine lv_aload_n B.1 B.2.1 dX9_canPut_0 rfl (lv_at hl 0 rfl) ?_
  refine r_cg B hC (i := 175) (by decide) hM.1 (C := RX9) (T := TX9) (n := 35) rfl iwX9_canPut_X9 19 (by decide) (index := 40) flX9_canPut_40 rfl (v := .ref (ad (186))) rfl dX9_canPut_1 ?_
  refine lv_iload_n B.1 B.2.1 dX9_canPut_4 rfl (lv_at hl 1 rfl) ?_
  refine lv_iload_n B.1 B.2.1 dX9_canPut_5 rfl (lv_at hl 2 rfl) ?_
  refine lv_iadd B.1 B.2.1 dX9_canPut_6 ?_
  refine r_tI (y := nI (b + t)) (nI_add _ _) ?_
  refine r_cald B hC (i := 186) (by decide) hM.c186 (j := (b + t)) (by omega) (by decide) dX9_canPut_7 ?_
  refine r_tI (y := q 186 (b + t)) rfl ?_
  refine r_tI (y := nI (wh w t)) ((hB t (by omega)).1) ?_
  refine lv_bipush (v := nI 100) B.1 B.2.1 dX9_canPut_8 (by decide) ?_
  refine lv_icmp_ne (tgt := 72) B.1 B.2.1 dX9_canPut_10 (by decide) (fun c_10 => ?_) (fun c_10 => ?_)
  · have q_10 : ¬ (wh w t) = 100 := fun z => c_10 ((nI_eq (by omega) (by omega)).mpr z)
    refine lv_iconst (v := nI 0) B.1 B.2.1 dX9_canPut_72 (by decide) ?_
    exact r_eZ B hC (v := nI 0) (rfl) (⟨by
      have z : (decide (wh w t = 100) && fitsV h w t p) = false := by
        simp [fitsV, bornV, hreN, hp, q_10]
      rw [z]; rfl, rfl⟩) dX9_canPut_73
  · have q_10 : (wh w t) = 100 := (nI_eq (by omega) (by omega)).mp c_10
    refine lv_aload_n B.1 B.2.1 dX9_canPut_13 rfl (lv_at hl 0 rfl) ?_
    refine lv_iload_n B.1 B.2.1 dX9_canPut_14 rfl (lv_at hl 1 rfl) ?_
    refine lv_iload_n B.1 B.2.1 dX9_canPut_15 rfl (lv_at hl 3 rfl) ?_
    refine r_calli B hC hl.1 (175) 9 rfl rfl (by decide) hM.1 (As := [.int (nI b), .int (nI p)]) (ctX9_inside l g lo ad hM ok hR hb hB hw (p := p) (by omega)) gX9_canPut_X9_inside rfl (n := 2) rfl (by decide +kernel) ⟨Nat.le_of_ble_eq_true rfl, Nat.le_of_ble_eq_true rfl⟩ ⟨Nat.zero_le _, Nat.zero_le _⟩ rfl (Nat.le_of_ble_eq_true rfl) dX9_canPut_16 (fun r16 F1 H locs hp16 hC => ?_)
    obtain ⟨er, eF⟩ := hp16
    subst er
    rw [eF] at hC
    refine lv_bipush (v := (-9)) B.1 B.2.1 dX9_canPut_19 (by decide) ?_
    refine lv_icmp_ne (tgt := 72) B.1 B.2.1 dX9_canPut_21 (by decide) (fun c_21 => ?_) (fun c_21 => ?_)
    · have q_21 : ¬ ti w p = none := fun z => c_21 ((oI_9 (fun j hj => Nat.lt_trans (hw.t10 (by omega) j hj) (by decide))).mpr z)
      refine lv_iconst (v := nI 0) B.1 B.2.1 dX9_canPut_72 (by decide) ?_
      exact r_eZ B hC (v := nI 0) (rfl) (⟨by
      have z : (decide (wh w t = 100) && fitsV h w t p) = false := by
        simp [fitsV, bornV, hreN, hp, q_10, q_21]
      rw [z]; rfl, rfl⟩) dX9_canPut_73
    · have q_21 : ti w p = none := (oI_9 (fun j hj => Nat.lt_trans (hw.t10 (by omega) j hj) (by decide))).mp c_21
      refine lv_aload_n B.1 B.2.1 dX9_canPut_24 rfl (lv_at hl 0 rfl) ?_
      refine r_cg B hC (i := 175) (by decide) hM.1 (C := RX9) (T := TX9) (n := 35) rfl iwX9_canPut_X9 20 (by decide) (index := 43) flX9_canPut_43 rfl (v := .ref (ad (187))) rfl dX9_canPut_25 ?_
      refine lv_iload_n B.1 B.2.1 dX9_canPut_28 rfl (lv_at hl 1 rfl) ?_
      refine lv_iload_n B.1 B.2.1 dX9_canPut_29 rfl (lv_at hl 2 rfl) ?_
      refine lv_iadd B.1 B.2.1 dX9_canPut_30 ?_
      refine r_tI (y := nI (b + t)) (nI_add _ _) ?_
      refine r_cald B hC (i := 187) (by decide) hM.c187 (j := (b + t)) (by omega) (by decide) dX9_canPut_31 ?_
      refine r_tI (y := q 187 (b + t)) rfl ?_
      refine r_tI (y := nI (ln w t)) ((hB t (by omega)).2.1) ?_
      refine lv_aload_n B.1 B.2.1 dX9_canPut_32 rfl (lv_at hl 0 rfl) ?_
      refine r_cg B hC (i := 175) (by decide) hM.1 (C := RX9) (T := TX9) (n := 35) rfl iwX9_canPut_X9 8 (by decide) (index := 25) flX9_canPut_25 rfl (v := .ref (ad (181))) rfl dX9_canPut_33 ?_
      refine lv_iload_n B.1 B.2.1 dX9_canPut_36 rfl (lv_at hl 3 rfl) ?_
      refine r_cald B hC (i := 181) (by decide) hM.c181 (j := p) (by omega) (by decide) dX9_canPut_37 ?_
      refine r_tI (y := q 181 p) rfl ?_
      refine r_tI (y := nI (hle h p)) ((hR.2.2.2 p (by omega)).1) ?_
      refine lv_icmp_lt (tgt := 72) B.1 B.2.1 dX9_canPut_38 (by decide) (fun c_38 => ?_) (fun c_38 => ?_)
      · have q_38 : (ln w t) < (hle h p) := (nI_ltI (by omega) (by omega)).mp c_38
        refine lv_iconst (v := nI 0) B.1 B.2.1 dX9_canPut_72 (by decide) ?_
        exact r_eZ B hC (v := nI 0) (rfl) (⟨by
      have z : (decide (wh w t = 100) && fitsV h w t p) = false := by
        have q_38 := Nat.not_le.mpr q_38
        simp [fitsV, bornV, hreN, hp, q_10, q_21, q_38]
      rw [z]; rfl, rfl⟩) dX9_canPut_73
      · have q_38 : ¬ (ln w t) < (hle h p) := fun z => c_38 ((nI_ltI (by omega) (by omega)).mpr z)
        refine lv_aload_n B.1 B.2.1 dX9_canPut_41 rfl (lv_at hl 0 rfl) ?_
        refine r_cg B hC (i := 175) (by decide) hM.1 (C := RX9) (T := TX9) (n := 35) rfl iwX9_canPut_X9 10 (by decide) (index := 31) flX9_canPut_31 rfl (v := .ref (ad (183))) rfl dX9_canPut_42 ?_
        refine lv_iload_n B.1 B.2.1 dX9_canPut_45 rfl (lv_at hl 3 rfl) ?_
        refine r_cald B hC (i := 183) (by decide) hM.c183 (j := p) (by omega) (by decide) dX9_canPut_46 ?_
        refine r_tI (y := q 183 p) rfl ?_
        refine r_tI (y := oI (hre h p)) ((hR.2.2.2 p (by omega)).2.2.1) ?_
        refine lv_bipush (v := (-9)) B.1 B.2.1 dX9_canPut_47 (by decide) ?_
        refine lv_icmp_eq (tgt := 68) B.1 B.2.1 dX9_canPut_49 (by decide) (fun c_49 => ?_) (fun c_49 => ?_)
        · have q_49 : hre h p = none := (oI_9 (fun j hj => Nat.lt_trans (ok.2.2.2.2.1 p j hj).1 (by decide))).mp c_49
          refine lv_iconst (v := nI 1) B.1 B.2.1 dX9_canPut_68 (by decide) ?_
          refine lv_goto (tgt := 73) B.1 B.2.1 dX9_canPut_69 (by decide) ?_
          exact r_eZ B hC (v := nI 1) (rfl) (⟨by
      have z : (decide (wh w t = 100) && fitsV h w t p) = true := by
        have q_38 := Nat.not_lt.mp q_38
        simp [fitsV, bornV, hreN, hp, q_10, q_21, q_38, q_49]
      rw [z]; rfl, rfl⟩) dX9_canPut_73
        · have q_49 : ¬ hre h p = none := fun z => c_49 ((oI_9 (fun j hj => Nat.lt_trans (ok.2.2.2.2.1 p j hj).1 (by decide))).mpr z)
          obtain ⟨u, hu⟩ := Option.ne_none_iff_exists'.mp q_49
          have hu10 := (ok.2.2.2.2.1 p u hu).1
          refine lv_aload_n B.1 B.2.1 dX9_canPut_52 rfl (lv_at hl 0 rfl) ?_
          refine lv_iload_n B.1 B.2.1 dX9_canPut_53 rfl (lv_at hl 1 rfl) ?_
          refine lv_aload_n B.1 B.2.1 dX9_canPut_54 rfl (lv_at hl 0 rfl) ?_
          refine r_cg B hC (i := 175) (by decide) hM.1 (C := RX9) (T := TX9) (n := 35) rfl iwX9_canPut_X9 10 (by decide) (index := 31) flX9_canPut_31 rfl (v := .ref (ad (183))) rfl dX9_canPut_55 ?_
          refine lv_iload_n B.1 B.2.1 dX9_canPut_58 rfl (lv_at hl 3 rfl) ?_
          refine r_cald B hC (i := 183) (by decide) hM.c183 (j := p) (by omega) (by decide) dX9_canPut_59 ?_
          refine r_tI (y := q 183 p) rfl ?_
          refine r_tI (y := nI u) (by rw [(hR.2.2.2 p (by omega)).2.2.1, hu]; rfl) ?_
          refine r_calli B hC hl.1 (175) 9 rfl rfl (by decide) hM.1 (As := [.int (nI b), .int (nI u)]) (ctX9_inside l g lo ad hM ok hR hb hB hw (p := u) (by omega)) gX9_canPut_X9_inside rfl (n := 2) rfl (by decide +kernel) ⟨Nat.le_of_ble_eq_true rfl, Nat.le_of_ble_eq_true rfl⟩ ⟨Nat.zero_le _, Nat.zero_le _⟩ rfl (Nat.le_of_ble_eq_true rfl) dX9_canPut_60 (fun r60 F1 H locs hp60 hC => ?_)
          obtain ⟨er, eF⟩ := hp60
          subst er
          rw [eF] at hC
          refine lv_bipush (v := (-9)) B.1 B.2.1 dX9_canPut_63 (by decide) ?_
          refine lv_icmp_eq (tgt := 72) B.1 B.2.1 dX9_canPut_65 (by decide) (fun c_65 => ?_) (fun c_65 => ?_)
          · have q_65 : ti w u = none := (oI_9 (fun j hj => Nat.lt_trans (hw.t10 (by omega) j hj) (by decide))).mp c_65
            refine lv_iconst (v := nI 0) B.1 B.2.1 dX9_canPut_72 (by decide) ?_
            exact r_eZ B hC (v := nI 0) (rfl) (⟨by
      have z : (decide (wh w t = 100) && fitsV h w t p) = false := by
        have b65 : (ti w u).isSome = false := by cases hh : ti w u <;> simp_all
        have q_38 := Nat.not_lt.mp q_38
        simp [fitsV, bornV, hreN, hp, q_10, q_21, q_38, hu, b65]
      rw [z]; rfl, rfl⟩) dX9_canPut_73
          · have q_65 : ¬ ti w u = none := fun z => c_65 ((oI_9 (fun j hj => Nat.lt_trans (hw.t10 (by omega) j hj) (by decide))).mpr z)
            refine lv_iconst (v := nI 1) B.1 B.2.1 dX9_canPut_68 (by decide) ?_
            refine lv_goto (tgt := 73) B.1 B.2.1 dX9_canPut_69 (by decide) ?_
            exact r_eZ B hC (v := nI 1) (rfl) (⟨by
      have z : (decide (wh w t = 100) && fitsV h w t p) = true := by
        have b65 : (ti w u).isSome = true := by cases hh : ti w u <;> simp_all
        have q_38 := Nat.not_lt.mp q_38
        simp [fitsV, bornV, hreN, hp, q_10, q_21, q_38, hu, b65]
      rw [z]; rfl, rfl⟩) dX9_canPut_73
