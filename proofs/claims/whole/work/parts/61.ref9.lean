/-! THE REFERENCE: the log -/
theorem iwX9_logLast_X9 : ∀ w ∈ u_ws RX9 TX9 35, w ∈ wsX9_logLast := by decide +kernel
theorem flX9_logLast_114 : Cond.fieldLink RX9 114 RX9 (TX9 12).2.1 (TX9 12).2.2.1 ∈ wsX9_logLast := by decide +kernel
set_option maxHeartbeats 4000000 in
set_option maxRecDepth 100000 in
theorem ctX9_logLast (l : Launch) (g : Gx) (lo : Nat) (ad : Nat → Nat) {F : Nat → va_E} {c : Nat → Int32} {q : Nat → Nat → Int32} {sm : Nat → Int64} (hM : MC g ad F c q sm) {h : HV} {w : LV} (ok : HOK h) (hR : HullR h c q) {u : LV} {z : Nat} (hz : z < 1024) (hB : BankR h q 20 u) (hu : LOK h u) : MI l g lo 196 ad yX9_logLast wsX9_logLast 4 93 [.ref (ad (175)), .int (nI z)] F (fun r F' => ∃ q', MC g ad F' c q' sm ∧ Same 175 196 F F' ∧ QS 30 q q' ∧ r = nI (cntL h u z (L1 h u 0))) := by
  have okn := ok.1
  have okp := ok.2.1
  have okh := ok.2.2.1
  have hS : Same 175 196 F F := Same.rf
  refine enter (cc := cX9_logLast) (maxL := 4) (ret := some .int) (own := RX9) (by decide +kernel) rfl rfl (Nat.le_of_ble_eq_true rfl) ?_
  intro pp ee ss mm below meth cc B hini hC ls hl
  have hl : lv_has ls 4 [(0, .ref (ad (175))), (1, .int (nI z))] := hl
  refine lv_iconst (v := nI 0) B.1 B.2.1 dX9_logLast_0 (by decide) ?_
  refine lv_istore_n (lv' := [(2, .int (nI 0)), (0, .ref (ad (175))), (1, .int (nI z))]) B.1 B.2.1 dX9_logLast_1 rfl hl (by decide) rfl (fun ls hl => ?_)
  refine lv_iconst (v := nI 0) B.1 B.2.1 dX9_logLast_2 (by decide) ?_
  refine lv_istore_n (lv' := [(3, .int (nI 0)), (2, .int (nI 0)), (0, .ref (ad (175))), (1, .int (nI z))]) B.1 B.2.1 dX9_logLast_3 rfl hl (by decide) rfl (fun ls hl => ?_)
  have loop4 : ∀ (k : Nat) (o a : Nat) (q1 : Nat → Nat → Int32) (G : Nat → va_E), (o + k = 10 * hn h) → (MC g ad G c q1 sm) → (Same 175 196 F G) → (QS 30 q q1) → (a + cntL h u z (L1 h u o) = cntL h u z (L1 h u 0)) → ∀ (H : Heap) (locs : List Loc) (ls : Array Slot), Cu g lo 196 ad G ss ss.heap H locs → lv_has ls 4 [(3, .int (nI o)), (2, .int (nI a)), (0, .ref (ad (175))), (1, .int (nI z))] → W pp l ee { frames := 4, cells := 0, slots := 0, locals := 93 } ss mm ([.ref (ad (175)), .int (nI z)] : List Value).toArray below meth cc H locs 0 0 (MQ below (va_Qi (fun r F' => ∃ q', MC g ad F' c q' sm ∧ Same 175 196 F F' ∧ QS 30 q q' ∧ r = nI (cntL h u z (L1 h u 0))) (fun F' t => Wd g lo 196 ad F' t) (fun q => lo ≤ q)) ([.ref (ad (175)), .int (nI z)] : List Value).toArray ss 0 0 (fun q => lo ≤ q)) (F0 mm 4 ls []) := by
    intro k
    induction k with
    | zero =>
      intro o a q1 G hok hM1 hS1 hQ1 hres H locs ls hC hl
      refine lv_iload_n B.1 B.2.1 dX9_logLast_4 rfl (lv_at hl 0 rfl) ?_
      refine lv_bipush (v := nI 10) B.1 B.2.1 dX9_logLast_5 (by decide) ?_
      refine lv_aload_n B.1 B.2.1 dX9_logLast_7 rfl (lv_at hl 2 rfl) ?_
      refine r_cg B hC (i := 175) (by decide) hM1.1 (C := RX9) (T := TX9) (n := 35) rfl iwX9_logLast_X9 12 (by decide) (index := 114) flX9_logLast_114 rfl (v := .int (c 12)) rfl dX9_logLast_8 ?_
      refine r_tI (y := nI (hn h)) (hR.1) ?_
      refine lv_imul B.1 B.2.1 dX9_logLast_11 ?_
      refine r_tI (y := nI (10 * (hn h))) (pk_mul _ _) ?_
      refine lv_icmp_ge (tgt := 75) B.1 B.2.1 dX9_logLast_12 (by decide) (fun _ => ?_) (fun z => absurd (nI_le (by omega) (by omega)) z)
      refine lv_iload_n B.1 B.2.1 dX9_logLast_75 rfl (lv_at hl 1 rfl) ?_
      exact r_eI B hC (v := nI a) (⟨q1, hM1, hS1, hQ1, by rw [L1_stop ok hu (show 10 * hn h ≤ o by omega), cntL] at hres; rw [← hres]; rfl⟩) dX9_logLast_76
    | succ k ih4 =>
      intro o a q1 G hok hM1 hS1 hQ1 hres H locs ls hC hl
      refine lv_iload_n B.1 B.2.1 dX9_logLast_4 rfl (lv_at hl 0 rfl) ?_
      refine lv_bipush (v := nI 10) B.1 B.2.1 dX9_logLast_5 (by decide) ?_
      refine lv_aload_n B.1 B.2.1 dX9_logLast_7 rfl (lv_at hl 2 rfl) ?_
      refine r_cg B hC (i := 175) (by decide) hM1.1 (C := RX9) (T := TX9) (n := 35) rfl iwX9_logLast_X9 12 (by decide) (index := 114) flX9_logLast_114 rfl (v := .int (c 12)) rfl dX9_logLast_8 ?_
      refine r_tI (y := nI (hn h)) (hR.1) ?_
      refine lv_imul B.1 B.2.1 dX9_logLast_11 ?_
      refine r_tI (y := nI (10 * (hn h))) (pk_mul _ _) ?_
      refine lv_icmp_ge (tgt := 75) B.1 B.2.1 dX9_logLast_12 (by decide) (fun z => absurd z (nI_ge (by omega) (by omega))) (fun _ => ?_)
      refine lv_aload_n B.1 B.2.1 dX9_logLast_15 rfl (lv_at hl 2 rfl) ?_
      refine lv_bipush (v := nI 20) B.1 B.2.1 dX9_logLast_16 (by decide) ?_
      refine lv_bipush (v := nI 30) B.1 B.2.1 dX9_logLast_18 (by decide) ?_
      refine r_callv B hC hl.1 (175) 9 rfl rfl (by decide) hM1.1 (As := [.int (nI 20), .int (nI 30)]) (ctX9_copy l g lo ad hM1 (a := 20) (b := 30) (by decide) (by decide) (Or.inl (by decide))) gX9_logLast_X9_copy rfl (n := 2) rfl (by decide +kernel) ⟨Nat.le_of_ble_eq_true rfl, Nat.le_of_ble_eq_true rfl⟩ ⟨Nat.zero_le _, Nat.zero_le _⟩ rfl (Nat.le_of_ble_eq_true rfl) dX9_logLast_20 (fun F31 H locs hp20 hC => ?_)
      obtain ⟨q31, hM_F31, hT_F31, hq20⟩ := hp20
      have hS_F31 : Same 175 196 F F31 := Same.tr2 hS1 hT_F31 (by decide) (by decide)
      have hB30 := hq20.bank okn (hB.qs hQ1 okn (Or.inl (by decide)))
      refine lv_iload_n B.1 B.2.1 dX9_logLast_23 rfl (lv_at hl 1 rfl) ?_
      refine lv_iload_n B.1 B.2.1 dX9_logLast_24 rfl (lv_at hl 0 rfl) ?_
      refine lv_bipush (v := nI 10) B.1 B.2.1 dX9_logLast_25 (by decide) ?_
      refine lv_irem B.1 B.2.1 dX9_logLast_27 (by decide) ?_
      refine r_tI (y := nI (o % 10)) (pk_rem (by omega) (by omega) (by omega)) ?_
      refine lv_aload_n B.1 B.2.1 dX9_logLast_28 rfl (lv_at hl 2 rfl) ?_
      refine r_cg B hC (i := 175) (by decide) hM_F31.1 (C := RX9) (T := TX9) (n := 35) rfl iwX9_logLast_X9 12 (by decide) (index := 114) flX9_logLast_114 rfl (v := .int (c 12)) rfl dX9_logLast_29 ?_
      refine r_tI (y := nI (hn h)) (hR.1) ?_
      refine lv_icmp_ge (tgt := 66) B.1 B.2.1 dX9_logLast_32 (by decide) (fun c_32 => ?_) (fun c_32 => ?_)
      · have q_32 : (hn h) ≤ (o % 10) := (nI_leI (by omega) (by omega)).mp c_32
        refine lv_iconst (v := nI 0) B.1 B.2.1 dX9_logLast_66 (by decide) ?_
        refine lv_iadd B.1 B.2.1 dX9_logLast_67 ?_
        refine r_tI (y := nI (a + 0)) (nI_add _ _) ?_
        refine lv_istore_n (lv' := [(2, .int (nI (a + 0))), (3, .int (nI o)), (0, .ref (ad (175))), (1, .int (nI z))]) B.1 B.2.1 dX9_logLast_68 rfl hl (by decide) rfl (fun ls hl => ?_)
        refine lv_iinc (v := nI (o + 1)) (lv' := [(3, .int (nI (o + 1))), (2, .int (nI (a + 0))), (0, .ref (ad (175))), (1, .int (nI z))]) B.1 B.2.1 dX9_logLast_69 hl (k := 1) rfl (nI_1 _) (by decide) rfl (fun ls hl => ?_)
        refine lv_goto (tgt := 4) B.1 B.2.1 dX9_logLast_72 (by decide) ?_
        exact ih4 (o + 1) (a + 0) q31 F31 (by omega) hM_F31 hS_F31 (hQ1.tr hq20.1) (by rw [L1_no (by omega) (mayM_wide q_32)] at hres; omega) _ _ ls hC (lv_sub hl [0, 1, 2, 3] rfl)
      · have q_32 : ¬ (hn h) ≤ (o % 10) := fun z => c_32 ((nI_leI (by omega) (by omega)).mpr z)
        refine lv_aload_n B.1 B.2.1 dX9_logLast_35 rfl (lv_at hl 2 rfl) ?_
        refine lv_bipush (v := nI 30) B.1 B.2.1 dX9_logLast_36 (by decide) ?_
        refine lv_iload_n B.1 B.2.1 dX9_logLast_38 rfl (lv_at hl 0 rfl) ?_
        refine lv_bipush (v := nI 10) B.1 B.2.1 dX9_logLast_39 (by decide) ?_
        refine lv_idiv B.1 B.2.1 dX9_logLast_41 (by decide) ?_
        refine r_tI (y := nI (o / 10)) (pk_div (by omega) (by omega) (by omega)) ?_
        refine lv_iload_n B.1 B.2.1 dX9_logLast_42 rfl (lv_at hl 0 rfl) ?_
        refine lv_bipush (v := nI 10) B.1 B.2.1 dX9_logLast_43 (by decide) ?_
        refine lv_irem B.1 B.2.1 dX9_logLast_45 (by decide) ?_
        refine r_tI (y := nI (o % 10)) (pk_rem (by omega) (by omega) (by omega)) ?_
        refine r_calli B hC hl.1 (175) 9 rfl rfl (by decide) hM_F31.1 (As := [.int (nI 30), .int (nI (o / 10)), .int (nI (o % 10))]) (ctX9_goes l g lo ad hM_F31 ok ((hR.qs hQ1).qs (hq20.1)) (b := 30) (by decide) hB30 hu (t := o / 10) (p := o % 10) (by omega) (by omega)) gX9_logLast_X9_goes rfl (n := 3) rfl (by decide +kernel) ⟨Nat.le_of_ble_eq_true rfl, Nat.le_of_ble_eq_true rfl⟩ ⟨Nat.zero_le _, Nat.zero_le _⟩ rfl (Nat.le_of_ble_eq_true rfl) dX9_logLast_46 (fun r46 F32 H locs hp46 hC => ?_)
        obtain ⟨q32, hM_F32, hT_F32, hq46, hr46, hbk46⟩ := hp46
        have hS_F32 : Same 175 196 F F32 := Same.tr2 hS_F31 hT_F32 (by decide) (by decide)
        refine r_tI (y := bI (mayM h u o)) (hr46) ?_
        refine lv_if_eq (tgt := 66) B.1 B.2.1 dX9_logLast_49 (by decide) (fun c_49 => ?_) (fun c_49 => ?_)
        · have q_49 : mayM h u o = false := bI_f.mp c_49
          refine lv_iconst (v := nI 0) B.1 B.2.1 dX9_logLast_66 (by decide) ?_
          refine lv_iadd B.1 B.2.1 dX9_logLast_67 ?_
          refine r_tI (y := nI (a + 0)) (nI_add _ _) ?_
          refine lv_istore_n (lv' := [(2, .int (nI (a + 0))), (3, .int (nI o)), (0, .ref (ad (175))), (1, .int (nI z))]) B.1 B.2.1 dX9_logLast_68 rfl hl (by decide) rfl (fun ls hl => ?_)
          refine lv_iinc (v := nI (o + 1)) (lv' := [(3, .int (nI (o + 1))), (2, .int (nI (a + 0))), (0, .ref (ad (175))), (1, .int (nI z))]) B.1 B.2.1 dX9_logLast_69 hl (k := 1) rfl (nI_1 _) (by decide) rfl (fun ls hl => ?_)
          refine lv_goto (tgt := 4) B.1 B.2.1 dX9_logLast_72 (by decide) ?_
          exact ih4 (o + 1) (a + 0) q32 F32 (by omega) hM_F32 hS_F32 ((hQ1.tr hq20.1).tr hq46) (by rw [L1_no (by omega) q_49] at hres; omega) _ _ ls hC (lv_sub hl [0, 1, 2, 3] rfl)
        · have q_49 : mayM h u o = true := bI_t.mp c_49
          have hb1 : BankR h q32 30 (stepV h u o) := by have z := hbk46; rw [show mayV h u (o / 10) (o % 10) = true from q_49, if_pos rfl] at z; exact z
          have hu1 : LOK h (stepV h u o) := LOK_step ok hu (by omega) q_49
          have hop1 := openTo_le (w := stepV h u o) okn
          refine lv_aload_n B.1 B.2.1 dX9_logLast_52 rfl (lv_at hl 2 rfl) ?_
          refine lv_bipush (v := nI 30) B.1 B.2.1 dX9_logLast_53 (by decide) ?_
          refine r_calli B hC hl.1 (175) 9 rfl rfl (by decide) hM_F32.1 (As := [.int (nI 30)]) (ctX9_openSet l g lo ad hM_F32 ok (((hR.qs hQ1).qs (hq20.1)).qs (hq46)) (b := 30) (by decide) hb1 hu1) gX9_logLast_X9_openSet rfl (n := 1) rfl (by decide +kernel) ⟨Nat.le_of_ble_eq_true rfl, Nat.le_of_ble_eq_true rfl⟩ ⟨Nat.zero_le _, Nat.zero_le _⟩ rfl (Nat.le_of_ble_eq_true rfl) dX9_logLast_55 (fun r55 F33 H locs hp55 hC => ?_)
          obtain ⟨er, eF⟩ := hp55
          subst er
          rw [eF] at hC
          refine lv_iload_n B.1 B.2.1 dX9_logLast_58 rfl (lv_at hl 3 rfl) ?_
          refine lv_icmp_ne (tgt := 66) B.1 B.2.1 dX9_logLast_59 (by decide) (fun c_59 => ?_) (fun c_59 => ?_)
          · have q_59 : ¬ (openTo (stepV h u o) (hn h)) = z := fun z => c_59 ((nI_eq (by omega) (by omega)).mpr z)
            refine lv_iconst (v := nI 0) B.1 B.2.1 dX9_logLast_66 (by decide) ?_
            refine lv_iadd B.1 B.2.1 dX9_logLast_67 ?_
            refine r_tI (y := nI (a + 0)) (nI_add _ _) ?_
            refine lv_istore_n (lv' := [(2, .int (nI (a + 0))), (3, .int (nI o)), (0, .ref (ad (175))), (1, .int (nI z))]) B.1 B.2.1 dX9_logLast_68 rfl hl (by decide) rfl (fun ls hl => ?_)
            refine lv_iinc (v := nI (o + 1)) (lv' := [(3, .int (nI (o + 1))), (2, .int (nI (a + 0))), (0, .ref (ad (175))), (1, .int (nI z))]) B.1 B.2.1 dX9_logLast_69 hl (k := 1) rfl (nI_1 _) (by decide) rfl (fun ls hl => ?_)
            refine lv_goto (tgt := 4) B.1 B.2.1 dX9_logLast_72 (by decide) ?_
            exact ih4 (o + 1) (a + 0) q32 F32 (by omega) hM_F32 hS_F32 ((hQ1.tr hq20.1).tr hq46) (by rw [L1_yes (by omega) q_49, cntL, if_neg q_59] at hres; omega) _ _ ls hC (lv_sub hl [0, 1, 2, 3] rfl)
          · have q_59 : (openTo (stepV h u o) (hn h)) = z := (nI_eq (by omega) (by omega)).mp c_59
            refine lv_iconst (v := nI 1) B.1 B.2.1 dX9_logLast_62 (by decide) ?_
            refine lv_goto (tgt := 67) B.1 B.2.1 dX9_logLast_63 (by decide) ?_
            refine lv_iadd B.1 B.2.1 dX9_logLast_67 ?_
            refine r_tI (y := nI (a + 1)) (nI_add _ _) ?_
            refine lv_istore_n (lv' := [(2, .int (nI (a + 1))), (3, .int (nI o)), (0, .ref (ad (175))), (1, .int (nI z))]) B.1 B.2.1 dX9_logLast_68 rfl hl (by decide) rfl (fun ls hl => ?_)
            refine lv_iinc (v := nI (o + 1)) (lv' := [(3, .int (nI (o + 1))), (2, .int (nI (a + 1))), (0, .ref (ad (175))), (1, .int (nI z))]) B.1 B.2.1 dX9_logLast_69 hl (k := 1) rfl (nI_1 _) (by decide) rfl (fun ls hl => ?_)
            refine lv_goto (tgt := 4) B.1 B.2.1 dX9_logLast_72 (by decide) ?_
            exact ih4 (o + 1) (a + 1) q32 F32 (by omega) hM_F32 hS_F32 ((hQ1.tr hq20.1).tr hq46) (by rw [L1_yes (by omega) q_49, cntL, if_pos q_59] at hres; omega) _ _ ls hC (lv_sub hl [0, 1, 2, 3] rfl)
  exact loop4 (10 * hn h) 0 0 q F (by omega) hM hS QS.rf (Nat.zero_add _) _ _ ls hC (lv_sub hl [0, 1, 2, 3] rfl)
theorem iwX9_logFrom_X9 : ∀ w ∈ u_ws RX9 TX9 35, w ∈ wsX9_logFrom := by decide +kernel
theorem flX9_logFrom_114 : Cond.fieldLink RX9 114 RX9 (TX9 12).2.1 (TX9 12).2.2.1 ∈ wsX9_logFrom := by decide +kernel
set_option maxHeartbeats 4000000 in
set_option maxRecDepth 100000 in
theorem ctX9_logFrom (l : Launch) (g : Gx) (lo : Nat) (ad : Nat → Nat) {F : Nat → va_E} {c : Nat → Int32} {q : Nat → Nat → Int32} {sm : Nat → Int64} (hM : MC g ad F c q sm) {h : HV} {w : LV} (ok : HOK h) (hR : HullR h c q) {u : LV} {z j : Nat} (hj : j ≤ 3) (hz : z < 1024) (hB : BankR h q 10 u) (hu : LOK h u) : MI l g lo 196 ad yX9_logFrom wsX9_logFrom 5 116 [.ref (ad (175)), .int (nI 10), .int (nI j), .int (nI z)] F (fun r F' => ∃ q', MC g ad F' c q' sm ∧ Same 175 196 F F' ∧ Scr c c q q' ∧ r = nI (logF h u z j 0)) := by
  have okn := ok.1
  have okp := ok.2.1
  have okh := ok.2.2.1
  have hS : Same 175 196 F F := Same.rf
  refine enter (cc := cX9_logFrom) (maxL := 6) (ret := some .int) (own := RX9) (by decide +kernel) rfl rfl (Nat.le_of_ble_eq_true rfl) ?_
  intro pp ee ss mm below meth cc B hini hC ls hl
  have hl : lv_has ls 6 [(0, .ref (ad (175))), (1, .int (nI 10)), (2, .int (nI j)), (3, .int (nI z))] := hl
  refine lv_iconst (v := nI 0) B.1 B.2.1 dX9_logFrom_0 (by decide) ?_
  refine lv_istore (lv' := [(4, .int (nI 0)), (0, .ref (ad (175))), (1, .int (nI 10)), (2, .int (nI j)), (3, .int (nI z))]) B.1 B.2.1 dX9_logFrom_1 hl (by decide) rfl (fun ls hl => ?_)
  refine lv_iconst (v := nI 0) B.1 B.2.1 dX9_logFrom_3 (by decide) ?_
  refine lv_istore (lv' := [(5, .int (nI 0)), (4, .int (nI 0)), (0, .ref (ad (175))), (1, .int (nI 10)), (2, .int (nI j)), (3, .int (nI z))]) B.1 B.2.1 dX9_logFrom_4 hl (by decide) rfl (fun ls hl => ?_)
  have loop6 : ∀ (k : Nat) (o a : Nat) (q1 : Nat → Nat → Int32) (G : Nat → va_E), (o + k = 10 * hn h) → (MC g ad G c q1 sm) → (Same 175 196 F G) → (Scr c c q q1) → (BankR h q1 10 u) → (a + logF h u z j o = logF h u z j 0) → ∀ (H : Heap) (locs : List Loc) (ls : Array Slot), Cu g lo 196 ad G ss ss.heap H locs → lv_has ls 6 [(5, .int (nI o)), (4, .int (nI a)), (0, .ref (ad (175))), (1, .int (nI 10)), (2, .int (nI j)), (3, .int (nI z))] → W pp l ee { frames := 5, cells := 0, slots := 0, locals := 116 } ss mm ([.ref (ad (175)), .int (nI 10), .int (nI j), .int (nI z)] : List Value).toArray below meth cc H locs 0 0 (MQ below (va_Qi (fun r F' => ∃ q', MC g ad F' c q' sm ∧ Same 175 196 F F' ∧ Scr c c q q' ∧ r = nI (logF h u z j 0)) (fun F' t => Wd g lo 196 ad F' t) (fun q => lo ≤ q)) ([.ref (ad (175)), .int (nI 10), .int (nI j), .int (nI z)] : List Value).toArray ss 0 0 (fun q => lo ≤ q)) (F0 mm 6 ls []) := by
    intro k
    induction k with
    | zero =>
      intro o a q1 G hok hM1 hS1 hSc hB1 hres H locs ls hC hl
      refine lv_iload B.1 B.2.1 dX9_logFrom_6 (lv_at hl 0 rfl) ?_
      refine lv_bipush (v := nI 10) B.1 B.2.1 dX9_logFrom_8 (by decide) ?_
      refine lv_aload_n B.1 B.2.1 dX9_logFrom_10 rfl (lv_at hl 2 rfl) ?_
      refine r_cg B hC (i := 175) (by decide) hM1.1 (C := RX9) (T := TX9) (n := 35) rfl iwX9_logFrom_X9 12 (by decide) (index := 114) flX9_logFrom_114 rfl (v := .int (c 12)) rfl dX9_logFrom_11 ?_
      refine r_tI (y := nI (hn h)) ((hR.scr hSc).1) ?_
      refine lv_imul B.1 B.2.1 dX9_logFrom_14 ?_
      refine r_tI (y := nI (10 * (hn h))) (pk_mul _ _) ?_
      refine lv_icmp_ge (tgt := 95) B.1 B.2.1 dX9_logFrom_15 (by decide) (fun _ => ?_) (fun z => absurd (nI_le (by omega) (by omega)) z)
      refine lv_iload B.1 B.2.1 dX9_logFrom_95 (lv_at hl 1 rfl) ?_
      exact r_eI B hC (v := nI a) (⟨q1, hM1, hS1, hSc, by rw [lf_stop ok hu (show 10 * hn h ≤ o by omega)] at hres; rw [← hres]; rfl⟩) dX9_logFrom_97
    | succ k ih6 =>
      intro o a q1 G hok hM1 hS1 hSc hB1 hres H locs ls hC hl
      refine lv_iload B.1 B.2.1 dX9_logFrom_6 (lv_at hl 0 rfl) ?_
      refine lv_bipush (v := nI 10) B.1 B.2.1 dX9_logFrom_8 (by decide) ?_
      refine lv_aload_n B.1 B.2.1 dX9_logFrom_10 rfl (lv_at hl 2 rfl) ?_
      refine r_cg B hC (i := 175) (by decide) hM1.1 (C := RX9) (T := TX9) (n := 35) rfl iwX9_logFrom_X9 12 (by decide) (index := 114) flX9_logFrom_114 rfl (v := .int (c 12)) rfl dX9_logFrom_11 ?_
      refine r_tI (y := nI (hn h)) ((hR.scr hSc).1) ?_
      refine lv_imul B.1 B.2.1 dX9_logFrom_14 ?_
      refine r_tI (y := nI (10 * (hn h))) (pk_mul _ _) ?_
      refine lv_icmp_ge (tgt := 95) B.1 B.2.1 dX9_logFrom_15 (by decide) (fun z => absurd z (nI_ge (by omega) (by omega))) (fun _ => ?_)
      refine lv_aload_n B.1 B.2.1 dX9_logFrom_18 rfl (lv_at hl 2 rfl) ?_
      refine lv_iload_n B.1 B.2.1 dX9_logFrom_19 rfl (lv_at hl 3 rfl) ?_
      refine lv_bipush (v := nI 20) B.1 B.2.1 dX9_logFrom_20 (by decide) ?_
      refine r_callv B hC hl.1 (175) 9 rfl rfl (by decide) hM1.1 (As := [.int (nI 10), .int (nI 20)]) (ctX9_copy l g lo ad hM1 (a := 10) (b := 20) (by decide) (by decide) (Or.inl (by decide))) gX9_logFrom_X9_copy rfl (n := 2) rfl (by decide +kernel) ⟨Nat.le_of_ble_eq_true rfl, Nat.le_of_ble_eq_true rfl⟩ ⟨Nat.zero_le _, Nat.zero_le _⟩ rfl (Nat.le_of_ble_eq_true rfl) dX9_logFrom_22 (fun F31 H locs hp22 hC => ?_)
      obtain ⟨q31, hM_F31, hT_F31, hq22⟩ := hp22
      have hS_F31 : Same 175 196 F F31 := Same.tr2 hS1 hT_F31 (by decide) (by decide)
      have hB20 := hq22.bank okn hB1
      refine lv_iload B.1 B.2.1 dX9_logFrom_25 (lv_at hl 0 rfl) ?_
      refine lv_bipush (v := nI 10) B.1 B.2.1 dX9_logFrom_27 (by decide) ?_
      refine lv_irem B.1 B.2.1 dX9_logFrom_29 (by decide) ?_
      refine r_tI (y := nI (o % 10)) (pk_rem (by omega) (by omega) (by omega)) ?_
      refine lv_aload_n B.1 B.2.1 dX9_logFrom_30 rfl (lv_at hl 2 rfl) ?_
      refine r_cg B hC (i := 175) (by decide) hM_F31.1 (C := RX9) (T := TX9) (n := 35) rfl iwX9_logFrom_X9 12 (by decide) (index := 114) flX9_logFrom_114 rfl (v := .int (c 12)) rfl dX9_logFrom_31 ?_
      refine r_tI (y := nI (hn h)) ((hR.scr hSc).1) ?_
      refine lv_icmp_ge (tgt := 89) B.1 B.2.1 dX9_logFrom_34 (by decide) (fun c_34 => ?_) (fun c_34 => ?_)
      · have q_34 : (hn h) ≤ (o % 10) := (nI_leI (by omega) (by omega)).mp c_34
        refine lv_iinc (v := nI (o + 1)) (lv' := [(5, .int (nI (o + 1))), (4, .int (nI a)), (0, .ref (ad (175))), (1, .int (nI 10)), (2, .int (nI j)), (3, .int (nI z))]) B.1 B.2.1 dX9_logFrom_89 hl (k := 0) rfl (nI_1 _) (by decide) rfl (fun ls hl => ?_)
        refine lv_goto (tgt := 6) B.1 B.2.1 dX9_logFrom_92 (by decide) ?_
        exact ih6 (o + 1) a q31 F31 (by omega) hM_F31 hS_F31 (hSc.qs hq22.1 (by decide)) (hB1.qs hq22.1 okn (Or.inl (by decide))) (by rw [lf_no (by omega) (mayM_wide q_34)] at hres; exact hres) _ _ ls hC (lv_sub hl [0, 1, 2, 3, 4, 5] rfl)
      · have q_34 : ¬ (hn h) ≤ (o % 10) := fun z => c_34 ((nI_leI (by omega) (by omega)).mpr z)
        refine lv_aload_n B.1 B.2.1 dX9_logFrom_37 rfl (lv_at hl 2 rfl) ?_
        refine lv_bipush (v := nI 20) B.1 B.2.1 dX9_logFrom_38 (by decide) ?_
        refine lv_iload B.1 B.2.1 dX9_logFrom_40 (lv_at hl 0 rfl) ?_
        refine lv_bipush (v := nI 10) B.1 B.2.1 dX9_logFrom_42 (by decide) ?_
        refine lv_idiv B.1 B.2.1 dX9_logFrom_44 (by decide) ?_
        refine r_tI (y := nI (o / 10)) (pk_div (by omega) (by omega) (by omega)) ?_
        refine lv_iload B.1 B.2.1 dX9_logFrom_45 (lv_at hl 0 rfl) ?_
        refine lv_bipush (v := nI 10) B.1 B.2.1 dX9_logFrom_47 (by decide) ?_
        refine lv_irem B.1 B.2.1 dX9_logFrom_49 (by decide) ?_
        refine r_tI (y := nI (o % 10)) (pk_rem (by omega) (by omega) (by omega)) ?_
        refine r_calli B hC hl.1 (175) 9 rfl rfl (by decide) hM_F31.1 (As := [.int (nI 20), .int (nI (o / 10)), .int (nI (o % 10))]) (ctX9_goes l g lo ad hM_F31 ok ((hR.scr hSc).qs (hq22.1)) (b := 20) (by decide) hB20 hu (t := o / 10) (p := o % 10) (by omega) (by omega)) gX9_logFrom_X9_goes rfl (n := 3) rfl (by decide +kernel) ⟨Nat.le_of_ble_eq_true rfl, Nat.le_of_ble_eq_true rfl⟩ ⟨Nat.zero_le _, Nat.zero_le _⟩ rfl (Nat.le_of_ble_eq_true rfl) dX9_logFrom_50 (fun r50 F32 H locs hp50 hC => ?_)
        obtain ⟨q32, hM_F32, hT_F32, hq50, hr50, hbk50⟩ := hp50
        have hS_F32 : Same 175 196 F F32 := Same.tr2 hS_F31 hT_F32 (by decide) (by decide)
        refine r_tI (y := bI (mayM h u o)) (hr50) ?_
        refine lv_if_eq (tgt := 89) B.1 B.2.1 dX9_logFrom_53 (by decide) (fun c_53 => ?_) (fun c_53 => ?_)
        · have q_53 : mayM h u o = false := bI_f.mp c_53
          refine lv_iinc (v := nI (o + 1)) (lv' := [(5, .int (nI (o + 1))), (4, .int (nI a)), (0, .ref (ad (175))), (1, .int (nI 10)), (2, .int (nI j)), (3, .int (nI z))]) B.1 B.2.1 dX9_logFrom_89 hl (k := 0) rfl (nI_1 _) (by decide) rfl (fun ls hl => ?_)
          refine lv_goto (tgt := 6) B.1 B.2.1 dX9_logFrom_92 (by decide) ?_
          exact ih6 (o + 1) a q32 F32 (by omega) hM_F32 hS_F32 ((hSc.qs hq22.1 (by decide)).qs hq50 (by decide)) ((hB1.qs hq22.1 okn (Or.inl (by decide))).qs hq50 okn (Or.inl (by decide))) (by rw [lf_no (by omega) q_53] at hres; exact hres) _ _ ls hC (lv_sub hl [0, 1, 2, 3, 4, 5] rfl)
        · have q_53 : mayM h u o = true := bI_t.mp c_53
          have hb1 : BankR h q32 20 (stepV h u o) := by have z := hbk50; rw [show mayV h u (o / 10) (o % 10) = true from q_53, if_pos rfl] at z; exact z
          have hu1 : LOK h (stepV h u o) := LOK_step ok hu (by omega) q_53
          have hop1 := openTo_le (w := stepV h u o) okn
          refine lv_iload B.1 B.2.1 dX9_logFrom_56 (lv_at hl 1 rfl) ?_
          refine lv_iload_n B.1 B.2.1 dX9_logFrom_58 rfl (lv_at hl 4 rfl) ?_
          refine lv_iconst (v := nI 1) B.1 B.2.1 dX9_logFrom_59 (by decide) ?_
          refine lv_icmp_ne (tgt := 81) B.1 B.2.1 dX9_logFrom_60 (by decide) (fun c_60 => ?_) (fun c_60 => ?_)
          · have q_60 : ¬ j = 1 := fun z => c_60 ((nI_eq (by omega) (by omega)).mpr z)
            refine lv_aload_n B.1 B.2.1 dX9_logFrom_81 rfl (lv_at hl 2 rfl) ?_
            refine lv_iload_n B.1 B.2.1 dX9_logFrom_82 rfl (lv_at hl 5 rfl) ?_
            refine r_calli B hC hl.1 (175) 9 rfl rfl (by decide) hM_F32.1 (As := [.int (nI z)]) (ctX9_logLast l g lo ad hM_F32 ok (((hR.scr hSc).qs (hq22.1)).qs (hq50)) (w := w) (u := stepV h u o) hz hb1 hu1) gX9_logFrom_X9_logLast rfl (n := 1) rfl (by decide +kernel) ⟨Nat.le_of_ble_eq_true rfl, Nat.le_of_ble_eq_true rfl⟩ ⟨Nat.zero_le _, Nat.zero_le _⟩ rfl (Nat.le_of_ble_eq_true rfl) dX9_logFrom_83 (fun r83 F33 H locs hp83 hC => ?_)
            obtain ⟨q33, hM_F33, hT_F33, hq83, hr83⟩ := hp83
            have hS_F33 : Same 175 196 F F33 := Same.tr2 hS_F32 hT_F33 (by decide) (by decide)
            refine r_tI (y := nI (cntL h (stepV h u o) z (L1 h (stepV h u o) 0))) (hr83) ?_
            refine lv_iadd B.1 B.2.1 dX9_logFrom_86 ?_
            refine r_tI (y := nI (a + (cntL h (stepV h u o) z (L1 h (stepV h u o) 0)))) (nI_add _ _) ?_
            refine lv_istore (lv' := [(4, .int (nI (a + (cntL h (stepV h u o) z (L1 h (stepV h u o) 0))))), (5, .int (nI o)), (0, .ref (ad (175))), (1, .int (nI 10)), (2, .int (nI j)), (3, .int (nI z))]) B.1 B.2.1 dX9_logFrom_87 hl (by decide) rfl (fun ls hl => ?_)
            refine lv_iinc (v := nI (o + 1)) (lv' := [(5, .int (nI (o + 1))), (4, .int (nI (a + (cntL h (stepV h u o) z (L1 h (stepV h u o) 0))))), (0, .ref (ad (175))), (1, .int (nI 10)), (2, .int (nI j)), (3, .int (nI z))]) B.1 B.2.1 dX9_logFrom_89 hl (k := 1) rfl (nI_1 _) (by decide) rfl (fun ls hl => ?_)
            refine lv_goto (tgt := 6) B.1 B.2.1 dX9_logFrom_92 (by decide) ?_
            exact ih6 (o + 1) (a + cntL h (stepV h u o) z (L1 h (stepV h u o) 0)) q33 F33 (by omega) hM_F33 hS_F33 (((hSc.qs hq22.1 (by decide)).qs hq50 (by decide)).qs hq83 (by decide)) (((hB1.qs hq22.1 okn (Or.inl (by decide))).qs hq50 okn (Or.inl (by decide))).qs hq83 okn (Or.inl (by decide))) (by rw [lf_2 (by omega) q_53 q_60] at hres; omega) _ _ ls hC (lv_sub hl [0, 1, 2, 3, 4, 5] rfl)
          · have q_60 : j = 1 := (nI_eq (by omega) (by omega)).mp c_60
            refine lv_aload_n B.1 B.2.1 dX9_logFrom_63 rfl (lv_at hl 2 rfl) ?_
            refine lv_bipush (v := nI 20) B.1 B.2.1 dX9_logFrom_64 (by decide) ?_
            refine r_calli B hC hl.1 (175) 9 rfl rfl (by decide) hM_F32.1 (As := [.int (nI 20)]) (ctX9_openSet l g lo ad hM_F32 ok (((hR.scr hSc).qs (hq22.1)).qs (hq50)) (b := 20) (by decide) hb1 hu1) gX9_logFrom_X9_openSet rfl (n := 1) rfl (by decide +kernel) ⟨Nat.le_of_ble_eq_true rfl, Nat.le_of_ble_eq_true rfl⟩ ⟨Nat.zero_le _, Nat.zero_le _⟩ rfl (Nat.le_of_ble_eq_true rfl) dX9_logFrom_66 (fun r66 F33 H locs hp66 hC => ?_)
            obtain ⟨er, eF⟩ := hp66
            subst er
            rw [eF] at hC
            refine lv_iload_n B.1 B.2.1 dX9_logFrom_69 rfl (lv_at hl 5 rfl) ?_
            refine lv_icmp_ne (tgt := 77) B.1 B.2.1 dX9_logFrom_70 (by decide) (fun c_70 => ?_) (fun c_70 => ?_)
            · have q_70 : ¬ (openTo (stepV h u o) (hn h)) = z := fun z => c_70 ((nI_eq (by omega) (by omega)).mpr z)
              refine lv_iconst (v := nI 0) B.1 B.2.1 dX9_logFrom_77 (by decide) ?_
              refine lv_goto (tgt := 86) B.1 B.2.1 dX9_logFrom_78 (by decide) ?_
              refine lv_iadd B.1 B.2.1 dX9_logFrom_86 ?_
              refine r_tI (y := nI (a + 0)) (nI_add _ _) ?_
              refine lv_istore (lv' := [(4, .int (nI (a + 0))), (5, .int (nI o)), (0, .ref (ad (175))), (1, .int (nI 10)), (2, .int (nI j)), (3, .int (nI z))]) B.1 B.2.1 dX9_logFrom_87 hl (by decide) rfl (fun ls hl => ?_)
              refine lv_iinc (v := nI (o + 1)) (lv' := [(5, .int (nI (o + 1))), (4, .int (nI (a + 0))), (0, .ref (ad (175))), (1, .int (nI 10)), (2, .int (nI j)), (3, .int (nI z))]) B.1 B.2.1 dX9_logFrom_89 hl (k := 1) rfl (nI_1 _) (by decide) rfl (fun ls hl => ?_)
              refine lv_goto (tgt := 6) B.1 B.2.1 dX9_logFrom_92 (by decide) ?_
              exact ih6 (o + 1) (a + 0) q32 F32 (by omega) hM_F32 hS_F32 ((hSc.qs hq22.1 (by decide)).qs hq50 (by decide)) ((hB1.qs hq22.1 okn (Or.inl (by decide))).qs hq50 okn (Or.inl (by decide))) (by rw [lf_1 (by omega) q_53 q_60, if_neg q_70] at hres; omega) _ _ ls hC (lv_sub hl [0, 1, 2, 3, 4, 5] rfl)
            · have q_70 : (openTo (stepV h u o) (hn h)) = z := (nI_eq (by omega) (by omega)).mp c_70
              refine lv_iconst (v := nI 1) B.1 B.2.1 dX9_logFrom_73 (by decide) ?_
              refine lv_goto (tgt := 86) B.1 B.2.1 dX9_logFrom_74 (by decide) ?_
              refine lv_iadd B.1 B.2.1 dX9_logFrom_86 ?_
              refine r_tI (y := nI (a + 1)) (nI_add _ _) ?_
              refine lv_istore (lv' := [(4, .int (nI (a + 1))), (5, .int (nI o)), (0, .ref (ad (175))), (1, .int (nI 10)), (2, .int (nI j)), (3, .int (nI z))]) B.1 B.2.1 dX9_logFrom_87 hl (by decide) rfl (fun ls hl => ?_)
              refine lv_iinc (v := nI (o + 1)) (lv' := [(5, .int (nI (o + 1))), (4, .int (nI (a + 1))), (0, .ref (ad (175))), (1, .int (nI 10)), (2, .int (nI j)), (3, .int (nI z))]) B.1 B.2.1 dX9_logFrom_89 hl (k := 1) rfl (nI_1 _) (by decide) rfl (fun ls hl => ?_)
              refine lv_goto (tgt := 6) B.1 B.2.1 dX9_logFrom_92 (by decide) ?_
              exact ih6 (o + 1) (a + 1) q32 F32 (by omega) hM_F32 hS_F32 ((hSc.qs hq22.1 (by decide)).qs hq50 (by decide)) ((hB1.qs hq22.1 okn (Or.inl (by decide))).qs hq50 okn (Or.inl (by decide))) (by rw [lf_1 (by omega) q_53 q_60, if_pos q_70] at hres; omega) _ _ ls hC (lv_sub hl [0, 1, 2, 3, 4, 5] rfl)
  exact loop6 (10 * hn h) 0 0 q F (by omega) hM hS Scr.rf hB (Nat.zero_add _) _ _ ls hC (lv_sub hl [0, 1, 2, 3, 4, 5] rfl)
theorem inB_q {h : HV} (ok : HOK h) (x : Int32) : inB (Int32.toInt64 x) (lN 0) (Int32.toInt64 (nI (2 ^ hn h) - nI 1)) = isQ h x := inB_n (Nat.le_trans (isQ_lt ok) (by decide)) x
theorem inB_03 (x : Int32) : inB (Int32.toInt64 x) (lN 0) 3 = is03 x := by
  have e0 : (lN 0).toInt = 0 := by decide
  have e2 : (3 : Int64).toInt = 3 := by decide
  cases q : is03 x with
  | true =>
    simp only [is03, Bool.or_eq_true, decide_eq_true_eq] at q
    rcases q with rfl | rfl | rfl | rfl <;> decide
  | false =>
    unfold inB
    by_cases h1 : lN 0 ≤ Int32.toInt64 x
    · by_cases h2 : Int32.toInt64 x ≤ 3
      · rw [Int64.le_iff_toInt_le, Int32.toInt_toInt64, e0] at h1
        rw [Int64.le_iff_toInt_le, Int32.toInt_toInt64, e2] at h2
        have z := is03_t (is03_k (k := x) (by rw [Int32.lt_iff_toInt_lt, Int32.toInt_zero]; omega) (by rw [Int32.lt_iff_toInt_lt]; have e3 : (nI 3).toInt = 3 := by decide
                                                                                                       omega))
        rw [z] at q; cases q
      · rw [decide_eq_false h2]; simp
    · rw [decide_eq_false h1]; simp
theorem is03_j {k : Int32} (q : is03 k = true) : ∃ j, j ≤ 3 ∧ k = nI j := by
  simp only [is03, Bool.or_eq_true, decide_eq_true_eq] at q
  rcases q with e | e | e | e
  · exact ⟨0, by decide, e⟩
  · exact ⟨1, by decide, e⟩
  · exact ⟨2, by decide, e⟩
  · exact ⟨3, by decide, e⟩
theorem isQ_j {h : HV} (ok : HOK h) {k : Int32} (q : isQ h k = true) : ∃ j, j < 1024 ∧ j < 2 ^ hn h ∧ k = nI j := by
  have hq := isQ_lt ok
  simp only [isQ, Bool.and_eq_true, decide_eq_true_eq] at q
  obtain ⟨j, hj, rfl⟩ := nI_of (x := k) (by have := q.1; rw [Int32.le_iff_toInt_le, Int32.toInt_zero] at this; rw [Int32.lt_iff_toInt_lt, Int32.toInt_zero]; omega)
  have := (nI_ltI hj (by omega)).mp q.2
  exact ⟨j, by omega, this, rfl⟩
theorem iwX9_log_X9 : ∀ w ∈ u_ws RX9 TX9 35, w ∈ wsX9_log := by decide +kernel
theorem flX9_log_114 : Cond.fieldLink RX9 114 RX9 (TX9 12).2.1 (TX9 12).2.2.1 ∈ wsX9_log := by decide +kernel
theorem flX9_log_123 : Cond.fieldLink RX9 123 RX9 (TX9 23).2.1 (TX9 23).2.2.1 ∈ wsX9_log := by decide +kernel
set_option maxHeartbeats 4000000 in
set_option maxRecDepth 100000 in
theorem ctX9_log (l : Launch) (g : Gx) (lo : Nat) (ad : Nat → Nat) {F : Nat → va_E} {c : Nat → Int32} {q : Nat → Nat → Int32} {sm : Nat → Int64} {x : XV} (hM : MC g ad F c q sm) (hX : XR x c q) (okx : XOK x) {k q_ : Int32} : MI l g lo 196 ad yX9_log wsX9_log 6 141 [.ref (ad (175)), .int (k), .int (q_)] F (fun r F' => r = logA x k q_ ∧ MX g ad F' x ∧ Same 175 196 F F') := by
  obtain ⟨hTx, hR, ⟨hB, hwa, hsu⟩, hAx, hKx⟩ := id hX
  obtain ⟨okT, ok, hw, okA, okS, okAu, okSu⟩ := id okx
  have okn := ok.1
  have okp := ok.2.1
  have okh := ok.2.2.1
  have okt := okT.1
  have hS : Same 175 196 F F := Same.rf
  have hb : 0 ≤ 50 := by decide
  have hwa3 := hw.2.1
  refine enter (cc := cX9_log) (maxL := 5) (ret := some .int) (own := RX9) (by decide +kernel) rfl rfl (Nat.le_of_ble_eq_true rfl) ?_
  intro pp ee ss mm below meth cc B hini hC ls hl
  have hl : lv_has ls 5 [(0, .ref (ad (175))), (1, .int (k)), (2, .int (q_))] := hl
  refine lv_iload_n B.1 B.2.1 dX9_log_0 rfl (lv_at hl 1 rfl) ?_
  refine lv_i2l (v := Int32.toInt64 (k)) B.1 B.2.1 dX9_log_1 (rfl) ?_
  refine lv_lconst (v := lN 0) B.1 B.2.1 dX9_log_2 (by decide) ?_
  refine lv_ldc2 (own := RX9) (v := 3) B.1 B.2.1 B.2.2.2.1 (B.2.2.2.2.1 (.constantLong RX9 208 (3)) (by decide +kernel)) dX9_log_3 ?_
  refine r_scalli B hC hl.1 (As := [.long (Int32.toInt64 (k)), .long (lN 0), .long (3)]) (ctX9_in l g lo ad (v := Int32.toInt64 k) (a := lN 0) (b := 3)) gX9_log_X9_in rfl (n := 3) rfl (by decide +kernel) ⟨Nat.le_of_ble_eq_true rfl, Nat.le_of_ble_eq_true rfl⟩ ⟨Nat.zero_le _, Nat.zero_le _⟩ rfl (Nat.le_of_ble_eq_true rfl) dX9_log_6 (fun r6 F1 H locs hp6 hC => ?_)
  obtain ⟨er, eF⟩ := hp6
  subst er
  rw [eF] at hC
  refine lv_if_eq (tgt := 30) B.1 B.2.1 dX9_log_9 (by decide) (fun c_9 => ?_) (fun c_9 => ?_)
  · have q_9 : ¬ (is03 k = true ∧ isQ (xh x) q_ = true) := fun z => by rw [← inB_03, bI_f.mp c_9] at z; cases z.1
    refine lv_bipush (v := (-2)) B.1 B.2.1 dX9_log_30 (by decide) ?_
    exact r_eI B hC (v := (-2)) (⟨by rw [logA, if_neg q_9], ⟨_, _, _, hM, hX⟩, hS⟩) dX9_log_32
  · have q_9 : is03 k = true := by rw [← inB_03]; exact bI_t.mp c_9
    obtain ⟨j, hj3, ej⟩ := is03_j q_9
    refine lv_iload_n B.1 B.2.1 dX9_log_12 rfl (lv_at hl 2 rfl) ?_
    refine lv_i2l (v := Int32.toInt64 (q_)) B.1 B.2.1 dX9_log_13 (rfl) ?_
    refine lv_lconst (v := lN 0) B.1 B.2.1 dX9_log_14 (by decide) ?_
    refine lv_iconst (v := nI 1) B.1 B.2.1 dX9_log_15 (by decide) ?_
    refine lv_aload_n B.1 B.2.1 dX9_log_16 rfl (lv_at hl 0 rfl) ?_
    refine r_cg B hC (i := 175) (by decide) hM.1 (C := RX9) (T := TX9) (n := 35) rfl iwX9_log_X9 12 (by decide) (index := 114) flX9_log_114 rfl (v := .int (c 12)) rfl dX9_log_17 ?_
    refine r_tI (y := nI (hn (xh x))) (hR.1) ?_
    refine lv_ishl B.1 B.2.1 dX9_log_20 ?_
    refine r_tI (y := nI (2 ^ hn (xh x))) (shl_11 _ (by omega)) ?_
    refine lv_iconst (v := nI 1) B.1 B.2.1 dX9_log_21 (by decide) ?_
    refine lv_isub B.1 B.2.1 dX9_log_22 ?_
    refine r_tI (y := (nI (2 ^ hn (xh x))) - (nI 1)) (rfl) ?_
    refine lv_i2l (v := Int32.toInt64 ((nI (2 ^ hn (xh x))) - (nI 1))) B.1 B.2.1 dX9_log_23 (rfl) ?_
    refine r_scalli B hC hl.1 (As := [.long (Int32.toInt64 (q_)), .long (lN 0), .long (Int32.toInt64 ((nI (2 ^ hn (xh x))) - (nI 1)))]) (ctX9_in l g lo ad (v := Int32.toInt64 q_) (a := lN 0) (b := Int32.toInt64 (nI (2 ^ hn (xh x)) - nI 1))) gX9_log_X9_in rfl (n := 3) rfl (by decide +kernel) ⟨Nat.le_of_ble_eq_true rfl, Nat.le_of_ble_eq_true rfl⟩ ⟨Nat.zero_le _, Nat.zero_le _⟩ rfl (Nat.le_of_ble_eq_true rfl) dX9_log_24 (fun r24 F1 H locs hp24 hC => ?_)
    obtain ⟨er, eF⟩ := hp24
    subst er
    rw [eF] at hC
    refine lv_if_ne (tgt := 33) B.1 B.2.1 dX9_log_27 (by decide) (fun c_27 => ?_) (fun c_27 => ?_)
    · have q_27 : isQ (xh x) q_ = true := by rw [← inB_q ok]; exact bI_t.mp c_27
      obtain ⟨z, hz, hz2, ez⟩ := isQ_j ok q_27
      refine lv_aload_n B.1 B.2.1 dX9_log_33 rfl (lv_at hl 0 rfl) ?_
      refine r_cg B hC (i := 175) (by decide) hM.1 (C := RX9) (T := TX9) (n := 35) rfl iwX9_log_X9 23 (by decide) (index := 123) flX9_log_123 rfl (v := .int (c 23)) rfl dX9_log_34 ?_
      refine r_tI (y := bI (su (xw x))) (hsu) ?_
      refine lv_if_eq (tgt := 43) B.1 B.2.1 dX9_log_37 (by decide) (fun c_37 => ?_) (fun c_37 => ?_)
      · have q_37 : (su (xw x)) = false := bI_f.mp c_37
        rw [ej, ez] at hl
        refine lv_iconst (v := nI 0) B.1 B.2.1 dX9_log_43 (by decide) ?_
        refine lv_istore_n (lv' := [(3, .int (nI 0)), (0, .ref (ad (175))), (1, .int (nI j)), (2, .int (nI z))]) B.1 B.2.1 dX9_log_44 rfl hl (by decide) rfl (fun ls hl => ?_)
        refine lv_iconst (v := nI 0) B.1 B.2.1 dX9_log_45 (by decide) ?_
        refine lv_istore (lv' := [(4, .int (nI 0)), (3, .int (nI 0)), (0, .ref (ad (175))), (1, .int (nI j)), (2, .int (nI z))]) B.1 B.2.1 dX9_log_46 hl (by decide) rfl (fun ls hl => ?_)
        have loop48 : ∀ (kc : Nat) (m a lim : Nat) (q1 : Nat → Nat → Int32) (G : Nat → va_E), (m + kc = lim) → (0 < j → lim = 10 * hn (xh x)) → (j = 0 → lim = 1) → (MC g ad G c q1 sm) → (Same 175 196 F G) → (Scr c c q q1) → (a + logR (xh x) (xw x) z j m = logR (xh x) (xw x) z j 0) → ∀ (H : Heap) (locs : List Loc) (ls : Array Slot), Cu g lo 196 ad G ss ss.heap H locs → lv_has ls 5 [(4, .int (nI m)), (3, .int (nI a)), (0, .ref (ad (175))), (1, .int (nI j)), (2, .int (nI z))] → W pp l ee { frames := 6, cells := 0, slots := 0, locals := 141 } ss mm ([.ref (ad (175)), .int (k), .int (q_)] : List Value).toArray below meth cc H locs 0 0 (MQ below (va_Qi (fun r F' => r = logA x k q_ ∧ MX g ad F' x ∧ Same 175 196 F F') (fun F' t => Wd g lo 196 ad F' t) (fun q => lo ≤ q)) ([.ref (ad (175)), .int (k), .int (q_)] : List Value).toArray ss 0 0 (fun q => lo ≤ q)) (F0 mm 48 ls []) := by
          intro kc
          induction kc with
          | zero =>
            intro m a lim q1 G hmk hl1 hl0 hM1 hS1 hSc hres H locs ls hC hl
            have hB1 : BankR (xh x) q1 0 (xw x) := hB.scr hSc okn
            refine lv_iload B.1 B.2.1 dX9_log_48 (lv_at hl 0 rfl) ?_
            refine lv_iload_n B.1 B.2.1 dX9_log_50 rfl (lv_at hl 3 rfl) ?_
            refine lv_if_le (tgt := 64) B.1 B.2.1 dX9_log_51 (by decide) (fun c_51 => ?_) (fun c_51 => ?_)
            · have q_51 : j ≤ 0 := Classical.byContradiction (fun z => nI_nle (by omega) (by omega) c_51)
              refine lv_iconst (v := nI 1) B.1 B.2.1 dX9_log_64 (by decide) ?_
              refine lv_icmp_ge (tgt := 152) B.1 B.2.1 dX9_log_65 (by decide) (fun _ => ?_) (fun z => absurd (nI_le (by omega) (by omega)) z)
              have hend : logR (xh x) (xw x) z j m = 0 := by
                rcases Nat.eq_zero_or_pos j with ej | ej
                · subst ej; show (if m = 0 then _ else 0) = 0; rw [if_neg (by omega)]
                · exact lr_stop ok hw (by omega) j ej
              refine lv_iload_n B.1 B.2.1 dX9_log_152 rfl (lv_at hl 1 rfl) ?_
              exact r_eI B hC (v := nI a) (⟨by rw [logA, if_pos ⟨q_9, q_27⟩, if_neg (by rw [q_37]; decide), ej, ez, ix_n (by omega), ix_n (by omega), log_eq ok hw j hj3, ← hres, hend]; rfl, ⟨_, _, _, hM1, hX.scr hSc okn⟩, hS1⟩) dX9_log_153
            · have q_51 : ¬ j ≤ 0 := fun z => c_51 (nI_le0 (by omega))
              refine lv_bipush (v := nI 10) B.1 B.2.1 dX9_log_54 (by decide) ?_
              refine lv_aload_n B.1 B.2.1 dX9_log_56 rfl (lv_at hl 2 rfl) ?_
              refine r_cg B hC (i := 175) (by decide) hM1.1 (C := RX9) (T := TX9) (n := 35) rfl iwX9_log_X9 12 (by decide) (index := 114) flX9_log_114 rfl (v := .int (c 12)) rfl dX9_log_57 ?_
              refine r_tI (y := nI (hn (xh x))) ((hR.scr hSc).1) ?_
              refine lv_imul B.1 B.2.1 dX9_log_60 ?_
              refine r_tI (y := nI (10 * (hn (xh x)))) (pk_mul _ _) ?_
              refine lv_goto (tgt := 65) B.1 B.2.1 dX9_log_61 (by decide) ?_
              refine lv_icmp_ge (tgt := 152) B.1 B.2.1 dX9_log_65 (by decide) (fun _ => ?_) (fun z => absurd (nI_le (by omega) (by omega)) z)
              have hend : logR (xh x) (xw x) z j m = 0 := by
                rcases Nat.eq_zero_or_pos j with ej | ej
                · subst ej; show (if m = 0 then _ else 0) = 0; rw [if_neg (by omega)]
                · exact lr_stop ok hw (by omega) j ej
              refine lv_iload_n B.1 B.2.1 dX9_log_152 rfl (lv_at hl 1 rfl) ?_
              exact r_eI B hC (v := nI a) (⟨by rw [logA, if_pos ⟨q_9, q_27⟩, if_neg (by rw [q_37]; decide), ej, ez, ix_n (by omega), ix_n (by omega), log_eq ok hw j hj3, ← hres, hend]; rfl, ⟨_, _, _, hM1, hX.scr hSc okn⟩, hS1⟩) dX9_log_153
          | succ kc ih48 =>
            intro m a lim q1 G hmk hl1 hl0 hM1 hS1 hSc hres H locs ls hC hl
            have hB1 : BankR (xh x) q1 0 (xw x) := hB.scr hSc okn
            refine lv_iload B.1 B.2.1 dX9_log_48 (lv_at hl 0 rfl) ?_
            refine lv_iload_n B.1 B.2.1 dX9_log_50 rfl (lv_at hl 3 rfl) ?_
            refine lv_if_le (tgt := 64) B.1 B.2.1 dX9_log_51 (by decide) (fun c_51 => ?_) (fun c_51 => ?_)
            · have q_51 : j ≤ 0 := Classical.byContradiction (fun z => nI_nle (by omega) (by omega) c_51)
              refine lv_iconst (v := nI 1) B.1 B.2.1 dX9_log_64 (by decide) ?_
              refine lv_icmp_ge (tgt := 152) B.1 B.2.1 dX9_log_65 (by decide) (fun z => absurd z (nI_ge (by omega) (by omega))) (fun _ => ?_)
              refine lv_aload_n B.1 B.2.1 dX9_log_68 rfl (lv_at hl 2 rfl) ?_
              refine lv_iconst (v := nI 0) B.1 B.2.1 dX9_log_69 (by decide) ?_
              refine lv_bipush (v := nI 10) B.1 B.2.1 dX9_log_70 (by decide) ?_
              refine r_callv B hC hl.1 (175) 9 rfl rfl (by decide) hM1.1 (As := [.int (nI 0), .int (nI 10)]) (ctX9_copy l g lo ad hM1 (a := 0) (b := 10) (by decide) (by decide) (Or.inl (by decide))) gX9_log_X9_copy rfl (n := 2) rfl (by decide +kernel) ⟨Nat.le_of_ble_eq_true rfl, Nat.le_of_ble_eq_true rfl⟩ ⟨Nat.zero_le _, Nat.zero_le _⟩ rfl (Nat.le_of_ble_eq_true rfl) dX9_log_72 (fun F31 H locs hp72 hC => ?_)
              obtain ⟨q31, hM_F31, hT_F31, hq72⟩ := hp72
              have hS_F31 : Same 175 196 F F31 := Same.tr2 hS1 hT_F31 (by decide) (by decide)
              have hB10 := hq72.bank okn hB1
              have hop2 := openTo_le (w := xw x) okn
              refine lv_iload_n B.1 B.2.1 dX9_log_75 rfl (lv_at hl 3 rfl) ?_
              refine lv_if_eq (tgt := 110) B.1 B.2.1 dX9_log_76 (by decide) (fun c_76 => ?_) (fun c_76 => ?_)
              · have q_76 : j = 0 := Classical.byContradiction (fun z => nI_ne0 (by omega) (by omega) c_76)
                refine lv_iload_n B.1 B.2.1 dX9_log_110 rfl (lv_at hl 1 rfl) ?_
                refine lv_iload_n B.1 B.2.1 dX9_log_111 rfl (lv_at hl 3 rfl) ?_
                refine lv_iconst (v := nI 2) B.1 B.2.1 dX9_log_112 (by decide) ?_
                refine lv_icmp_ge (tgt := 134) B.1 B.2.1 dX9_log_113 (by decide) (fun z => absurd z (nI_ge (by omega) (by omega))) (fun _ => ?_)
                refine lv_aload_n B.1 B.2.1 dX9_log_116 rfl (lv_at hl 2 rfl) ?_
                refine lv_bipush (v := nI 10) B.1 B.2.1 dX9_log_117 (by decide) ?_
                refine r_calli B hC hl.1 (175) 9 rfl rfl (by decide) hM_F31.1 (As := [.int (nI 10)]) (ctX9_openSet l g lo ad hM_F31 ok ((hR.scr hSc).qs (hq72.1)) (b := 10) (by decide) hB10 hw) gX9_log_X9_openSet rfl (n := 1) rfl (by decide +kernel) ⟨Nat.le_of_ble_eq_true rfl, Nat.le_of_ble_eq_true rfl⟩ ⟨Nat.zero_le _, Nat.zero_le _⟩ rfl (Nat.le_of_ble_eq_true rfl) dX9_log_119 (fun r119 F32 H locs hp119 hC => ?_)
                obtain ⟨er, eF⟩ := hp119
                subst er
                rw [eF] at hC
                refine lv_iload_n B.1 B.2.1 dX9_log_122 rfl (lv_at hl 4 rfl) ?_
                refine lv_icmp_ne (tgt := 130) B.1 B.2.1 dX9_log_123 (by decide) (fun c_123 => ?_) (fun c_123 => ?_)
                · have q_123 : ¬ (openTo (xw x) (hn (xh x))) = z := fun z => c_123 ((nI_eq (by omega) (by omega)).mpr z)
                  refine lv_iconst (v := nI 0) B.1 B.2.1 dX9_log_130 (by decide) ?_
                  refine lv_goto (tgt := 144) B.1 B.2.1 dX9_log_131 (by decide) ?_
                  refine lv_iadd B.1 B.2.1 dX9_log_144 ?_
                  refine r_tI (y := nI (a + 0)) (nI_add _ _) ?_
                  refine lv_istore_n (lv' := [(3, .int (nI (a + 0))), (4, .int (nI m)), (0, .ref (ad (175))), (1, .int (nI j)), (2, .int (nI z))]) B.1 B.2.1 dX9_log_145 rfl hl (by decide) rfl (fun ls hl => ?_)
                  refine lv_iinc (v := nI (m + 1)) (lv' := [(4, .int (nI (m + 1))), (3, .int (nI (a + 0))), (0, .ref (ad (175))), (1, .int (nI j)), (2, .int (nI z))]) B.1 B.2.1 dX9_log_146 hl (k := 1) rfl (nI_1 _) (by decide) rfl (fun ls hl => ?_)
                  refine lv_goto (tgt := 48) B.1 B.2.1 dX9_log_149 (by decide) ?_
                  exact ih48 (m + 1) (a + 0) lim q31 F31 (by omega) hl1 hl0 hM_F31 hS_F31 (hSc.qs hq72.1 (by decide)) (lr_0 q_76 (by omega) (if_neg q_123) hres) _ _ ls hC (lv_sub hl [0, 1, 2, 3, 4] rfl)
                · have q_123 : (openTo (xw x) (hn (xh x))) = z := (nI_eq (by omega) (by omega)).mp c_123
                  refine lv_iconst (v := nI 1) B.1 B.2.1 dX9_log_126 (by decide) ?_
                  refine lv_goto (tgt := 144) B.1 B.2.1 dX9_log_127 (by decide) ?_
                  refine lv_iadd B.1 B.2.1 dX9_log_144 ?_
                  refine r_tI (y := nI (a + 1)) (nI_add _ _) ?_
                  refine lv_istore_n (lv' := [(3, .int (nI (a + 1))), (4, .int (nI m)), (0, .ref (ad (175))), (1, .int (nI j)), (2, .int (nI z))]) B.1 B.2.1 dX9_log_145 rfl hl (by decide) rfl (fun ls hl => ?_)
                  refine lv_iinc (v := nI (m + 1)) (lv' := [(4, .int (nI (m + 1))), (3, .int (nI (a + 1))), (0, .ref (ad (175))), (1, .int (nI j)), (2, .int (nI z))]) B.1 B.2.1 dX9_log_146 hl (k := 1) rfl (nI_1 _) (by decide) rfl (fun ls hl => ?_)
                  refine lv_goto (tgt := 48) B.1 B.2.1 dX9_log_149 (by decide) ?_
                  exact ih48 (m + 1) (a + 1) lim q31 F31 (by omega) hl1 hl0 hM_F31 hS_F31 (hSc.qs hq72.1 (by decide)) (lr_0 q_76 (by omega) (if_pos q_123) hres) _ _ ls hC (lv_sub hl [0, 1, 2, 3, 4] rfl)
              · have q_76 : ¬ j = 0 := fun z => c_76 (nI_eq0 z)
                refine lv_iload B.1 B.2.1 dX9_log_79 (lv_at hl 0 rfl) ?_
                refine lv_bipush (v := nI 10) B.1 B.2.1 dX9_log_81 (by decide) ?_
                refine lv_irem B.1 B.2.1 dX9_log_83 (by decide) ?_
                refine r_tI (y := nI (m % 10)) (pk_rem (by omega) (by omega) (by omega)) ?_
                refine lv_aload_n B.1 B.2.1 dX9_log_84 rfl (lv_at hl 2 rfl) ?_
                refine r_cg B hC (i := 175) (by decide) hM_F31.1 (C := RX9) (T := TX9) (n := 35) rfl iwX9_log_X9 12 (by decide) (index := 114) flX9_log_114 rfl (v := .int (c 12)) rfl dX9_log_85 ?_
                refine r_tI (y := nI (hn (xh x))) ((hR.scr hSc).1) ?_
                refine lv_icmp_ge (tgt := 146) B.1 B.2.1 dX9_log_88 (by decide) (fun c_88 => ?_) (fun c_88 => ?_)
                · have q_88 : (hn (xh x)) ≤ (m % 10) := (nI_leI (by omega) (by omega)).mp c_88
                  refine lv_iinc (v := nI (m + 1)) (lv' := [(4, .int (nI (m + 1))), (3, .int (nI a)), (0, .ref (ad (175))), (1, .int (nI j)), (2, .int (nI z))]) B.1 B.2.1 dX9_log_146 hl (k := 0) rfl (nI_1 _) (by decide) rfl (fun ls hl => ?_)
                  refine lv_goto (tgt := 48) B.1 B.2.1 dX9_log_149 (by decide) ?_
                  exact ih48 (m + 1) a lim q31 F31 (by omega) hl1 hl0 hM_F31 hS_F31 (hSc.qs hq72.1 (by decide)) (by rw [lr_no (by omega) (mayM_wide q_88) j (by omega)] at hres; exact hres) _ _ ls hC (lv_sub hl [0, 1, 2, 3, 4] rfl)
                · have q_88 : ¬ (hn (xh x)) ≤ (m % 10) := fun z => c_88 ((nI_leI (by omega) (by omega)).mpr z)
                  refine lv_aload_n B.1 B.2.1 dX9_log_91 rfl (lv_at hl 2 rfl) ?_
                  refine lv_bipush (v := nI 10) B.1 B.2.1 dX9_log_92 (by decide) ?_
                  refine lv_iload B.1 B.2.1 dX9_log_94 (lv_at hl 0 rfl) ?_
                  refine lv_bipush (v := nI 10) B.1 B.2.1 dX9_log_96 (by decide) ?_
                  refine lv_idiv B.1 B.2.1 dX9_log_98 (by decide) ?_
                  refine r_tI (y := nI (m / 10)) (pk_div (by omega) (by omega) (by omega)) ?_
                  refine lv_iload B.1 B.2.1 dX9_log_99 (lv_at hl 0 rfl) ?_
                  refine lv_bipush (v := nI 10) B.1 B.2.1 dX9_log_101 (by decide) ?_
                  refine lv_irem B.1 B.2.1 dX9_log_103 (by decide) ?_
                  refine r_tI (y := nI (m % 10)) (pk_rem (by omega) (by omega) (by omega)) ?_
                  refine r_calli B hC hl.1 (175) 9 rfl rfl (by decide) hM_F31.1 (As := [.int (nI 10), .int (nI (m / 10)), .int (nI (m % 10))]) (ctX9_goes l g lo ad hM_F31 ok ((hR.scr hSc).qs (hq72.1)) (b := 10) (by decide) hB10 hw (t := m / 10) (p := m % 10) (by omega) (by omega)) gX9_log_X9_goes rfl (n := 3) rfl (by decide +kernel) ⟨Nat.le_of_ble_eq_true rfl, Nat.le_of_ble_eq_true rfl⟩ ⟨Nat.zero_le _, Nat.zero_le _⟩ rfl (Nat.le_of_ble_eq_true rfl) dX9_log_104 (fun r104 F32 H locs hp104 hC => ?_)
                  obtain ⟨q32, hM_F32, hT_F32, hq104, hr104, hbk104⟩ := hp104
                  have hS_F32 : Same 175 196 F F32 := Same.tr2 hS_F31 hT_F32 (by decide) (by decide)
                  refine r_tI (y := bI (mayM (xh x) (xw x) m)) (hr104) ?_
                  refine lv_if_eq (tgt := 146) B.1 B.2.1 dX9_log_107 (by decide) (fun c_107 => ?_) (fun c_107 => ?_)
                  · have q_107 : mayM (xh x) (xw x) m = false := bI_f.mp c_107
                    refine lv_iinc (v := nI (m + 1)) (lv' := [(4, .int (nI (m + 1))), (3, .int (nI a)), (0, .ref (ad (175))), (1, .int (nI j)), (2, .int (nI z))]) B.1 B.2.1 dX9_log_146 hl (k := 0) rfl (nI_1 _) (by decide) rfl (fun ls hl => ?_)
                    refine lv_goto (tgt := 48) B.1 B.2.1 dX9_log_149 (by decide) ?_
                    exact ih48 (m + 1) a lim q32 F32 (by omega) hl1 hl0 hM_F32 hS_F32 ((hSc.qs hq72.1 (by decide)).qs hq104 (by decide)) (by rw [lr_no (by omega) q_107 j (by omega)] at hres; exact hres) _ _ ls hC (lv_sub hl [0, 1, 2, 3, 4] rfl)
                  · have q_107 : mayM (xh x) (xw x) m = true := bI_t.mp c_107
                    have hb1 : BankR (xh x) q32 10 (stepV (xh x) (xw x) m) := by have z := hbk104; rw [show mayV (xh x) (xw x) (m / 10) (m % 10) = true from q_107, if_pos rfl] at z; exact z
                    have hu1 : LOK (xh x) (stepV (xh x) (xw x) m) := LOK_step ok hw (by omega) q_107
                    have hop1 := openTo_le (w := stepV (xh x) (xw x) m) okn
                    refine lv_iload_n B.1 B.2.1 dX9_log_110 rfl (lv_at hl 1 rfl) ?_
                    refine lv_iload_n B.1 B.2.1 dX9_log_111 rfl (lv_at hl 3 rfl) ?_
                    refine lv_iconst (v := nI 2) B.1 B.2.1 dX9_log_112 (by decide) ?_
                    refine lv_icmp_ge (tgt := 134) B.1 B.2.1 dX9_log_113 (by decide) (fun c_113 => ?_) (fun c_113 => ?_)
                    · have q_113 : 2 ≤ j := (nI_leI (by omega) (by omega)).mp c_113
                      refine lv_aload_n B.1 B.2.1 dX9_log_134 rfl (lv_at hl 2 rfl) ?_
                      refine lv_bipush (v := nI 10) B.1 B.2.1 dX9_log_135 (by decide) ?_
                      refine lv_iload_n B.1 B.2.1 dX9_log_137 rfl (lv_at hl 3 rfl) ?_
                      refine lv_iconst (v := nI 1) B.1 B.2.1 dX9_log_138 (by decide) ?_
                      refine lv_isub B.1 B.2.1 dX9_log_139 ?_
                      refine r_tI (y := nI (j - 1)) (pk_sub (by omega)) ?_
                      refine lv_iload_n B.1 B.2.1 dX9_log_140 rfl (lv_at hl 4 rfl) ?_
                      refine r_calli B hC hl.1 (175) 9 rfl rfl (by decide) hM_F32.1 (As := [.int (nI 10), .int (nI (j - 1)), .int (nI z)]) (ctX9_logFrom l g lo ad hM_F32 ok (((hR.scr hSc).qs (hq72.1)).qs (hq104)) (w := (xw x)) (u := stepV (xh x) (xw x) m) (by omega) hz hb1 hu1) gX9_log_X9_logFrom rfl (n := 3) rfl (by decide +kernel) ⟨Nat.le_of_ble_eq_true rfl, Nat.le_of_ble_eq_true rfl⟩ ⟨Nat.zero_le _, Nat.zero_le _⟩ rfl (Nat.le_of_ble_eq_true rfl) dX9_log_141 (fun r141 F33 H locs hp141 hC => ?_)
                      obtain ⟨q33, hM_F33, hT_F33, hq141, hr141⟩ := hp141
                      have hS_F33 : Same 175 196 F F33 := Same.tr2 hS_F32 hT_F33 (by decide) (by decide)
                      refine r_tI (y := nI (logF (xh x) (stepV (xh x) (xw x) m) z (j - 1) 0)) (hr141) ?_
                      refine lv_iadd B.1 B.2.1 dX9_log_144 ?_
                      refine r_tI (y := nI (a + (logF (xh x) (stepV (xh x) (xw x) m) z (j - 1) 0))) (nI_add _ _) ?_
                      refine lv_istore_n (lv' := [(3, .int (nI (a + (logF (xh x) (stepV (xh x) (xw x) m) z (j - 1) 0)))), (4, .int (nI m)), (0, .ref (ad (175))), (1, .int (nI j)), (2, .int (nI z))]) B.1 B.2.1 dX9_log_145 rfl hl (by decide) rfl (fun ls hl => ?_)
                      refine lv_iinc (v := nI (m + 1)) (lv' := [(4, .int (nI (m + 1))), (3, .int (nI (a + (logF (xh x) (stepV (xh x) (xw x) m) z (j - 1) 0)))), (0, .ref (ad (175))), (1, .int (nI j)), (2, .int (nI z))]) B.1 B.2.1 dX9_log_146 hl (k := 1) rfl (nI_1 _) (by decide) rfl (fun ls hl => ?_)
                      refine lv_goto (tgt := 48) B.1 B.2.1 dX9_log_149 (by decide) ?_
                      exact ih48 (m + 1) (a + logF (xh x) (stepV (xh x) (xw x) m) z (j - 1) 0) lim q33 F33 (by omega) hl1 hl0 hM_F33 hS_F33 (((hSc.qs hq72.1 (by decide)).qs hq104 (by decide)).tr hq141) (by rw [lr_2 (by omega) q_107 j q_113 hj3] at hres; omega) _ _ ls hC (lv_sub hl [0, 1, 2, 3, 4] rfl)
                    · have q_113 : ¬ 2 ≤ j := fun z => c_113 ((nI_leI (by omega) (by omega)).mpr z)
                      refine lv_aload_n B.1 B.2.1 dX9_log_116 rfl (lv_at hl 2 rfl) ?_
                      refine lv_bipush (v := nI 10) B.1 B.2.1 dX9_log_117 (by decide) ?_
                      refine r_calli B hC hl.1 (175) 9 rfl rfl (by decide) hM_F32.1 (As := [.int (nI 10)]) (ctX9_openSet l g lo ad hM_F32 ok (((hR.scr hSc).qs (hq72.1)).qs (hq104)) (b := 10) (by decide) hb1 hu1) gX9_log_X9_openSet rfl (n := 1) rfl (by decide +kernel) ⟨Nat.le_of_ble_eq_true rfl, Nat.le_of_ble_eq_true rfl⟩ ⟨Nat.zero_le _, Nat.zero_le _⟩ rfl (Nat.le_of_ble_eq_true rfl) dX9_log_119 (fun r119 F33 H locs hp119 hC => ?_)
                      obtain ⟨er, eF⟩ := hp119
                      subst er
                      rw [eF] at hC
                      refine lv_iload_n B.1 B.2.1 dX9_log_122 rfl (lv_at hl 4 rfl) ?_
                      refine lv_icmp_ne (tgt := 130) B.1 B.2.1 dX9_log_123 (by decide) (fun c_123 => ?_) (fun c_123 => ?_)
                      · have q_123 : ¬ (openTo (stepV (xh x) (xw x) m) (hn (xh x))) = z := fun z => c_123 ((nI_eq (by omega) (by omega)).mpr z)
                        refine lv_iconst (v := nI 0) B.1 B.2.1 dX9_log_130 (by decide) ?_
                        refine lv_goto (tgt := 144) B.1 B.2.1 dX9_log_131 (by decide) ?_
                        refine lv_iadd B.1 B.2.1 dX9_log_144 ?_
                        refine r_tI (y := nI (a + 0)) (nI_add _ _) ?_
                        refine lv_istore_n (lv' := [(3, .int (nI (a + 0))), (4, .int (nI m)), (0, .ref (ad (175))), (1, .int (nI j)), (2, .int (nI z))]) B.1 B.2.1 dX9_log_145 rfl hl (by decide) rfl (fun ls hl => ?_)
                        refine lv_iinc (v := nI (m + 1)) (lv' := [(4, .int (nI (m + 1))), (3, .int (nI (a + 0))), (0, .ref (ad (175))), (1, .int (nI j)), (2, .int (nI z))]) B.1 B.2.1 dX9_log_146 hl (k := 1) rfl (nI_1 _) (by decide) rfl (fun ls hl => ?_)
                        refine lv_goto (tgt := 48) B.1 B.2.1 dX9_log_149 (by decide) ?_
                        exact ih48 (m + 1) (a + 0) lim q32 F32 (by omega) hl1 hl0 hM_F32 hS_F32 ((hSc.qs hq72.1 (by decide)).qs hq104 (by decide)) (by rw [lr_1 (by omega) q_107 (show j = 1 by omega), if_neg q_123] at hres; omega) _ _ ls hC (lv_sub hl [0, 1, 2, 3, 4] rfl)
                      · have q_123 : (openTo (stepV (xh x) (xw x) m) (hn (xh x))) = z := (nI_eq (by omega) (by omega)).mp c_123
                        refine lv_iconst (v := nI 1) B.1 B.2.1 dX9_log_126 (by decide) ?_
                        refine lv_goto (tgt := 144) B.1 B.2.1 dX9_log_127 (by decide) ?_
                        refine lv_iadd B.1 B.2.1 dX9_log_144 ?_
                        refine r_tI (y := nI (a + 1)) (nI_add _ _) ?_
                        refine lv_istore_n (lv' := [(3, .int (nI (a + 1))), (4, .int (nI m)), (0, .ref (ad (175))), (1, .int (nI j)), (2, .int (nI z))]) B.1 B.2.1 dX9_log_145 rfl hl (by decide) rfl (fun ls hl => ?_)
                        refine lv_iinc (v := nI (m + 1)) (lv' := [(4, .int (nI (m + 1))), (3, .int (nI (a + 1))), (0, .ref (ad (175))), (1, .int (nI j)), (2, .int (nI z))]) B.1 B.2.1 dX9_log_146 hl (k := 1) rfl (nI_1 _) (by decide) rfl (fun ls hl => ?_)
                        refine lv_goto (tgt := 48) B.1 B.2.1 dX9_log_149 (by decide) ?_
                        exact ih48 (m + 1) (a + 1) lim q32 F32 (by omega) hl1 hl0 hM_F32 hS_F32 ((hSc.qs hq72.1 (by decide)).qs hq104 (by decide)) (by rw [lr_1 (by omega) q_107 (show j = 1 by omega), if_pos q_123] at hres; omega) _ _ ls hC (lv_sub hl [0, 1, 2, 3, 4] rfl)
            · have q_51 : ¬ j ≤ 0 := fun z => c_51 (nI_le0 (by omega))
              refine lv_bipush (v := nI 10) B.1 B.2.1 dX9_log_54 (by decide) ?_
              refine lv_aload_n B.1 B.2.1 dX9_log_56 rfl (lv_at hl 2 rfl) ?_
              refine r_cg B hC (i := 175) (by decide) hM1.1 (C := RX9) (T := TX9) (n := 35) rfl iwX9_log_X9 12 (by decide) (index := 114) flX9_log_114 rfl (v := .int (c 12)) rfl dX9_log_57 ?_
              refine r_tI (y := nI (hn (xh x))) ((hR.scr hSc).1) ?_
              refine lv_imul B.1 B.2.1 dX9_log_60 ?_
              refine r_tI (y := nI (10 * (hn (xh x)))) (pk_mul _ _) ?_
              refine lv_goto (tgt := 65) B.1 B.2.1 dX9_log_61 (by decide) ?_
              refine lv_icmp_ge (tgt := 152) B.1 B.2.1 dX9_log_65 (by decide) (fun z => absurd z (nI_ge (by omega) (by omega))) (fun _ => ?_)
              refine lv_aload_n B.1 B.2.1 dX9_log_68 rfl (lv_at hl 2 rfl) ?_
              refine lv_iconst (v := nI 0) B.1 B.2.1 dX9_log_69 (by decide) ?_
              refine lv_bipush (v := nI 10) B.1 B.2.1 dX9_log_70 (by decide) ?_
              refine r_callv B hC hl.1 (175) 9 rfl rfl (by decide) hM1.1 (As := [.int (nI 0), .int (nI 10)]) (ctX9_copy l g lo ad hM1 (a := 0) (b := 10) (by decide) (by decide) (Or.inl (by decide))) gX9_log_X9_copy rfl (n := 2) rfl (by decide +kernel) ⟨Nat.le_of_ble_eq_true rfl, Nat.le_of_ble_eq_true rfl⟩ ⟨Nat.zero_le _, Nat.zero_le _⟩ rfl (Nat.le_of_ble_eq_true rfl) dX9_log_72 (fun F31 H locs hp72 hC => ?_)
              obtain ⟨q31, hM_F31, hT_F31, hq72⟩ := hp72
              have hS_F31 : Same 175 196 F F31 := Same.tr2 hS1 hT_F31 (by decide) (by decide)
              have hB10 := hq72.bank okn hB1
              have hop2 := openTo_le (w := xw x) okn
              refine lv_iload_n B.1 B.2.1 dX9_log_75 rfl (lv_at hl 3 rfl) ?_
              refine lv_if_eq (tgt := 110) B.1 B.2.1 dX9_log_76 (by decide) (fun c_76 => ?_) (fun c_76 => ?_)
              · have q_76 : j = 0 := Classical.byContradiction (fun z => nI_ne0 (by omega) (by omega) c_76)
                refine lv_iload_n B.1 B.2.1 dX9_log_110 rfl (lv_at hl 1 rfl) ?_
                refine lv_iload_n B.1 B.2.1 dX9_log_111 rfl (lv_at hl 3 rfl) ?_
                refine lv_iconst (v := nI 2) B.1 B.2.1 dX9_log_112 (by decide) ?_
                refine lv_icmp_ge (tgt := 134) B.1 B.2.1 dX9_log_113 (by decide) (fun z => absurd z (nI_ge (by omega) (by omega))) (fun _ => ?_)
                refine lv_aload_n B.1 B.2.1 dX9_log_116 rfl (lv_at hl 2 rfl) ?_
                refine lv_bipush (v := nI 10) B.1 B.2.1 dX9_log_117 (by decide) ?_
                refine r_calli B hC hl.1 (175) 9 rfl rfl (by decide) hM_F31.1 (As := [.int (nI 10)]) (ctX9_openSet l g lo ad hM_F31 ok ((hR.scr hSc).qs (hq72.1)) (b := 10) (by decide) hB10 hw) gX9_log_X9_openSet rfl (n := 1) rfl (by decide +kernel) ⟨Nat.le_of_ble_eq_true rfl, Nat.le_of_ble_eq_true rfl⟩ ⟨Nat.zero_le _, Nat.zero_le _⟩ rfl (Nat.le_of_ble_eq_true rfl) dX9_log_119 (fun r119 F32 H locs hp119 hC => ?_)
                obtain ⟨er, eF⟩ := hp119
                subst er
                rw [eF] at hC
                refine lv_iload_n B.1 B.2.1 dX9_log_122 rfl (lv_at hl 4 rfl) ?_
                refine lv_icmp_ne (tgt := 130) B.1 B.2.1 dX9_log_123 (by decide) (fun c_123 => ?_) (fun c_123 => ?_)
                · have q_123 : ¬ (openTo (xw x) (hn (xh x))) = z := fun z => c_123 ((nI_eq (by omega) (by omega)).mpr z)
                  refine lv_iconst (v := nI 0) B.1 B.2.1 dX9_log_130 (by decide) ?_
                  refine lv_goto (tgt := 144) B.1 B.2.1 dX9_log_131 (by decide) ?_
                  refine lv_iadd B.1 B.2.1 dX9_log_144 ?_
                  refine r_tI (y := nI (a + 0)) (nI_add _ _) ?_
                  refine lv_istore_n (lv' := [(3, .int (nI (a + 0))), (4, .int (nI m)), (0, .ref (ad (175))), (1, .int (nI j)), (2, .int (nI z))]) B.1 B.2.1 dX9_log_145 rfl hl (by decide) rfl (fun ls hl => ?_)
                  refine lv_iinc (v := nI (m + 1)) (lv' := [(4, .int (nI (m + 1))), (3, .int (nI (a + 0))), (0, .ref (ad (175))), (1, .int (nI j)), (2, .int (nI z))]) B.1 B.2.1 dX9_log_146 hl (k := 1) rfl (nI_1 _) (by decide) rfl (fun ls hl => ?_)
                  refine lv_goto (tgt := 48) B.1 B.2.1 dX9_log_149 (by decide) ?_
                  exact ih48 (m + 1) (a + 0) lim q31 F31 (by omega) hl1 hl0 hM_F31 hS_F31 (hSc.qs hq72.1 (by decide)) (lr_0 q_76 (by omega) (if_neg q_123) hres) _ _ ls hC (lv_sub hl [0, 1, 2, 3, 4] rfl)
                · have q_123 : (openTo (xw x) (hn (xh x))) = z := (nI_eq (by omega) (by omega)).mp c_123
                  refine lv_iconst (v := nI 1) B.1 B.2.1 dX9_log_126 (by decide) ?_
                  refine lv_goto (tgt := 144) B.1 B.2.1 dX9_log_127 (by decide) ?_
                  refine lv_iadd B.1 B.2.1 dX9_log_144 ?_
                  refine r_tI (y := nI (a + 1)) (nI_add _ _) ?_
                  refine lv_istore_n (lv' := [(3, .int (nI (a + 1))), (4, .int (nI m)), (0, .ref (ad (175))), (1, .int (nI j)), (2, .int (nI z))]) B.1 B.2.1 dX9_log_145 rfl hl (by decide) rfl (fun ls hl => ?_)
                  refine lv_iinc (v := nI (m + 1)) (lv' := [(4, .int (nI (m + 1))), (3, .int (nI (a + 1))), (0, .ref (ad (175))), (1, .int (nI j)), (2, .int (nI z))]) B.1 B.2.1 dX9_log_146 hl (k := 1) rfl (nI_1 _) (by decide) rfl (fun ls hl => ?_)
                  refine lv_goto (tgt := 48) B.1 B.2.1 dX9_log_149 (by decide) ?_
                  exact ih48 (m + 1) (a + 1) lim q31 F31 (by omega) hl1 hl0 hM_F31 hS_F31 (hSc.qs hq72.1 (by decide)) (lr_0 q_76 (by omega) (if_pos q_123) hres) _ _ ls hC (lv_sub hl [0, 1, 2, 3, 4] rfl)
              · have q_76 : ¬ j = 0 := fun z => c_76 (nI_eq0 z)
                refine lv_iload B.1 B.2.1 dX9_log_79 (lv_at hl 0 rfl) ?_
                refine lv_bipush (v := nI 10) B.1 B.2.1 dX9_log_81 (by decide) ?_
                refine lv_irem B.1 B.2.1 dX9_log_83 (by decide) ?_
                refine r_tI (y := nI (m % 10)) (pk_rem (by omega) (by omega) (by omega)) ?_
                refine lv_aload_n B.1 B.2.1 dX9_log_84 rfl (lv_at hl 2 rfl) ?_
                refine r_cg B hC (i := 175) (by decide) hM_F31.1 (C := RX9) (T := TX9) (n := 35) rfl iwX9_log_X9 12 (by decide) (index := 114) flX9_log_114 rfl (v := .int (c 12)) rfl dX9_log_85 ?_
                refine r_tI (y := nI (hn (xh x))) ((hR.scr hSc).1) ?_
                refine lv_icmp_ge (tgt := 146) B.1 B.2.1 dX9_log_88 (by decide) (fun c_88 => ?_) (fun c_88 => ?_)
                · have q_88 : (hn (xh x)) ≤ (m % 10) := (nI_leI (by omega) (by omega)).mp c_88
                  refine lv_iinc (v := nI (m + 1)) (lv' := [(4, .int (nI (m + 1))), (3, .int (nI a)), (0, .ref (ad (175))), (1, .int (nI j)), (2, .int (nI z))]) B.1 B.2.1 dX9_log_146 hl (k := 0) rfl (nI_1 _) (by decide) rfl (fun ls hl => ?_)
                  refine lv_goto (tgt := 48) B.1 B.2.1 dX9_log_149 (by decide) ?_
                  exact ih48 (m + 1) a lim q31 F31 (by omega) hl1 hl0 hM_F31 hS_F31 (hSc.qs hq72.1 (by decide)) (by rw [lr_no (by omega) (mayM_wide q_88) j (by omega)] at hres; exact hres) _ _ ls hC (lv_sub hl [0, 1, 2, 3, 4] rfl)
                · have q_88 : ¬ (hn (xh x)) ≤ (m % 10) := fun z => c_88 ((nI_leI (by omega) (by omega)).mpr z)
                  refine lv_aload_n B.1 B.2.1 dX9_log_91 rfl (lv_at hl 2 rfl) ?_
                  refine lv_bipush (v := nI 10) B.1 B.2.1 dX9_log_92 (by decide) ?_
                  refine lv_iload B.1 B.2.1 dX9_log_94 (lv_at hl 0 rfl) ?_
                  refine lv_bipush (v := nI 10) B.1 B.2.1 dX9_log_96 (by decide) ?_
                  refine lv_idiv B.1 B.2.1 dX9_log_98 (by decide) ?_
                  refine r_tI (y := nI (m / 10)) (pk_div (by omega) (by omega) (by omega)) ?_
                  refine lv_iload B.1 B.2.1 dX9_log_99 (lv_at hl 0 rfl) ?_
                  refine lv_bipush (v := nI 10) B.1 B.2.1 dX9_log_101 (by decide) ?_
                  refine lv_irem B.1 B.2.1 dX9_log_103 (by decide) ?_
                  refine r_tI (y := nI (m % 10)) (pk_rem (by omega) (by omega) (by omega)) ?_
                  refine r_calli B hC hl.1 (175) 9 rfl rfl (by decide) hM_F31.1 (As := [.int (nI 10), .int (nI (m / 10)), .int (nI (m % 10))]) (ctX9_goes l g lo ad hM_F31 ok ((hR.scr hSc).qs (hq72.1)) (b := 10) (by decide) hB10 hw (t := m / 10) (p := m % 10) (by omega) (by omega)) gX9_log_X9_goes rfl (n := 3) rfl (by decide +kernel) ⟨Nat.le_of_ble_eq_true rfl, Nat.le_of_ble_eq_true rfl⟩ ⟨Nat.zero_le _, Nat.zero_le _⟩ rfl (Nat.le_of_ble_eq_true rfl) dX9_log_104 (fun r104 F32 H locs hp104 hC => ?_)
                  obtain ⟨q32, hM_F32, hT_F32, hq104, hr104, hbk104⟩ := hp104
                  have hS_F32 : Same 175 196 F F32 := Same.tr2 hS_F31 hT_F32 (by decide) (by decide)
                  refine r_tI (y := bI (mayM (xh x) (xw x) m)) (hr104) ?_
                  refine lv_if_eq (tgt := 146) B.1 B.2.1 dX9_log_107 (by decide) (fun c_107 => ?_) (fun c_107 => ?_)
                  · have q_107 : mayM (xh x) (xw x) m = false := bI_f.mp c_107
                    refine lv_iinc (v := nI (m + 1)) (lv' := [(4, .int (nI (m + 1))), (3, .int (nI a)), (0, .ref (ad (175))), (1, .int (nI j)), (2, .int (nI z))]) B.1 B.2.1 dX9_log_146 hl (k := 0) rfl (nI_1 _) (by decide) rfl (fun ls hl => ?_)
                    refine lv_goto (tgt := 48) B.1 B.2.1 dX9_log_149 (by decide) ?_
                    exact ih48 (m + 1) a lim q32 F32 (by omega) hl1 hl0 hM_F32 hS_F32 ((hSc.qs hq72.1 (by decide)).qs hq104 (by decide)) (by rw [lr_no (by omega) q_107 j (by omega)] at hres; exact hres) _ _ ls hC (lv_sub hl [0, 1, 2, 3, 4] rfl)
                  · have q_107 : mayM (xh x) (xw x) m = true := bI_t.mp c_107
                    have hb1 : BankR (xh x) q32 10 (stepV (xh x) (xw x) m) := by have z := hbk104; rw [show mayV (xh x) (xw x) (m / 10) (m % 10) = true from q_107, if_pos rfl] at z; exact z
                    have hu1 : LOK (xh x) (stepV (xh x) (xw x) m) := LOK_step ok hw (by omega) q_107
                    have hop1 := openTo_le (w := stepV (xh x) (xw x) m) okn
                    refine lv_iload_n B.1 B.2.1 dX9_log_110 rfl (lv_at hl 1 rfl) ?_
                    refine lv_iload_n B.1 B.2.1 dX9_log_111 rfl (lv_at hl 3 rfl) ?_
                    refine lv_iconst (v := nI 2) B.1 B.2.1 dX9_log_112 (by decide) ?_
                    refine lv_icmp_ge (tgt := 134) B.1 B.2.1 dX9_log_113 (by decide) (fun c_113 => ?_) (fun c_113 => ?_)
                    · have q_113 : 2 ≤ j := (nI_leI (by omega) (by omega)).mp c_113
                      refine lv_aload_n B.1 B.2.1 dX9_log_134 rfl (lv_at hl 2 rfl) ?_
                      refine lv_bipush (v := nI 10) B.1 B.2.1 dX9_log_135 (by decide) ?_
                      refine lv_iload_n B.1 B.2.1 dX9_log_137 rfl (lv_at hl 3 rfl) ?_
                      refine lv_iconst (v := nI 1) B.1 B.2.1 dX9_log_138 (by decide) ?_
                      refine lv_isub B.1 B.2.1 dX9_log_139 ?_
                      refine r_tI (y := nI (j - 1)) (pk_sub (by omega)) ?_
                      refine lv_iload_n B.1 B.2.1 dX9_log_140 rfl (lv_at hl 4 rfl) ?_
                      refine r_calli B hC hl.1 (175) 9 rfl rfl (by decide) hM_F32.1 (As := [.int (nI 10), .int (nI (j - 1)), .int (nI z)]) (ctX9_logFrom l g lo ad hM_F32 ok (((hR.scr hSc).qs (hq72.1)).qs (hq104)) (w := (xw x)) (u := stepV (xh x) (xw x) m) (by omega) hz hb1 hu1) gX9_log_X9_logFrom rfl (n := 3) rfl (by decide +kernel) ⟨Nat.le_of_ble_eq_true rfl, Nat.le_of_ble_eq_true rfl⟩ ⟨Nat.zero_le _, Nat.zero_le _⟩ rfl (Nat.le_of_ble_eq_true rfl) dX9_log_141 (fun r141 F33 H locs hp141 hC => ?_)
                      obtain ⟨q33, hM_F33, hT_F33, hq141, hr141⟩ := hp141
                      have hS_F33 : Same 175 196 F F33 := Same.tr2 hS_F32 hT_F33 (by decide) (by decide)
                      refine r_tI (y := nI (logF (xh x) (stepV (xh x) (xw x) m) z (j - 1) 0)) (hr141) ?_
                      refine lv_iadd B.1 B.2.1 dX9_log_144 ?_
                      refine r_tI (y := nI (a + (logF (xh x) (stepV (xh x) (xw x) m) z (j - 1) 0))) (nI_add _ _) ?_
                      refine lv_istore_n (lv' := [(3, .int (nI (a + (logF (xh x) (stepV (xh x) (xw x) m) z (j - 1) 0)))), (4, .int (nI m)), (0, .ref (ad (175))), (1, .int (nI j)), (2, .int (nI z))]) B.1 B.2.1 dX9_log_145 rfl hl (by decide) rfl (fun ls hl => ?_)
                      refine lv_iinc (v := nI (m + 1)) (lv' := [(4, .int (nI (m + 1))), (3, .int (nI (a + (logF (xh x) (stepV (xh x) (xw x) m) z (j - 1) 0)))), (0, .ref (ad (175))), (1, .int (nI j)), (2, .int (nI z))]) B.1 B.2.1 dX9_log_146 hl (k := 1) rfl (nI_1 _) (by decide) rfl (fun ls hl => ?_)
                      refine lv_goto (tgt := 48) B.1 B.2.1 dX9_log_149 (by decide) ?_
                      exact ih48 (m + 1) (a + logF (xh x) (stepV (xh x) (xw x) m) z (j - 1) 0) lim q33 F33 (by omega) hl1 hl0 hM_F33 hS_F33 (((hSc.qs hq72.1 (by decide)).qs hq104 (by decide)).tr hq141) (by rw [lr_2 (by omega) q_107 j q_113 hj3] at hres; omega) _ _ ls hC (lv_sub hl [0, 1, 2, 3, 4] rfl)
                    · have q_113 : ¬ 2 ≤ j := fun z => c_113 ((nI_leI (by omega) (by omega)).mpr z)
                      refine lv_aload_n B.1 B.2.1 dX9_log_116 rfl (lv_at hl 2 rfl) ?_
                      refine lv_bipush (v := nI 10) B.1 B.2.1 dX9_log_117 (by decide) ?_
                      refine r_calli B hC hl.1 (175) 9 rfl rfl (by decide) hM_F32.1 (As := [.int (nI 10)]) (ctX9_openSet l g lo ad hM_F32 ok (((hR.scr hSc).qs (hq72.1)).qs (hq104)) (b := 10) (by decide) hb1 hu1) gX9_log_X9_openSet rfl (n := 1) rfl (by decide +kernel) ⟨Nat.le_of_ble_eq_true rfl, Nat.le_of_ble_eq_true rfl⟩ ⟨Nat.zero_le _, Nat.zero_le _⟩ rfl (Nat.le_of_ble_eq_true rfl) dX9_log_119 (fun r119 F33 H locs hp119 hC => ?_)
                      obtain ⟨er, eF⟩ := hp119
                      subst er
                      rw [eF] at hC
                      refine lv_iload_n B.1 B.2.1 dX9_log_122 rfl (lv_at hl 4 rfl) ?_
                      refine lv_icmp_ne (tgt := 130) B.1 B.2.1 dX9_log_123 (by decide) (fun c_123 => ?_) (fun c_123 => ?_)
                      · have q_123 : ¬ (openTo (stepV (xh x) (xw x) m) (hn (xh x))) = z := fun z => c_123 ((nI_eq (by omega) (by omega)).mpr z)
                        refine lv_iconst (v := nI 0) B.1 B.2.1 dX9_log_130 (by decide) ?_
                        refine lv_goto (tgt := 144) B.1 B.2.1 dX9_log_131 (by decide) ?_
                        refine lv_iadd B.1 B.2.1 dX9_log_144 ?_
                        refine r_tI (y := nI (a + 0)) (nI_add _ _) ?_
                        refine lv_istore_n (lv' := [(3, .int (nI (a + 0))), (4, .int (nI m)), (0, .ref (ad (175))), (1, .int (nI j)), (2, .int (nI z))]) B.1 B.2.1 dX9_log_145 rfl hl (by decide) rfl (fun ls hl => ?_)
                        refine lv_iinc (v := nI (m + 1)) (lv' := [(4, .int (nI (m + 1))), (3, .int (nI (a + 0))), (0, .ref (ad (175))), (1, .int (nI j)), (2, .int (nI z))]) B.1 B.2.1 dX9_log_146 hl (k := 1) rfl (nI_1 _) (by decide) rfl (fun ls hl => ?_)
                        refine lv_goto (tgt := 48) B.1 B.2.1 dX9_log_149 (by decide) ?_
                        exact ih48 (m + 1) (a + 0) lim q32 F32 (by omega) hl1 hl0 hM_F32 hS_F32 ((hSc.qs hq72.1 (by decide)).qs hq104 (by decide)) (by rw [lr_1 (by omega) q_107 (show j = 1 by omega), if_neg q_123] at hres; omega) _ _ ls hC (lv_sub hl [0, 1, 2, 3, 4] rfl)
                      · have q_123 : (openTo (stepV (xh x) (xw x) m) (hn (xh x))) = z := (nI_eq (by omega) (by omega)).mp c_123
                        refine lv_iconst (v := nI 1) B.1 B.2.1 dX9_log_126 (by decide) ?_
                        refine lv_goto (tgt := 144) B.1 B.2.1 dX9_log_127 (by decide) ?_
                        refine lv_iadd B.1 B.2.1 dX9_log_144 ?_
                        refine r_tI (y := nI (a + 1)) (nI_add _ _) ?_
                        refine lv_istore_n (lv' := [(3, .int (nI (a + 1))), (4, .int (nI m)), (0, .ref (ad (175))), (1, .int (nI j)), (2, .int (nI z))]) B.1 B.2.1 dX9_log_145 rfl hl (by decide) rfl (fun ls hl => ?_)
                        refine lv_iinc (v := nI (m + 1)) (lv' := [(4, .int (nI (m + 1))), (3, .int (nI (a + 1))), (0, .ref (ad (175))), (1, .int (nI j)), (2, .int (nI z))]) B.1 B.2.1 dX9_log_146 hl (k := 1) rfl (nI_1 _) (by decide) rfl (fun ls hl => ?_)
                        refine lv_goto (tgt := 48) B.1 B.2.1 dX9_log_149 (by decide) ?_
                        exact ih48 (m + 1) (a + 1) lim q32 F32 (by omega) hl1 hl0 hM_F32 hS_F32 ((hSc.qs hq72.1 (by decide)).qs hq104 (by decide)) (by rw [lr_1 (by omega) q_107 (show j = 1 by omega), if_pos q_123] at hres; omega) _ _ ls hC (lv_sub hl [0, 1, 2, 3, 4] rfl)
        exact loop48 (if j = 0 then 1 else 10 * hn (xh x)) 0 0 _ q F (Nat.zero_add _) (fun e => if_neg (by omega)) (fun e => if_pos e) hM hS Scr.rf (Nat.zero_add _) _ _ ls hC (lv_sub hl [0, 1, 2, 3, 4] rfl)
      · have q_37 : (su (xw x)) = true := bI_t.mp c_37
        refine lv_bipush (v := (-3)) B.1 B.2.1 dX9_log_40 (by decide) ?_
        exact r_eI B hC (v := (-3)) (⟨by rw [logA, if_pos ⟨q_9, q_27⟩, if_pos q_37], ⟨_, _, _, hM, hX⟩, hS⟩) dX9_log_42
    · have q_9 : ¬ (is03 k = true ∧ isQ (xh x) q_ = true) := fun z => by rw [← inB_q ok, bI_f.mp c_27] at z; cases z.2
      refine lv_bipush (v := (-2)) B.1 B.2.1 dX9_log_30 (by decide) ?_
      exact r_eI B hC (v := (-2)) (⟨by rw [logA, if_neg q_9], ⟨_, _, _, hM, hX⟩, hS⟩) dX9_log_32
