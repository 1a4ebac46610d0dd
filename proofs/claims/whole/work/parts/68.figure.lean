/-! THE REFERENCE: figure -/
theorem iwX9_figure_X9 : ∀ w ∈ u_ws RX9 TX9 35, w ∈ wsX9_figure := by decide +kernel
theorem flX9_figure_37 : Cond.fieldLink RX9 37 RX9 (TX9 15).2.1 (TX9 15).2.2.1 ∈ wsX9_figure := by decide +kernel
theorem flX9_figure_82 : Cond.fieldLink RX9 82 RX9 (TX9 16).2.1 (TX9 16).2.2.1 ∈ wsX9_figure := by decide +kernel
theorem flX9_figure_87 : Cond.fieldLink RX9 87 RX9 (TX9 18).2.1 (TX9 18).2.2.1 ∈ wsX9_figure := by decide +kernel
theorem flX9_figure_90 : Cond.fieldLink RX9 90 RX9 (TX9 17).2.1 (TX9 17).2.2.1 ∈ wsX9_figure := by decide +kernel
set_option maxHeartbeats 4000000 in
set_option maxRecDepth 100000 in
theorem ctX9_figure (l : Launch) (g : Gx) (lo : Nat) (ad : Nat → Nat) {F : Nat → va_E} {c : Nat → Int32} {q : Nat → Nat → Int32} {sm : Nat → Int64} (hM : MC g ad F c q sm) {v : TV} (ok : TOK v) (hT : TextR v c q) {z : RS} {a m : Nat} (hs : SR v z c) (ha : a ≤ 9) (hm : m ≤ 10) : MI l g lo 196 ad yX9_figure wsX9_figure 1 25 [.ref (ad (175)), .int (nI a), .int (nI m - nI 1)] F (fun r F' => ∃ c', MC g ad F' c' q sm ∧ Same 175 196 F F' ∧ CQ [17, 18] [] c c' q q ∧ r = nI (fgV v z a m) ∧ SR v (fgS v z a m) c') := by
  have okt := ok.1
  have hS : Same 175 196 F F := Same.rf
  have hz2 := hs.2.2.1
  have hz9 : ∀ k, z.1 = some k → k < 2 ^ 31 := fun k hk => Nat.lt_of_le_of_lt (hs.2.2.2 k hk) (by omega)
  refine enter (cc := cX9_figure) (maxL := 4) (ret := some .int) (own := RX9) (by decide +kernel) rfl rfl (Nat.le_of_ble_eq_true rfl) ?_
  intro pp ee ss mm below meth cc B hini hC ls hl
  have hl : lv_has ls 4 [(0, .ref (ad (175))), (1, .int (nI a)), (2, .int (nI m - nI 1))] := hl
  refine lv_aload_n B.1 B.2.1 dX9_figure_0 rfl (lv_at hl 0 rfl) ?_
  refine r_cg B hC (i := 175) (by decide) hM.1 (C := RX9) (T := TX9) (n := 35) rfl iwX9_figure_X9 18 (by decide) (index := 87) flX9_figure_87 rfl (v := .int (c 18)) rfl dX9_figure_1 ?_
  refine r_tI (y := oI z.1) (hs.1) ?_
  refine lv_bipush (v := (-9)) B.1 B.2.1 dX9_figure_4 (by decide) ?_
  refine lv_icmp_ne (tgt := 35) B.1 B.2.1 dX9_figure_6 (by decide) (fun c_6 => ?_) (fun c_6 => ?_)
  · have q_6 : ¬ z.1 = none := fun y => c_6 ((oI_9 hz9).mpr y)
    refine lv_iconst (v := (-1)) B.1 B.2.1 dX9_figure_35 (by decide) ?_
    refine lv_istore_n (lv' := [(3, .int ((-1))), (0, .ref (ad (175))), (1, .int (nI a)), (2, .int (nI m - nI 1))]) B.1 B.2.1 dX9_figure_36 rfl hl (by decide) rfl (fun ls hl => ?_)
    refine lv_iload_n B.1 B.2.1 dX9_figure_37 rfl (lv_at hl 0 rfl) ?_
    refine lv_i2l (v := Int32.toInt64 ((-1))) B.1 B.2.1 dX9_figure_38 (rfl) ?_
    refine lv_iload_n B.1 B.2.1 dX9_figure_39 rfl (lv_at hl 2 rfl) ?_
    refine lv_i2l (v := Int32.toInt64 (nI a)) B.1 B.2.1 dX9_figure_40 (rfl) ?_
    refine lv_iload_n B.1 B.2.1 dX9_figure_41 rfl (lv_at hl 3 rfl) ?_
    refine lv_i2l (v := Int32.toInt64 (nI m - nI 1)) B.1 B.2.1 dX9_figure_42 (rfl) ?_
    refine r_scalli B hC hl.1 (As := [.long (Int32.toInt64 ((-1))), .long (Int32.toInt64 (nI a)), .long (Int32.toInt64 (nI m - nI 1))]) (ctX9_in l g lo ad (v := Int32.toInt64 ((-1))) (a := Int32.toInt64 (nI a)) (b := Int32.toInt64 (nI m - nI 1))) gX9_figure_X9_in rfl (n := 3) rfl (by decide +kernel) ⟨Nat.le_of_ble_eq_true rfl, Nat.le_of_ble_eq_true rfl⟩ ⟨Nat.zero_le _, Nat.zero_le _⟩ rfl (Nat.le_of_ble_eq_true rfl) dX9_figure_43 (fun r43 F1 H locs hp43 hC => ?_)
    obtain ⟨er, eF⟩ := hp43
    subst er
    rw [eF] at hC
    refine lv_if_ne (tgt := 75) B.1 B.2.1 dX9_figure_46 (by decide) (fun z => absurd (bI_f.mpr (in_m1 ha _)) z) (fun _ => ?_)
    refine lv_aload_n B.1 B.2.1 dX9_figure_49 rfl (lv_at hl 1 rfl) ?_
    refine lv_aload_n B.1 B.2.1 dX9_figure_50 rfl (lv_at hl 1 rfl) ?_
    refine r_cg B hC (i := 175) (by decide) hM.1 (C := RX9) (T := TX9) (n := 35) rfl iwX9_figure_X9 18 (by decide) (index := 87) flX9_figure_87 rfl (v := .int (c 18)) rfl dX9_figure_51 ?_
    refine r_tI (y := oI z.1) (hs.1) ?_
    refine lv_bipush (v := (-9)) B.1 B.2.1 dX9_figure_54 (by decide) ?_
    refine lv_icmp_ne (tgt := 66) B.1 B.2.1 dX9_figure_56 (by decide) (fun _ => ?_) (fun z => absurd z (fun y => q_6 ((oI_9 hz9).mp y)))
    refine lv_aload_n B.1 B.2.1 dX9_figure_66 rfl (lv_at hl 1 rfl) ?_
    refine r_cg B hC (i := 175) (by decide) hM.1 (C := RX9) (T := TX9) (n := 35) rfl iwX9_figure_X9 18 (by decide) (index := 87) flX9_figure_87 rfl (v := .int (c 18)) rfl dX9_figure_67 ?_
    refine r_tI (y := oI z.1) (hs.1) ?_
    obtain ⟨c1, ec1⟩ : ∃ f, f = va_up c 18 (oI z.1) := ⟨_, rfl⟩
    refine r_cp B hC (i := 175) (by decide) hM.1 tyX9 tyX9_ok nmX9 (C := RX9) (T := TX9) rfl iwX9_figure_X9 18 (by decide) (index := 87) flX9_figure_87 rfl rfl (v := .int (oI z.1)) (rfl) (rfl) (Nat.le_of_ble_eq_true rfl) dX9_figure_70 ?_
    intro H locs hC
    obtain ⟨F1, eF1⟩ : ∃ f, f = va_up F 175 (mObj ad c1) := ⟨_, rfl⟩
    have hC : Cu g lo 196 ad F1 ss ss.heap H locs := by rw [eF1, ec1]; exact hC
    have hM_F1 : MC g ad F1 c1 q sm := hM.fld eF1
    have cv16_F1 : c1 16 = nI (tn v) := by rw [ec1, va_up_ne _ _ (by decide)]; exact hT.1
    have cv17_F1 : c1 17 = nI z.2 := by rw [ec1, va_up_ne _ _ (by decide)]; exact hs.2.1
    have cv18_F1 : c1 18 = oI z.1 := by rw [ec1, va_up_self]
    have hS_F1 : Same 175 196 F F1 := by rw [eF1]; exact hS.up (by decide) (by decide)
    refine lv_iconst (v := nI 0) B.1 B.2.1 dX9_figure_73 (by decide) ?_
    exact r_eI B hC (v := nI 0) (⟨_, hM_F1, hS_F1, ((CQ.rf (A := [17, 18]) (B := [])).uc ec1 (by decide)), by rw [fgV, if_neg (by rw [(show fgG v z a m = false by rw [fgG, decide_eq_false q_6]; rfl)]; decide)], sr_no (show fgG v z a m = false by rw [fgG, decide_eq_false q_6]; rfl) hs (cv18_F1.trans (by unfold fgF; cases hz : z.1 with | none => exact absurd hz q_6 | some k => rfl)) cv17_F1⟩) dX9_figure_74
  · have q_6 : z.1 = none := (oI_9 hz9).mp c_6
    refine lv_aload_n B.1 B.2.1 dX9_figure_9 rfl (lv_at hl 0 rfl) ?_
    refine r_cg B hC (i := 175) (by decide) hM.1 (C := RX9) (T := TX9) (n := 35) rfl iwX9_figure_X9 17 (by decide) (index := 90) flX9_figure_90 rfl (v := .int (c 17)) rfl dX9_figure_10 ?_
    refine r_tI (y := nI z.2) (hs.2.1) ?_
    refine lv_aload_n B.1 B.2.1 dX9_figure_13 rfl (lv_at hl 0 rfl) ?_
    refine r_cg B hC (i := 175) (by decide) hM.1 (C := RX9) (T := TX9) (n := 35) rfl iwX9_figure_X9 16 (by decide) (index := 82) flX9_figure_82 rfl (v := .int (c 16)) rfl dX9_figure_14 ?_
    refine r_tI (y := nI (tn v)) (hT.1) ?_
    refine lv_icmp_ge (tgt := 35) B.1 B.2.1 dX9_figure_17 (by decide) (fun c_17 => ?_) (fun c_17 => ?_)
    · have q_17 : (tn v) ≤ z.2 := (nI_leI (by omega) (by omega)).mp c_17
      refine lv_iconst (v := (-1)) B.1 B.2.1 dX9_figure_35 (by decide) ?_
      refine lv_istore_n (lv' := [(3, .int ((-1))), (0, .ref (ad (175))), (1, .int (nI a)), (2, .int (nI m - nI 1))]) B.1 B.2.1 dX9_figure_36 rfl hl (by decide) rfl (fun ls hl => ?_)
      refine lv_iload_n B.1 B.2.1 dX9_figure_37 rfl (lv_at hl 0 rfl) ?_
      refine lv_i2l (v := Int32.toInt64 ((-1))) B.1 B.2.1 dX9_figure_38 (rfl) ?_
      refine lv_iload_n B.1 B.2.1 dX9_figure_39 rfl (lv_at hl 2 rfl) ?_
      refine lv_i2l (v := Int32.toInt64 (nI a)) B.1 B.2.1 dX9_figure_40 (rfl) ?_
      refine lv_iload_n B.1 B.2.1 dX9_figure_41 rfl (lv_at hl 3 rfl) ?_
      refine lv_i2l (v := Int32.toInt64 (nI m - nI 1)) B.1 B.2.1 dX9_figure_42 (rfl) ?_
      refine r_scalli B hC hl.1 (As := [.long (Int32.toInt64 ((-1))), .long (Int32.toInt64 (nI a)), .long (Int32.toInt64 (nI m - nI 1))]) (ctX9_in l g lo ad (v := Int32.toInt64 ((-1))) (a := Int32.toInt64 (nI a)) (b := Int32.toInt64 (nI m - nI 1))) gX9_figure_X9_in rfl (n := 3) rfl (by decide +kernel) ⟨Nat.le_of_ble_eq_true rfl, Nat.le_of_ble_eq_true rfl⟩ ⟨Nat.zero_le _, Nat.zero_le _⟩ rfl (Nat.le_of_ble_eq_true rfl) dX9_figure_43 (fun r43 F1 H locs hp43 hC => ?_)
      obtain ⟨er, eF⟩ := hp43
      subst er
      rw [eF] at hC
      refine lv_if_ne (tgt := 75) B.1 B.2.1 dX9_figure_46 (by decide) (fun z => absurd (bI_f.mpr (in_m1 ha _)) z) (fun _ => ?_)
      refine lv_aload_n B.1 B.2.1 dX9_figure_49 rfl (lv_at hl 1 rfl) ?_
      refine lv_aload_n B.1 B.2.1 dX9_figure_50 rfl (lv_at hl 1 rfl) ?_
      refine r_cg B hC (i := 175) (by decide) hM.1 (C := RX9) (T := TX9) (n := 35) rfl iwX9_figure_X9 18 (by decide) (index := 87) flX9_figure_87 rfl (v := .int (c 18)) rfl dX9_figure_51 ?_
      refine r_tI (y := oI z.1) (hs.1) ?_
      refine lv_bipush (v := (-9)) B.1 B.2.1 dX9_figure_54 (by decide) ?_
      refine lv_icmp_ne (tgt := 66) B.1 B.2.1 dX9_figure_56 (by decide) (fun z => absurd ((oI_9 hz9).mpr q_6) z) (fun _ => ?_)
      refine lv_aload_n B.1 B.2.1 dX9_figure_59 rfl (lv_at hl 1 rfl) ?_
      refine r_cg B hC (i := 175) (by decide) hM.1 (C := RX9) (T := TX9) (n := 35) rfl iwX9_figure_X9 17 (by decide) (index := 90) flX9_figure_90 rfl (v := .int (c 17)) rfl dX9_figure_60 ?_
      refine r_tI (y := nI z.2) (hs.2.1) ?_
      refine lv_goto (tgt := 70) B.1 B.2.1 dX9_figure_63 (by decide) ?_
      obtain ⟨c1, ec1⟩ : ∃ f, f = va_up c 18 (nI z.2) := ⟨_, rfl⟩
      refine r_cp B hC (i := 175) (by decide) hM.1 tyX9 tyX9_ok nmX9 (C := RX9) (T := TX9) rfl iwX9_figure_X9 18 (by decide) (index := 87) flX9_figure_87 rfl rfl (v := .int (nI z.2)) (rfl) (rfl) (Nat.le_of_ble_eq_true rfl) dX9_figure_70 ?_
      intro H locs hC
      obtain ⟨F1, eF1⟩ : ∃ f, f = va_up F 175 (mObj ad c1) := ⟨_, rfl⟩
      have hC : Cu g lo 196 ad F1 ss ss.heap H locs := by rw [eF1, ec1]; exact hC
      have hM_F1 : MC g ad F1 c1 q sm := hM.fld eF1
      have cv16_F1 : c1 16 = nI (tn v) := by rw [ec1, va_up_ne _ _ (by decide)]; exact hT.1
      have cv17_F1 : c1 17 = nI z.2 := by rw [ec1, va_up_ne _ _ (by decide)]; exact hs.2.1
      have cv18_F1 : c1 18 = nI z.2 := by rw [ec1, va_up_self]
      have hS_F1 : Same 175 196 F F1 := by rw [eF1]; exact hS.up (by decide) (by decide)
      refine lv_iconst (v := nI 0) B.1 B.2.1 dX9_figure_73 (by decide) ?_
      exact r_eI B hC (v := nI 0) (⟨_, hM_F1, hS_F1, ((CQ.rf (A := [17, 18]) (B := [])).uc ec1 (by decide)), by rw [fgV, if_neg (by rw [(show fgG v z a m = false by rw [fgG, show isFig v z.2 a m = false from (by unfold isFig tat; rw [if_neg (by omega)])]; simp)]; decide)], sr_no (show fgG v z a m = false by rw [fgG, show isFig v z.2 a m = false from (by unfold isFig tat; rw [if_neg (by omega)])]; simp) hs (cv18_F1.trans (by unfold fgF; rw [q_6]; rfl)) cv17_F1⟩) dX9_figure_74
    · have q_17 : ¬ (tn v) ≤ z.2 := fun z => c_17 ((nI_leI (by omega) (by omega)).mpr z)
      refine lv_aload_n B.1 B.2.1 dX9_figure_20 rfl (lv_at hl 0 rfl) ?_
      refine r_cg B hC (i := 175) (by decide) hM.1 (C := RX9) (T := TX9) (n := 35) rfl iwX9_figure_X9 15 (by decide) (index := 37) flX9_figure_37 rfl (v := .ref (ad (185))) rfl dX9_figure_21 ?_
      refine lv_aload_n B.1 B.2.1 dX9_figure_24 rfl (lv_at hl 0 rfl) ?_
      refine r_cg B hC (i := 175) (by decide) hM.1 (C := RX9) (T := TX9) (n := 35) rfl iwX9_figure_X9 17 (by decide) (index := 90) flX9_figure_90 rfl (v := .int (c 17)) rfl dX9_figure_25 ?_
      refine r_tI (y := nI z.2) (hs.2.1) ?_
      refine r_cald B hC (i := 185) (by decide) hM.c185 (j := z.2) (by omega) (by decide) dX9_figure_28 ?_
      refine r_tI (y := q 185 z.2) rfl ?_
      refine r_tI (y := nI (tb v z.2)) (hT.2 z.2 (by omega)) ?_
      refine lv_bipush (v := nI 48) B.1 B.2.1 dX9_figure_29 (by decide) ?_
      refine lv_isub B.1 B.2.1 dX9_figure_31 ?_
      refine r_tI (y := (nI (tb v z.2)) - (nI 48)) (rfl) ?_
      refine lv_goto (tgt := 36) B.1 B.2.1 dX9_figure_32 (by decide) ?_
      refine lv_istore_n (lv' := [(3, .int ((nI (tb v z.2)) - (nI 48))), (0, .ref (ad (175))), (1, .int (nI a)), (2, .int (nI m - nI 1))]) B.1 B.2.1 dX9_figure_36 rfl hl (by decide) rfl (fun ls hl => ?_)
      refine lv_iload_n B.1 B.2.1 dX9_figure_37 rfl (lv_at hl 0 rfl) ?_
      refine lv_i2l (v := Int32.toInt64 ((nI (tb v z.2)) - (nI 48))) B.1 B.2.1 dX9_figure_38 (rfl) ?_
      refine lv_iload_n B.1 B.2.1 dX9_figure_39 rfl (lv_at hl 2 rfl) ?_
      refine lv_i2l (v := Int32.toInt64 (nI a)) B.1 B.2.1 dX9_figure_40 (rfl) ?_
      refine lv_iload_n B.1 B.2.1 dX9_figure_41 rfl (lv_at hl 3 rfl) ?_
      refine lv_i2l (v := Int32.toInt64 (nI m - nI 1)) B.1 B.2.1 dX9_figure_42 (rfl) ?_
      refine r_scalli B hC hl.1 (As := [.long (Int32.toInt64 ((nI (tb v z.2)) - (nI 48))), .long (Int32.toInt64 (nI a)), .long (Int32.toInt64 (nI m - nI 1))]) (ctX9_in l g lo ad (v := Int32.toInt64 ((nI (tb v z.2)) - (nI 48))) (a := Int32.toInt64 (nI a)) (b := Int32.toInt64 (nI m - nI 1))) gX9_figure_X9_in rfl (n := 3) rfl (by decide +kernel) ⟨Nat.le_of_ble_eq_true rfl, Nat.le_of_ble_eq_true rfl⟩ ⟨Nat.zero_le _, Nat.zero_le _⟩ rfl (Nat.le_of_ble_eq_true rfl) dX9_figure_43 (fun r43 F1 H locs hp43 hC => ?_)
      obtain ⟨er, eF⟩ := hp43
      subst er
      rw [eF] at hC
      refine lv_if_ne (tgt := 75) B.1 B.2.1 dX9_figure_46 (by decide) (fun c_46 => ?_) (fun c_46 => ?_)
      · have q_46 : isFig v z.2 a m = true := by rw [← fg_in ok (show z.2 < tn v by omega) ha hm]; exact bI_t.mp c_46
        refine lv_aload_n B.1 B.2.1 dX9_figure_75 rfl (lv_at hl 1 rfl) ?_
        refine lv_dup B.1 B.2.1 dX9_figure_76 rfl ?_
        refine r_cg B hC (i := 175) (by decide) hM.1 (C := RX9) (T := TX9) (n := 35) rfl iwX9_figure_X9 17 (by decide) (index := 90) flX9_figure_90 rfl (v := .int (c 17)) rfl dX9_figure_77 ?_
        refine r_tI (y := nI z.2) (hs.2.1) ?_
        refine lv_iconst (v := nI 1) B.1 B.2.1 dX9_figure_80 (by decide) ?_
        refine lv_iadd B.1 B.2.1 dX9_figure_81 ?_
        refine r_tI (y := nI (z.2 + 1)) (nI_add _ _) ?_
        obtain ⟨c1, ec1⟩ : ∃ f, f = va_up c 17 (nI (z.2 + 1)) := ⟨_, rfl⟩
        refine r_cp B hC (i := 175) (by decide) hM.1 tyX9 tyX9_ok nmX9 (C := RX9) (T := TX9) rfl iwX9_figure_X9 17 (by decide) (index := 90) flX9_figure_90 rfl rfl (v := .int (nI (z.2 + 1))) (rfl) (rfl) (Nat.le_of_ble_eq_true rfl) dX9_figure_82 ?_
        intro H locs hC
        obtain ⟨F1, eF1⟩ : ∃ f, f = va_up F 175 (mObj ad c1) := ⟨_, rfl⟩
        have hC : Cu g lo 196 ad F1 ss ss.heap H locs := by rw [eF1, ec1]; exact hC
        have hM_F1 : MC g ad F1 c1 q sm := hM.fld eF1
        have cv16_F1 : c1 16 = nI (tn v) := by rw [ec1, va_up_ne _ _ (by decide)]; exact hT.1
        have cv18_F1 : c1 18 = oI z.1 := by rw [ec1, va_up_ne _ _ (by decide)]; exact hs.1
        have cv17_F1 : c1 17 = nI (z.2 + 1) := by rw [ec1, va_up_self]
        have hS_F1 : Same 175 196 F F1 := by rw [eF1]; exact hS.up (by decide) (by decide)
        refine lv_iload_n B.1 B.2.1 dX9_figure_85 rfl (lv_at hl 0 rfl) ?_
        exact r_eI B hC (v := (nI (tb v z.2)) - (nI 48)) (⟨_, hM_F1, hS_F1, ((CQ.rf (A := [17, 18]) (B := [])).uc ec1 (by decide)), by rw [fgV, if_pos (show fgG v z a m = true by rw [fgG, q_6, q_46]; rfl)]; exact fig_tb q_46, sr_yes (show fgG v z a m = true by rw [fgG, q_6, q_46]; rfl) cv18_F1 cv17_F1⟩) dX9_figure_86
      · have q_46 : isFig v z.2 a m = false := by rw [← fg_in ok (show z.2 < tn v by omega) ha hm]; exact bI_f.mp c_46
        refine lv_aload_n B.1 B.2.1 dX9_figure_49 rfl (lv_at hl 1 rfl) ?_
        refine lv_aload_n B.1 B.2.1 dX9_figure_50 rfl (lv_at hl 1 rfl) ?_
        refine r_cg B hC (i := 175) (by decide) hM.1 (C := RX9) (T := TX9) (n := 35) rfl iwX9_figure_X9 18 (by decide) (index := 87) flX9_figure_87 rfl (v := .int (c 18)) rfl dX9_figure_51 ?_
        refine r_tI (y := oI z.1) (hs.1) ?_
        refine lv_bipush (v := (-9)) B.1 B.2.1 dX9_figure_54 (by decide) ?_
        refine lv_icmp_ne (tgt := 66) B.1 B.2.1 dX9_figure_56 (by decide) (fun z => absurd ((oI_9 hz9).mpr q_6) z) (fun _ => ?_)
        refine lv_aload_n B.1 B.2.1 dX9_figure_59 rfl (lv_at hl 1 rfl) ?_
        refine r_cg B hC (i := 175) (by decide) hM.1 (C := RX9) (T := TX9) (n := 35) rfl iwX9_figure_X9 17 (by decide) (index := 90) flX9_figure_90 rfl (v := .int (c 17)) rfl dX9_figure_60 ?_
        refine r_tI (y := nI z.2) (hs.2.1) ?_
        refine lv_goto (tgt := 70) B.1 B.2.1 dX9_figure_63 (by decide) ?_
        obtain ⟨c1, ec1⟩ : ∃ f, f = va_up c 18 (nI z.2) := ⟨_, rfl⟩
        refine r_cp B hC (i := 175) (by decide) hM.1 tyX9 tyX9_ok nmX9 (C := RX9) (T := TX9) rfl iwX9_figure_X9 18 (by decide) (index := 87) flX9_figure_87 rfl rfl (v := .int (nI z.2)) (rfl) (rfl) (Nat.le_of_ble_eq_true rfl) dX9_figure_70 ?_
        intro H locs hC
        obtain ⟨F1, eF1⟩ : ∃ f, f = va_up F 175 (mObj ad c1) := ⟨_, rfl⟩
        have hC : Cu g lo 196 ad F1 ss ss.heap H locs := by rw [eF1, ec1]; exact hC
        have hM_F1 : MC g ad F1 c1 q sm := hM.fld eF1
        have cv16_F1 : c1 16 = nI (tn v) := by rw [ec1, va_up_ne _ _ (by decide)]; exact hT.1
        have cv17_F1 : c1 17 = nI z.2 := by rw [ec1, va_up_ne _ _ (by decide)]; exact hs.2.1
        have cv18_F1 : c1 18 = nI z.2 := by rw [ec1, va_up_self]
        have hS_F1 : Same 175 196 F F1 := by rw [eF1]; exact hS.up (by decide) (by decide)
        refine lv_iconst (v := nI 0) B.1 B.2.1 dX9_figure_73 (by decide) ?_
        exact r_eI B hC (v := nI 0) (⟨_, hM_F1, hS_F1, ((CQ.rf (A := [17, 18]) (B := [])).uc ec1 (by decide)), by rw [fgV, if_neg (by rw [(show fgG v z a m = false by rw [fgG, show isFig v z.2 a m = false from q_46]; simp)]; decide)], sr_no (show fgG v z a m = false by rw [fgG, show isFig v z.2 a m = false from q_46]; simp) hs (cv18_F1.trans (by unfold fgF; rw [q_6]; rfl)) cv17_F1⟩) dX9_figure_74
