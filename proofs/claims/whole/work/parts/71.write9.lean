/-! THE REFERENCE: fault, wipe, write -/
set_option maxHeartbeats 4000000 in
set_option maxRecDepth 100000 in
theorem ctX9_fault (l : Launch) (g : Gx) (lo : Nat) (ad : Nat → Nat) {F : Nat → va_E} {c : Nat → Int32} {q : Nat → Nat → Int32} {sm : Nat → Int64} {x : XV} (hM : MC g ad F c q sm) (hX : XR x c q) (okx : XOK x) : MI l g lo 196 ad yX9_fault wsX9_fault 4 92 [.ref (ad (175))] F (fun r F' => r = oI (fAll (xt x)) ∧ MX g ad F' x ∧ Same 175 196 F F') := by
  obtain ⟨hTx, hR, ⟨hB, hwa, hsu⟩, hAx, hKx⟩ := id hX
  obtain ⟨okT, ok, hw, okA, okS, okAu, okSu⟩ := id okx
  have okn := ok.1
  have okp := ok.2.1
  have okh := ok.2.2.1
  have okt := okT.1
  have hS : Same 175 196 F F := Same.rf
  have hb : 0 ≤ 50 := by decide
  have hwa3 := hw.2.1
  refine enter (cc := cX9_fault) (maxL := 1) (ret := some .int) (own := RX9) (by decide +kernel) rfl rfl (Nat.le_of_ble_eq_true rfl) ?_
  intro pp ee ss mm below meth cc B hini hC ls hl
  have hl : lv_has ls 1 [(0, .ref (ad (175)))] := hl
  refine lv_aload_n B.1 B.2.1 dX9_fault_0 rfl (lv_at hl 0 rfl) ?_
  refine r_calli B hC hl.1 (175) 9 rfl rfl (by decide) hM.1 (As := []) (ctX9_readText l g lo ad hM okT hTx) gX9_fault_X9_readText rfl (n := 0) rfl (by decide +kernel) ⟨Nat.le_of_ble_eq_true rfl, Nat.le_of_ble_eq_true rfl⟩ ⟨Nat.zero_le _, Nat.zero_le _⟩ rfl (Nat.le_of_ble_eq_true rfl) dX9_fault_1 (fun r1 F1 H locs hp1 hC => ?_)
  obtain ⟨hr, c1, q1, hM_F1, hT_F1, hsc, hres⟩ := hp1
  have hS_F1 : Same 175 196 F F1 := Same.tr2 hS hT_F1 (by decide) (by decide)
  refine r_tI (y := oI (fAll (xt x))) hr ?_
  exact r_eI B hC (v := oI (fAll (xt x))) (⟨rfl, ⟨_, _, _, hM_F1, hX.scr hsc okn⟩, hS_F1⟩) dX9_fault_4
theorem iwX9_wipe_X9 : ∀ w ∈ u_ws RX9 TX9 35, w ∈ wsX9_wipe := by decide +kernel
theorem flX9_wipe_82 : Cond.fieldLink RX9 82 RX9 (TX9 16).2.1 (TX9 16).2.2.1 ∈ wsX9_wipe := by decide +kernel
set_option maxHeartbeats 4000000 in
set_option maxRecDepth 100000 in
theorem ctX9_wipe (l : Launch) (g : Gx) (lo : Nat) (ad : Nat → Nat) {F : Nat → va_E} {c : Nat → Int32} {q : Nat → Nat → Int32} {sm : Nat → Int64} {x : XV} (hM : MC g ad F c q sm) (hX : XR x c q) (okx : XOK x) : MI l g lo 196 ad yX9_wipe wsX9_wipe 0 0 [.ref (ad (175))] F (fun r F' => r = nI (tn (xt x)) ∧ MX g ad F' (wipeX x) ∧ Same 175 196 F F') := by
  obtain ⟨hTx, hR, ⟨hB, hwa, hsu⟩, hAx, hKx⟩ := id hX
  obtain ⟨okT, ok, hw, okA, okS, okAu, okSu⟩ := id okx
  have okn := ok.1
  have okp := ok.2.1
  have okh := ok.2.2.1
  have okt := okT.1
  have hS : Same 175 196 F F := Same.rf
  have hb : 0 ≤ 50 := by decide
  have hwa3 := hw.2.1
  obtain ⟨nx, hnx, ha24, ha25, hac⟩ := id hAx
  have oka := okA.2.1
  have okf := okA.1
  refine enter (cc := cX9_wipe) (maxL := 2) (ret := some .int) (own := RX9) (by decide +kernel) rfl rfl (Nat.le_of_ble_eq_true rfl) ?_
  intro pp ee ss mm below meth cc B hini hC ls hl
  have hl : lv_has ls 2 [(0, .ref (ad (175)))] := hl
  refine lv_aload_n B.1 B.2.1 dX9_wipe_0 rfl (lv_at hl 0 rfl) ?_
  refine r_cg B hC (i := 175) (by decide) hM.1 (C := RX9) (T := TX9) (n := 35) rfl iwX9_wipe_X9 16 (by decide) (index := 82) flX9_wipe_82 rfl (v := .int (c 16)) rfl dX9_wipe_1 ?_
  refine r_tI (y := nI (tn (xt x))) (hTx.1) ?_
  refine lv_istore_n (lv' := [(1, .int (nI (tn (xt x)))), (0, .ref (ad (175)))]) B.1 B.2.1 dX9_wipe_4 rfl hl (by decide) rfl (fun ls hl => ?_)
  refine lv_aload_n B.1 B.2.1 dX9_wipe_5 rfl (lv_at hl 1 rfl) ?_
  refine lv_iconst (v := nI 0) B.1 B.2.1 dX9_wipe_6 (by decide) ?_
  obtain ⟨c1, ec1⟩ : ∃ f, f = va_up c 16 (nI 0) := ⟨_, rfl⟩
  refine r_cp B hC (i := 175) (by decide) hM.1 tyX9 tyX9_ok nmX9 (C := RX9) (T := TX9) rfl iwX9_wipe_X9 16 (by decide) (index := 82) flX9_wipe_82 rfl rfl (v := .int (nI 0)) (rfl) (rfl) (Nat.le_of_ble_eq_true rfl) dX9_wipe_7 ?_
  intro H locs hC
  obtain ⟨F1, eF1⟩ : ∃ f, f = va_up F 175 (mObj ad c1) := ⟨_, rfl⟩
  have hC : Cu g lo 196 ad F1 ss ss.heap H locs := by rw [eF1, ec1]; exact hC
  have hM_F1 : MC g ad F1 c1 q sm := hM.fld eF1
  have cv12_F1 : c1 12 = nI (hn (xh x)) := by rw [ec1, va_up_ne _ _ (by decide)]; exact hR.1
  have cv13_F1 : c1 13 = nI (hpu (xh x)) := by rw [ec1, va_up_ne _ _ (by decide)]; exact hR.2.1
  have cv14_F1 : c1 14 = nI (hho (xh x)) := by rw [ec1, va_up_ne _ _ (by decide)]; exact hR.2.2.1
  have cv22_F1 : c1 22 = nI (wa (xw x)) := by rw [ec1, va_up_ne _ _ (by decide)]; exact hwa
  have cv23_F1 : c1 23 = bI (su (xw x)) := by rw [ec1, va_up_ne _ _ (by decide)]; exact hsu
  have cv24_F1 : c1 24 = nI (asz (xa x)) := by rw [ec1, va_up_ne _ _ (by decide)]; exact ha24
  have cv25_F1 : c1 25 = nI nx := by rw [ec1, va_up_ne _ _ (by decide)]; exact ha25
  have cv16_F1 : c1 16 = nI 0 := by rw [ec1, va_up_self]
  have hR_F1 : HullR (xh x) c1 q := by rw [ec1]; exact hR.upc (by decide) (by decide) (by decide)
  have hS_F1 : Same 175 196 F F1 := by rw [eF1]; exact hS.up (by decide) (by decide)
  refine lv_iload_n B.1 B.2.1 dX9_wipe_10 rfl (lv_at hl 0 rfl) ?_
  exact r_eI B hC (v := nI (tn (xt x))) (⟨rfl, ⟨_, _, _, hM_F1, ⟨cv16_F1, fun i hi => absurd hi (Nat.not_lt_zero i)⟩, hR.cq ((CQ.rf (A := [16]) (B := [])).uc ec1 (by decide)) (by decide) (by decide) (by decide) (by decide) (by decide) (by decide) (by decide), ⟨hB.cq ((CQ.rf (A := [16]) (B := [])).uc ec1 (by decide)) (by decide) (by decide) (by decide), cv22_F1, cv23_F1⟩, hAx.cq ((CQ.rf (A := [16]) (B := [])).uc ec1 (by decide)) (by decide) (by decide) (by decide), hKx.cq ((CQ.rf (A := [16]) (B := [])).uc ec1 (by decide)) (by decide) (by decide) (by decide) (by decide)⟩, hS_F1⟩) dX9_wipe_11
theorem iwX9_write_X9 : ∀ w ∈ u_ws RX9 TX9 35, w ∈ wsX9_write := by decide +kernel
theorem flX9_write_37 : Cond.fieldLink RX9 37 RX9 (TX9 15).2.1 (TX9 15).2.2.1 ∈ wsX9_write := by decide +kernel
theorem flX9_write_82 : Cond.fieldLink RX9 82 RX9 (TX9 16).2.1 (TX9 16).2.2.1 ∈ wsX9_write := by decide +kernel
set_option maxHeartbeats 4000000 in
set_option maxRecDepth 100000 in
theorem ctX9_write (l : Launch) (g : Gx) (lo : Nat) (ad : Nat → Nat) {F : Nat → va_E} {c : Nat → Int32} {q : Nat → Nat → Int32} {sm : Nat → Int64} {x : XV} (hM : MC g ad F c q sm) (hX : XR x c q) (okx : XOK x) {n : Int32} {v9 : Int64} : MI l g lo 196 ad yX9_write wsX9_write 1 25 [.ref (ad (175)), .int (n), .long (v9)] F (fun r F' => r = writeA x n v9 ∧ MX g ad F' (writeN x n v9) ∧ Same 175 196 F F') := by
  obtain ⟨hTx, hR, ⟨hB, hwa, hsu⟩, hAx, hKx⟩ := id hX
  obtain ⟨okT, ok, hw, okA, okS, okAu, okSu⟩ := id okx
  have okn := ok.1
  have okp := ok.2.1
  have okh := ok.2.2.1
  have okt := okT.1
  have hS : Same 175 196 F F := Same.rf
  have hb : 0 ≤ 50 := by decide
  have hwa3 := hw.2.1
  obtain ⟨nx, hnx, ha24, ha25, hac⟩ := id hAx
  have oka := okA.2.1
  have okf := okA.1
  refine enter (cc := cX9_write) (maxL := 5) (ret := some .int) (own := RX9) (by decide +kernel) rfl rfl (Nat.le_of_ble_eq_true rfl) ?_
  intro pp ee ss mm below meth cc B hini hC ls hl
  have hl : lv_has ls 5 [(0, .ref (ad (175))), (1, .int (n)), (2, .long (v9))] := hl
  refine lv_iload_n B.1 B.2.1 dX9_write_0 rfl (lv_at hl 1 rfl) ?_
  refine lv_i2l (v := Int32.toInt64 (n)) B.1 B.2.1 dX9_write_1 (rfl) ?_
  refine lv_lconst (v := lN 1) B.1 B.2.1 dX9_write_2 (by decide) ?_
  refine lv_ldc2 (own := RX9) (v := 8) B.1 B.2.1 B.2.2.2.1 (B.2.2.2.2.1 (.constantLong RX9 76 (8)) (by decide +kernel)) dX9_write_3 ?_
  refine r_scalli B hC hl.1 (As := [.long (Int32.toInt64 (n)), .long (lN 1), .long (8)]) (ctX9_in l g lo ad (v := Int32.toInt64 n) (a := lN 1) (b := 8)) gX9_write_X9_in rfl (n := 3) rfl (by decide +kernel) ⟨Nat.le_of_ble_eq_true rfl, Nat.le_of_ble_eq_true rfl⟩ ⟨Nat.zero_le _, Nat.zero_le _⟩ rfl (Nat.le_of_ble_eq_true rfl) dX9_write_6 (fun r6 F1 H locs hp6 hC => ?_)
  obtain ⟨er, eF⟩ := hp6
  subst er
  rw [eF] at hC
  refine lv_if_ne (tgt := 15) B.1 B.2.1 dX9_write_9 (by decide) (fun c_9 => ?_) (fun c_9 => ?_)
  · have q_9 : n18 n = true := by rw [← inB_18]; exact bI_t.mp c_9
    obtain ⟨j, hj1, hj8, ej⟩ := n18_t q_9
    rw [ej] at hl
    refine lv_aload_n B.1 B.2.1 dX9_write_15 rfl (lv_at hl 0 rfl) ?_
    refine r_cg B hC (i := 175) (by decide) hM.1 (C := RX9) (T := TX9) (n := 35) rfl iwX9_write_X9 16 (by decide) (index := 82) flX9_write_82 rfl (v := .int (c 16)) rfl dX9_write_16 ?_
    refine r_tI (y := nI (tn (xt x))) (hTx.1) ?_
    refine lv_iload_n B.1 B.2.1 dX9_write_19 rfl (lv_at hl 1 rfl) ?_
    refine lv_iadd B.1 B.2.1 dX9_write_20 ?_
    refine r_tI (y := nI ((tn (xt x)) + j)) (nI_add _ _) ?_
    refine lv_bipush (v := nI 72) B.1 B.2.1 dX9_write_21 (by decide) ?_
    refine lv_icmp_le (tgt := 29) B.1 B.2.1 dX9_write_23 (by decide) (fun c_23 => ?_) (fun c_23 => ?_)
    · have q_23 : ((tn (xt x)) + j) ≤ 72 := (nI_leI (by omega) (by omega)).mp c_23
      refine lv_iload_n B.1 B.2.1 dX9_write_29 rfl (lv_at hl 1 rfl) ?_
      refine lv_iconst (v := nI 1) B.1 B.2.1 dX9_write_30 (by decide) ?_
      refine lv_isub B.1 B.2.1 dX9_write_31 ?_
      refine r_tI (y := nI j - nI 1) (rfl) ?_
      refine lv_istore (lv' := [(4, .int (nI j - nI 1)), (0, .ref (ad (175))), (1, .int (nI j)), (2, .long (v9))]) B.1 B.2.1 dX9_write_32 hl (by decide) rfl (fun ls hl => ?_)
      have loop34 : ∀ (k : Nat) (u : TV) (c1 : Nat → Int32) (q1 : Nat → Nat → Int32) (G : Nat → va_E), (k ≤ 8) → (tn u + k = tn (xt x) + j) → (appTo v9 k u = appTo v9 j (xt x)) → (MC g ad G c1 q1 sm) → (Same 175 196 F G) → (CQ [16] [185] c c1 q q1) → (TextR u c1 q1) → ∀ (H : Heap) (locs : List Loc) (ls : Array Slot), Cu g lo 196 ad G ss ss.heap H locs → lv_has ls 5 [(4, .int (nI k - nI 1)), (0, .ref (ad (175))), (1, .int (nI j)), (2, .long (v9))] → W pp l ee { frames := 1, cells := 0, slots := 0, locals := 25 } ss mm ([.ref (ad (175)), .int (n), .long (v9)] : List Value).toArray below meth cc H locs 0 0 (MQ below (va_Qi (fun r F' => r = writeA x n v9 ∧ MX g ad F' (writeN x n v9) ∧ Same 175 196 F F') (fun F' t => Wd g lo 196 ad F' t) (fun q => lo ≤ q)) ([.ref (ad (175)), .int (n), .long (v9)] : List Value).toArray ss 0 0 (fun q => lo ≤ q)) (F0 mm 34 ls []) := by
        intro k
        induction k with
        | zero =>
          intro u c1 q1 G hkj htu hau hM1 hS1 hK1 hT1 H locs ls hC hl
          have hl : lv_has ls 5 [(4, .int ((-1))), (0, .ref (ad (175))), (1, .int (nI j)), (2, .long (v9))] := by rw [show nI 0 - nI 1 = -1 from by decide] at hl; exact hl
          refine lv_iload B.1 B.2.1 dX9_write_34 (lv_at hl 0 rfl) ?_
          refine lv_if_lt (tgt := 76) B.1 B.2.1 dX9_write_36 (by decide) (fun _ => ?_) (fun z => absurd (by decide) z)
          refine lv_aload_n B.1 B.2.1 dX9_write_76 rfl (lv_at hl 1 rfl) ?_
          refine r_cg B hC (i := 175) (by decide) hM1.1 (C := RX9) (T := TX9) (n := 35) rfl iwX9_write_X9 16 (by decide) (index := 82) flX9_write_82 rfl (v := .int (c1 16)) rfl dX9_write_77 ?_
          refine r_tI (y := nI (tn u)) (hT1.1) ?_
          exact r_eI B hC (v := nI (tn u)) (⟨by rw [writeA, if_pos q_9, ej, ix_n (by omega), if_pos q_23, show tn u = tn (xt x) + j by omega], by rw [writeN, if_pos ⟨q_9, by rw [ej, ix_n (by omega)]; exact q_23⟩, ej, ix_n (by omega)]; exact ⟨_, _, _, hM1, (show TextR (appTo v9 j (xt x)) c1 q1 from by rw [← hau]; exact hT1), hR.cq hK1 (by decide) (by decide) (by decide) (by decide) (by decide) (by decide) (by decide), ⟨hB.cq hK1 (by decide) (by decide) (by decide), (hK1.1 22 (by decide)).trans hwa, (hK1.1 23 (by decide)).trans hsu⟩, hAx.cq hK1 (by decide) (by decide) (by decide), hKx.cq hK1 (by decide) (by decide) (by decide) (by decide)⟩, hS1⟩) dX9_write_80
        | succ k ih34 =>
          intro u c1 q1 G hkj htu hau hM1 hS1 hK1 hT1 H locs ls hC hl
          have hl : lv_has ls 5 [(4, .int (nI k)), (0, .ref (ad (175))), (1, .int (nI j)), (2, .long (v9))] := by rw [nI_p1 k] at hl; exact hl
          refine lv_iload B.1 B.2.1 dX9_write_34 (lv_at hl 0 rfl) ?_
          refine lv_if_lt (tgt := 76) B.1 B.2.1 dX9_write_36 (by decide) (fun z => absurd z (nI_pos (by omega))) (fun _ => ?_)
          refine lv_aload_n B.1 B.2.1 dX9_write_39 rfl (lv_at hl 1 rfl) ?_
          refine r_cg B hC (i := 175) (by decide) hM1.1 (C := RX9) (T := TX9) (n := 35) rfl iwX9_write_X9 15 (by decide) (index := 37) flX9_write_37 rfl (v := .ref (ad (185))) rfl dX9_write_40 ?_
          refine lv_aload_n B.1 B.2.1 dX9_write_43 rfl (lv_at hl 1 rfl) ?_
          refine r_cg B hC (i := 175) (by decide) hM1.1 (C := RX9) (T := TX9) (n := 35) rfl iwX9_write_X9 16 (by decide) (index := 82) flX9_write_82 rfl (v := .int (c1 16)) rfl dX9_write_44 ?_
          refine r_tI (y := nI (tn u)) (hT1.1) ?_
          refine lv_lload_n B.1 B.2.1 dX9_write_47 rfl (lv_at hl 3 rfl) ?_
          refine lv_bipush (v := nI 8) B.1 B.2.1 dX9_write_48 (by decide) ?_
          refine lv_iload B.1 B.2.1 dX9_write_50 (lv_at hl 0 rfl) ?_
          refine lv_imul B.1 B.2.1 dX9_write_52 ?_
          refine r_tI (y := nI (8 * k)) (pk_mul _ _) ?_
          refine lv_lshr (v := v9 >>> (Int32.toInt64 (nI (8 * k)) &&& 63)) B.1 B.2.1 dX9_write_53 (rfl) ?_
          refine lv_ldc2 (own := RX9) (v := 255) B.1 B.2.1 B.2.2.2.1 (B.2.2.2.2.1 (.constantLong RX9 85 (255)) (by decide +kernel)) dX9_write_54 ?_
          refine lv_land B.1 B.2.1 dX9_write_57 ?_
          refine lv_l2i (v := nI (byteOf v9 k)) B.1 B.2.1 dX9_write_58 (bo_int v9 (by omega)) ?_
          refine r_cast B hC (i := 185) (by decide) hM1.c185 (j := (tn u)) (by omega) (by decide) dX9_write_59 ?_
          intro H locs hC
          obtain ⟨F31, eF31⟩ : ∃ f : Nat → va_E, f = va_up G 185 (.inl (g.2.2 0, 72, .inl (upd (q1 185) ((tn u)) (nI (byteOf v9 k))))) := ⟨_, rfl⟩
          have hC : Cu g lo 196 ad F31 ss ss.heap H locs := by rw [eF31]; exact hC
          obtain ⟨q31, eq31⟩ : ∃ f, f = va_up q1 185 (upd (q1 185) ((tn u)) (nI (byteOf v9 k))) := ⟨_, rfl⟩
          have hM_F31 : MC g ad F31 c1 q31 sm := by rw [eq31]; exact hM1.arr (by decide) (by decide) (by decide) (by decide) (by decide) eF31
          have hS_F31 : Same 175 196 F F31 := by rw [eF31]; exact hS1.up (by decide) (by decide)
          refine lv_aload_n B.1 B.2.1 dX9_write_60 rfl (lv_at hl 1 rfl) ?_
          refine lv_dup B.1 B.2.1 dX9_write_61 rfl ?_
          refine r_cg B hC (i := 175) (by decide) hM_F31.1 (C := RX9) (T := TX9) (n := 35) rfl iwX9_write_X9 16 (by decide) (index := 82) flX9_write_82 rfl (v := .int (c1 16)) rfl dX9_write_62 ?_
          refine r_tI (y := nI (tn u)) (hT1.1) ?_
          refine lv_iconst (v := nI 1) B.1 B.2.1 dX9_write_65 (by decide) ?_
          refine lv_iadd B.1 B.2.1 dX9_write_66 ?_
          refine r_tI (y := nI ((tn u) + 1)) (nI_add _ _) ?_
          obtain ⟨c32, ec32⟩ : ∃ f, f = va_up c1 16 (nI ((tn u) + 1)) := ⟨_, rfl⟩
          refine r_cp B hC (i := 175) (by decide) hM_F31.1 tyX9 tyX9_ok nmX9 (C := RX9) (T := TX9) rfl iwX9_write_X9 16 (by decide) (index := 82) flX9_write_82 rfl rfl (v := .int (nI ((tn u) + 1))) (rfl) (rfl) (Nat.le_of_ble_eq_true rfl) dX9_write_67 ?_
          intro H locs hC
          obtain ⟨F32, eF32⟩ : ∃ f, f = va_up F31 175 (mObj ad c32) := ⟨_, rfl⟩
          have hC : Cu g lo 196 ad F32 ss ss.heap H locs := by rw [eF32, ec32]; exact hC
          have hM_F32 : MC g ad F32 c32 q31 sm := hM_F31.fld eF32
          have cv16_F32 : c32 16 = nI ((tn u) + 1) := by rw [ec32, va_up_self]
          have hS_F32 : Same 175 196 F F32 := by rw [eF32]; exact hS_F31.up (by decide) (by decide)
          refine lv_iinc (v := nI k - nI 1) (lv' := [(4, .int (nI k - nI 1)), (0, .ref (ad (175))), (1, .int (nI j)), (2, .long (v9))]) B.1 B.2.1 dX9_write_70 hl (k := 0) rfl (nI_dec k) (by decide) rfl (fun ls hl => ?_)
          refine lv_goto (tgt := 34) B.1 B.2.1 dX9_write_73 (by decide) ?_
          exact ih34 (addB u (byteOf v9 k)) c32 q31 F32 (by omega) (by show tn u + 1 + k = _; omega) (by rw [← hau]; rfl) hM_F32 hS_F32 ((hK1.uq eq31 (by decide)).uc ec32 (by decide)) (text_add hT1 eq31 cv16_F32) _ _ ls hC (lv_sub hl [0, 1, 2, 3] rfl)
      exact loop34 j (xt x) c q F hj8 rfl rfl hM hS CQ.rf hTx _ _ ls hC (lv_sub hl [0, 1, 2, 3] rfl)
    · have q_23 : ¬ ((tn (xt x)) + j) ≤ 72 := fun z => c_23 ((nI_leI (by omega) (by omega)).mpr z)
      refine lv_bipush (v := (-4)) B.1 B.2.1 dX9_write_26 (by decide) ?_
      exact r_eI B hC (v := (-4)) (⟨by rw [writeA, if_pos q_9, ej, ix_n (by omega), if_neg q_23], by rw [writeN, if_neg (fun z => q_23 (by rw [ej, ix_n (by omega)] at z; exact z.2))]; exact ⟨_, _, _, hM, hX⟩, hS⟩) dX9_write_28
  · have q_9 : ¬ n18 n = true := by rw [← inB_18, bI_f.mp c_9]; decide
    refine lv_bipush (v := (-2)) B.1 B.2.1 dX9_write_12 (by decide) ?_
    exact r_eI B hC (v := (-2)) (⟨by rw [writeA, if_neg q_9], by rw [writeN, if_neg (fun z => q_9 z.1)]; exact ⟨_, _, _, hM, hX⟩, hS⟩) dX9_write_14
