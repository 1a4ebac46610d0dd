/-! THE REFERENCE: readText, fault, wipe, write -/
theorem CQ.tr {A B : List Nat} {c c' c'' : Nat → Int32} {q q' q'' : Nat → Nat → Int32} (a : CQ A B c c' q q') (b : CQ A B c' c'' q' q'') : CQ A B c c'' q q'' := ⟨fun i hi => (b.1 i hi).trans (a.1 i hi), fun i hi => (b.2 i hi).trans (a.2 i hi)⟩
theorem li_init {v : TV} {c : Nat → Int32} {q : Nat → Nat → Int32} (h0 : tat v 0 = some 83) (c6 : c 6 = nI (fgV v (none, 1) 0 10)) (c7 : c 7 = nI (10 * hdT v + fgV v (hd2 v) (if hdT v = 0 then 1 else 0) 10)) : LI v (hd3 v).1 (hd3 v).2 0 c q := by
  obtain ⟨e1, e2⟩ := hd_ok h0
  refine ⟨fun k hk => all_hf (by rw [← e1]; exact hk), fun hn => ?_⟩
  rw [e1] at hn
  obtain ⟨a1, a2, a3, a4⟩ := e2 hn
  refine ⟨by rw [a1]; exact all_83 hn, a1, fun p hp => absurd hp (Nat.not_lt_zero p), fun p hp => absurd hp (Nat.not_lt_zero p), by rw [c6, a2], by rw [c7, a4, a3]⟩
theorem hdT_9 (v : TV) : hdT v ≤ 9 := by
  unfold hdT fgV
  split
  · next hg =>
    unfold fgG at hg
    rw [Bool.and_eq_true] at hg
    have := (fig_ok hg.2).2.2
    omega
  · exact Nat.zero_le _
theorem no_83 {v : TV} (h : tn v = 0 ∨ tb v 0 ≠ 83) : tat v 0 ≠ some 83 := by
  unfold tat
  intro z
  split at z
  · rcases h with y | y
    · omega
    · exact y (Option.some.inj z)
  · cases z
theorem is_83 {v : TV} (h : ¬ tn v = 0) (h2 : tb v 0 = 83) : tat v 0 = some 83 := by
  unfold tat; rw [if_pos (by omega), h2]
theorem tat_is {v : TV} {i k : Nat} (h : i < tn v) (e : tb v i = k) : tat v i = some k := by
  unfold tat; rw [if_pos h, e]
theorem tat_no {v : TV} {i : Nat} (h : i < tn v) (e : ¬ tb v i = 80) (e2 : ¬ tb v i = 79) : ¬ (tat v i = some 80 ∨ tat v i = some 79) := by
  unfold tat; rw [if_pos h]
  rintro (z | z)
  · exact e (Option.some.inj z)
  · exact e2 (Option.some.inj z)
theorem iwX9_readText_X9 : ∀ w ∈ u_ws RX9 TX9 35, w ∈ wsX9_readText := by decide +kernel
theorem flX9_readText_37 : Cond.fieldLink RX9 37 RX9 (TX9 15).2.1 (TX9 15).2.2.1 ∈ wsX9_readText := by decide +kernel
theorem flX9_readText_82 : Cond.fieldLink RX9 82 RX9 (TX9 16).2.1 (TX9 16).2.2.1 ∈ wsX9_readText := by decide +kernel
theorem flX9_readText_87 : Cond.fieldLink RX9 87 RX9 (TX9 18).2.1 (TX9 18).2.2.1 ∈ wsX9_readText := by decide +kernel
theorem flX9_readText_90 : Cond.fieldLink RX9 90 RX9 (TX9 17).2.1 (TX9 17).2.2.1 ∈ wsX9_readText := by decide +kernel
theorem flX9_readText_93 : Cond.fieldLink RX9 93 RX9 (TX9 5).2.1 (TX9 5).2.2.1 ∈ wsX9_readText := by decide +kernel
theorem flX9_readText_100 : Cond.fieldLink RX9 100 RX9 (TX9 6).2.1 (TX9 6).2.2.1 ∈ wsX9_readText := by decide +kernel
theorem flX9_readText_103 : Cond.fieldLink RX9 103 RX9 (TX9 7).2.1 (TX9 7).2.2.1 ∈ wsX9_readText := by decide +kernel
set_option maxHeartbeats 4000000 in
set_option maxRecDepth 100000 in
theorem ctX9_readText (l : Launch) (g : Gx) (lo : Nat) (ad : Nat → Nat) {F : Nat → va_E} {c : Nat → Int32} {q : Nat → Nat → Int32} {sm : Nat → Int64} (hM : MC g ad F c q sm) {v : TV} (ok : TOK v) (hT : TextR v c q) : MI l g lo 196 ad yX9_readText wsX9_readText 3 70 [.ref (ad (175))] F (fun r F' => r = oI (fAll v) ∧ ∃ c' q', MC g ad F' c' q' sm ∧ Same 175 196 F F' ∧ Scr c c' q q' ∧ (fAll v = none → ∃ n, n ≤ 10 ∧ WELL v n ∧ tn v ≤ off v n ∧ c' 5 = nI n ∧ c' 6 = nI (fig v 1) ∧ c' 7 = nI (10 * fig v 2 + fig v 3) ∧ RdR v n q')) := by
  have okt := ok.1
  have hS : Same 175 196 F F := Same.rf
  have htb0 := ok.2 0
  refine enter (cc := cX9_readText) (maxL := 3) (ret := some .int) (own := RX9) (by decide +kernel) rfl rfl (Nat.le_of_ble_eq_true rfl) ?_
  intro pp ee ss mm below meth cc B hini hC ls hl
  have hl : lv_has ls 3 [(0, .ref (ad (175)))] := hl
  refine lv_aload_n B.1 B.2.1 dX9_readText_0 rfl (lv_at hl 0 rfl) ?_
  refine lv_iconst (v := nI 0) B.1 B.2.1 dX9_readText_1 (by decide) ?_
  obtain ⟨c1, ec1⟩ : ∃ f, f = va_up c 17 (nI 0) := ⟨_, rfl⟩
  refine r_cp B hC (i := 175) (by decide) hM.1 tyX9 tyX9_ok nmX9 (C := RX9) (T := TX9) rfl iwX9_readText_X9 17 (by decide) (index := 90) flX9_readText_90 rfl rfl (v := .int (nI 0)) (rfl) (rfl) (Nat.le_of_ble_eq_true rfl) dX9_readText_2 ?_
  intro H locs hC
  obtain ⟨F1, eF1⟩ : ∃ f, f = va_up F 175 (mObj ad c1) := ⟨_, rfl⟩
  have hC : Cu g lo 196 ad F1 ss ss.heap H locs := by rw [eF1, ec1]; exact hC
  have hM_F1 : MC g ad F1 c1 q sm := hM.fld eF1
  have cv16_F1 : c1 16 = nI (tn v) := by rw [ec1, va_up_ne _ _ (by decide)]; exact hT.1
  have cv17_F1 : c1 17 = nI 0 := by rw [ec1, va_up_self]
  have hS_F1 : Same 175 196 F F1 := by rw [eF1]; exact hS.up (by decide) (by decide)
  refine lv_aload_n B.1 B.2.1 dX9_readText_5 rfl (lv_at hl 0 rfl) ?_
  refine lv_bipush (v := (-9)) B.1 B.2.1 dX9_readText_6 (by decide) ?_
  obtain ⟨c2, ec2⟩ : ∃ f, f = va_up c1 18 ((-9)) := ⟨_, rfl⟩
  refine r_cp B hC (i := 175) (by decide) hM_F1.1 tyX9 tyX9_ok nmX9 (C := RX9) (T := TX9) rfl iwX9_readText_X9 18 (by decide) (index := 87) flX9_readText_87 rfl rfl (v := .int ((-9))) (rfl) (rfl) (Nat.le_of_ble_eq_true rfl) dX9_readText_8 ?_
  intro H locs hC
  obtain ⟨F2, eF2⟩ : ∃ f, f = va_up F1 175 (mObj ad c2) := ⟨_, rfl⟩
  have hC : Cu g lo 196 ad F2 ss ss.heap H locs := by rw [eF2, ec2]; exact hC
  have hM_F2 : MC g ad F2 c2 q sm := hM_F1.fld eF2
  have cv16_F2 : c2 16 = nI (tn v) := by rw [ec2, va_up_ne _ _ (by decide)]; exact cv16_F1
  have cv17_F2 : c2 17 = nI 0 := by rw [ec2, va_up_ne _ _ (by decide)]; exact cv17_F1
  have cv18_F2 : c2 18 = (-9) := by rw [ec2, va_up_self]
  have hS_F2 : Same 175 196 F F2 := by rw [eF2]; exact hS_F1.up (by decide) (by decide)
  refine lv_aload_n B.1 B.2.1 dX9_readText_11 rfl (lv_at hl 0 rfl) ?_
  refine lv_iconst (v := nI 0) B.1 B.2.1 dX9_readText_12 (by decide) ?_
  obtain ⟨c3, ec3⟩ : ∃ f, f = va_up c2 5 (nI 0) := ⟨_, rfl⟩
  refine r_cp B hC (i := 175) (by decide) hM_F2.1 tyX9 tyX9_ok nmX9 (C := RX9) (T := TX9) rfl iwX9_readText_X9 5 (by decide) (index := 93) flX9_readText_93 rfl rfl (v := .int (nI 0)) (rfl) (rfl) (Nat.le_of_ble_eq_true rfl) dX9_readText_13 ?_
  intro H locs hC
  obtain ⟨F3, eF3⟩ : ∃ f, f = va_up F2 175 (mObj ad c3) := ⟨_, rfl⟩
  have hC : Cu g lo 196 ad F3 ss ss.heap H locs := by rw [eF3, ec3]; exact hC
  have hM_F3 : MC g ad F3 c3 q sm := hM_F2.fld eF3
  have cv16_F3 : c3 16 = nI (tn v) := by rw [ec3, va_up_ne _ _ (by decide)]; exact cv16_F2
  have cv17_F3 : c3 17 = nI 0 := by rw [ec3, va_up_ne _ _ (by decide)]; exact cv17_F2
  have cv18_F3 : c3 18 = (-9) := by rw [ec3, va_up_ne _ _ (by decide)]; exact cv18_F2
  have cv5_F3 : c3 5 = nI 0 := by rw [ec3, va_up_self]
  have hS_F3 : Same 175 196 F F3 := by rw [eF3]; exact hS_F2.up (by decide) (by decide)
  refine lv_aload_n B.1 B.2.1 dX9_readText_16 rfl (lv_at hl 0 rfl) ?_
  refine r_cg B hC (i := 175) (by decide) hM_F3.1 (C := RX9) (T := TX9) (n := 35) rfl iwX9_readText_X9 16 (by decide) (index := 82) flX9_readText_82 rfl (v := .int (c3 16)) rfl dX9_readText_17 ?_
  refine r_tI (y := nI (tn v)) (cv16_F3) ?_
  refine lv_if_eq (tgt := 34) B.1 B.2.1 dX9_readText_20 (by decide) (fun c_20 => ?_) (fun c_20 => ?_)
  · have q_20 : tn v = 0 := Classical.byContradiction (fun z => nI_ne0 (by omega) (by omega) c_20)
    refine lv_iconst (v := nI 0) B.1 B.2.1 dX9_readText_34 (by decide) ?_
    exact r_eI B hC (v := nI 0) (⟨by rw [all_head (no_83 (Or.inl q_20))]; rfl, _, _, hM_F3, hS_F3, Scr.rf.cq ((((CQ.rf (A := [5, 6, 7, 17, 18]) (B := [176, 177, 178, 179, 180])).uc ec1 (by decide)).uc ec2 (by decide)).uc ec3 (by decide)), fun z => by rw [all_head (no_83 (Or.inl q_20))] at z; cases z⟩) dX9_readText_35
  · have q_20 : ¬ tn v = 0 := fun z => c_20 (nI_eq0 z)
    refine lv_aload_n B.1 B.2.1 dX9_readText_23 rfl (lv_at hl 0 rfl) ?_
    refine r_cg B hC (i := 175) (by decide) hM_F3.1 (C := RX9) (T := TX9) (n := 35) rfl iwX9_readText_X9 15 (by decide) (index := 37) flX9_readText_37 rfl (v := .ref (ad (185))) rfl dX9_readText_24 ?_
    refine lv_iconst (v := nI 0) B.1 B.2.1 dX9_readText_27 (by decide) ?_
    refine r_cald B hC (i := 185) (by decide) hM_F3.c185 (j := 0) (by omega) (by decide) dX9_readText_28 ?_
    refine r_tI (y := q 185 0) rfl ?_
    refine r_tI (y := nI (tb v 0)) (hT.2 0 (by omega)) ?_
    refine lv_bipush (v := nI 83) B.1 B.2.1 dX9_readText_29 (by decide) ?_
    refine lv_icmp_eq (tgt := 36) B.1 B.2.1 dX9_readText_31 (by decide) (fun c_31 => ?_) (fun c_31 => ?_)
    · have q_31 : (tb v 0) = 83 := (nI_eq (by omega) (by omega)).mp c_31
      refine lv_aload_n B.1 B.2.1 dX9_readText_36 rfl (lv_at hl 0 rfl) ?_
      refine lv_iconst (v := nI 1) B.1 B.2.1 dX9_readText_37 (by decide) ?_
      obtain ⟨c4, ec4⟩ : ∃ f, f = va_up c3 17 (nI 1) := ⟨_, rfl⟩
      refine r_cp B hC (i := 175) (by decide) hM_F3.1 tyX9 tyX9_ok nmX9 (C := RX9) (T := TX9) rfl iwX9_readText_X9 17 (by decide) (index := 90) flX9_readText_90 rfl rfl (v := .int (nI 1)) (rfl) (rfl) (Nat.le_of_ble_eq_true rfl) dX9_readText_38 ?_
      intro H locs hC
      obtain ⟨F4, eF4⟩ : ∃ f, f = va_up F3 175 (mObj ad c4) := ⟨_, rfl⟩
      have hC : Cu g lo 196 ad F4 ss ss.heap H locs := by rw [eF4, ec4]; exact hC
      have hM_F4 : MC g ad F4 c4 q sm := hM_F3.fld eF4
      have cv16_F4 : c4 16 = nI (tn v) := by rw [ec4, va_up_ne _ _ (by decide)]; exact cv16_F3
      have cv18_F4 : c4 18 = (-9) := by rw [ec4, va_up_ne _ _ (by decide)]; exact cv18_F3
      have cv5_F4 : c4 5 = nI 0 := by rw [ec4, va_up_ne _ _ (by decide)]; exact cv5_F3
      have cv17_F4 : c4 17 = nI 1 := by rw [ec4, va_up_self]
      have hS_F4 : Same 175 196 F F4 := by rw [eF4]; exact hS_F3.up (by decide) (by decide)
      refine lv_aload_n B.1 B.2.1 dX9_readText_41 rfl (lv_at hl 0 rfl) ?_
      refine lv_aload_n B.1 B.2.1 dX9_readText_42 rfl (lv_at hl 0 rfl) ?_
      refine lv_iconst (v := nI 0) B.1 B.2.1 dX9_readText_43 (by decide) ?_
      refine lv_bipush (v := nI 9) B.1 B.2.1 dX9_readText_44 (by decide) ?_
      refine r_tI (y := nI 10 - nI 1) (rfl) ?_
      refine r_calli B hC hl.1 (175) 9 rfl rfl (by decide) hM_F4.1 (As := [.int (nI 0), .int (nI 10 - nI 1)]) (ctX9_figure l g lo ad hM_F4 ok (hT.cq (((((CQ.rf (A := [5, 6, 7, 17, 18]) (B := [176, 177, 178, 179, 180])).uc ec1 (by decide)).uc ec2 (by decide)).uc ec3 (by decide)).uc ec4 (by decide)) (by decide) (by decide)) (z := (none, 1)) (show SR v (none, 1) c4 from ⟨(cv18_F4).trans rfl, cv17_F4, by show 1 ≤ tn v; omega, fun k hk => by cases hk⟩) (by decide) (by decide)) gX9_readText_X9_figure rfl (n := 2) rfl (by decide +kernel) ⟨Nat.le_of_ble_eq_true rfl, Nat.le_of_ble_eq_true rfl⟩ ⟨Nat.zero_le _, Nat.zero_le _⟩ rfl (Nat.le_of_ble_eq_true rfl) dX9_readText_46 (fun r46 F5 H locs hp46 hC => ?_)
      obtain ⟨c5, hM_F5, hT_F5, hk46, hr46, hs46⟩ := hp46
      have hS_F5 : Same 175 196 F F5 := Same.tr2 hS_F4 hT_F5 (by decide) (by decide)
      refine r_tI (y := nI (fgV v (none, 1) 0 10)) (hr46) ?_
      obtain ⟨c6, ec6⟩ : ∃ f, f = va_up c5 6 (nI (fgV v (none, 1) 0 10)) := ⟨_, rfl⟩
      refine r_cp B hC (i := 175) (by decide) hM_F5.1 tyX9 tyX9_ok nmX9 (C := RX9) (T := TX9) rfl iwX9_readText_X9 6 (by decide) (index := 100) flX9_readText_100 rfl rfl (v := .int (nI (fgV v (none, 1) 0 10))) (rfl) (rfl) (Nat.le_of_ble_eq_true rfl) dX9_readText_49 ?_
      intro H locs hC
      obtain ⟨F6, eF6⟩ : ∃ f, f = va_up F5 175 (mObj ad c6) := ⟨_, rfl⟩
      have hC : Cu g lo 196 ad F6 ss ss.heap H locs := by rw [eF6, ec6]; exact hC
      have hM_F6 : MC g ad F6 c6 q sm := hM_F5.fld eF6
      have cv16_F6 : c6 16 = nI (tn v) := by rw [ec6, va_up_ne _ _ (by decide)]; exact ((hk46.1 16 (by decide)).trans cv16_F4)
      have cv5_F6 : c6 5 = nI 0 := by rw [ec6, va_up_ne _ _ (by decide)]; exact ((hk46.1 5 (by decide)).trans cv5_F4)
      have cv17_F6 : c6 17 = nI (fgS v (none, 1) 0 10).2 := by rw [ec6, va_up_ne _ _ (by decide)]; exact hs46.2.1
      have cv18_F6 : c6 18 = oI (fgS v (none, 1) 0 10).1 := by rw [ec6, va_up_ne _ _ (by decide)]; exact hs46.1
      have cv6_F6 : c6 6 = nI (fgV v (none, 1) 0 10) := by rw [ec6, va_up_self]
      have hS_F6 : Same 175 196 F F6 := by rw [eF6]; exact hS_F5.up (by decide) (by decide)
      have ht9 := hdT_9 v
      refine lv_aload_n B.1 B.2.1 dX9_readText_52 rfl (lv_at hl 0 rfl) ?_
      refine lv_iconst (v := nI 0) B.1 B.2.1 dX9_readText_53 (by decide) ?_
      refine lv_bipush (v := nI 9) B.1 B.2.1 dX9_readText_54 (by decide) ?_
      refine r_tI (y := nI 10 - nI 1) (rfl) ?_
      refine r_calli B hC hl.1 (175) 9 rfl rfl (by decide) hM_F6.1 (As := [.int (nI 0), .int (nI 10 - nI 1)]) (ctX9_figure l g lo ad hM_F6 ok (hT.cq (((((((CQ.rf (A := [5, 6, 7, 17, 18]) (B := [176, 177, 178, 179, 180])).uc ec1 (by decide)).uc ec2 (by decide)).uc ec3 (by decide)).uc ec4 (by decide)).u1 hk46 (by decide) (by decide)).uc ec6 (by decide)) (by decide) (by decide)) (z := (fgS v (none, 1) 0 10)) (SR.up hs46 ec6 (by decide) (by decide)) (by decide) (by decide)) gX9_readText_X9_figure rfl (n := 2) rfl (by decide +kernel) ⟨Nat.le_of_ble_eq_true rfl, Nat.le_of_ble_eq_true rfl⟩ ⟨Nat.zero_le _, Nat.zero_le _⟩ rfl (Nat.le_of_ble_eq_true rfl) dX9_readText_56 (fun r56 F7 H locs hp56 hC => ?_)
      obtain ⟨c7, hM_F7, hT_F7, hk56, hr56, hs56⟩ := hp56
      have hS_F7 : Same 175 196 F F7 := Same.tr2 hS_F6 hT_F7 (by decide) (by decide)
      refine r_tI (y := nI (fgV v (fgS v (none, 1) 0 10) 0 10)) (hr56) ?_
      refine lv_istore_n (lv' := [(1, .int (nI (fgV v (fgS v (none, 1) 0 10) 0 10))), (0, .ref (ad (175)))]) B.1 B.2.1 dX9_readText_59 rfl hl (by decide) rfl (fun ls hl => ?_)
      refine lv_aload_n B.1 B.2.1 dX9_readText_60 rfl (lv_at hl 1 rfl) ?_
      refine lv_bipush (v := nI 10) B.1 B.2.1 dX9_readText_61 (by decide) ?_
      refine lv_iload_n B.1 B.2.1 dX9_readText_63 rfl (lv_at hl 0 rfl) ?_
      refine lv_imul B.1 B.2.1 dX9_readText_64 ?_
      refine r_tI (y := nI (10 * (fgV v (fgS v (none, 1) 0 10) 0 10))) (pk_mul _ _) ?_
      refine lv_aload_n B.1 B.2.1 dX9_readText_65 rfl (lv_at hl 1 rfl) ?_
      refine lv_iload_n B.1 B.2.1 dX9_readText_66 rfl (lv_at hl 0 rfl) ?_
      refine lv_if_ne (tgt := 74) B.1 B.2.1 dX9_readText_67 (by decide) (fun c_67 => ?_) (fun c_67 => ?_)
      · have q_67 : ¬ hdT v = 0 := fun z => c_67 (nI_eq0 z)
        refine lv_iconst (v := nI 0) B.1 B.2.1 dX9_readText_74 (by decide) ?_
        refine lv_bipush (v := nI 9) B.1 B.2.1 dX9_readText_75 (by decide) ?_
        refine r_tI (y := nI 10 - nI 1) (rfl) ?_
        refine r_calli B hC hl.1 (175) 9 rfl rfl (by decide) hM_F7.1 (As := [.int (nI 0), .int (nI 10 - nI 1)]) (ctX9_figure l g lo ad hM_F7 ok (hT.cq ((((((((CQ.rf (A := [5, 6, 7, 17, 18]) (B := [176, 177, 178, 179, 180])).uc ec1 (by decide)).uc ec2 (by decide)).uc ec3 (by decide)).uc ec4 (by decide)).u1 hk46 (by decide) (by decide)).uc ec6 (by decide)).u1 hk56 (by decide) (by decide)) (by decide) (by decide)) (z := (fgS v (fgS v (none, 1) 0 10) 0 10)) hs56 (by decide) (by decide)) gX9_readText_X9_figure rfl (n := 2) rfl (by decide +kernel) ⟨Nat.le_of_ble_eq_true rfl, Nat.le_of_ble_eq_true rfl⟩ ⟨Nat.zero_le _, Nat.zero_le _⟩ rfl (Nat.le_of_ble_eq_true rfl) dX9_readText_77 (fun r77 F8 H locs hp77 hC => ?_)
        obtain ⟨c8, hM_F8, hT_F8, hk77, hr77, hs77⟩ := hp77
        have hS_F8 : Same 175 196 F F8 := Same.tr2 hS_F7 hT_F8 (by decide) (by decide)
        refine r_tI (y := nI (fgV v (fgS v (fgS v (none, 1) 0 10) 0 10) 0 10)) (hr77) ?_
        refine lv_iadd B.1 B.2.1 dX9_readText_80 ?_
        refine r_tI (y := nI ((10 * (fgV v (fgS v (none, 1) 0 10) 0 10)) + (fgV v (fgS v (fgS v (none, 1) 0 10) 0 10) 0 10))) (nI_add _ _) ?_
        obtain ⟨c9, ec9⟩ : ∃ f, f = va_up c8 7 (nI ((10 * (fgV v (fgS v (none, 1) 0 10) 0 10)) + (fgV v (fgS v (fgS v (none, 1) 0 10) 0 10) 0 10))) := ⟨_, rfl⟩
        refine r_cp B hC (i := 175) (by decide) hM_F8.1 tyX9 tyX9_ok nmX9 (C := RX9) (T := TX9) rfl iwX9_readText_X9 7 (by decide) (index := 103) flX9_readText_103 rfl rfl (v := .int (nI ((10 * (fgV v (fgS v (none, 1) 0 10) 0 10)) + (fgV v (fgS v (fgS v (none, 1) 0 10) 0 10) 0 10)))) (rfl) (rfl) (Nat.le_of_ble_eq_true rfl) dX9_readText_81 ?_
        intro H locs hC
        obtain ⟨F9, eF9⟩ : ∃ f, f = va_up F8 175 (mObj ad c9) := ⟨_, rfl⟩
        have hC : Cu g lo 196 ad F9 ss ss.heap H locs := by rw [eF9, ec9]; exact hC
        have hM_F9 : MC g ad F9 c9 q sm := hM_F8.fld eF9
        have cv16_F9 : c9 16 = nI (tn v) := by rw [ec9, va_up_ne _ _ (by decide)]; exact ((hk77.1 16 (by decide)).trans ((hk56.1 16 (by decide)).trans cv16_F6))
        have cv5_F9 : c9 5 = nI 0 := by rw [ec9, va_up_ne _ _ (by decide)]; exact ((hk77.1 5 (by decide)).trans ((hk56.1 5 (by decide)).trans cv5_F6))
        have cv6_F9 : c9 6 = nI (fgV v (none, 1) 0 10) := by rw [ec9, va_up_ne _ _ (by decide)]; exact ((hk77.1 6 (by decide)).trans ((hk56.1 6 (by decide)).trans cv6_F6))
        have cv17_F9 : c9 17 = nI (fgS v (fgS v (fgS v (none, 1) 0 10) 0 10) 0 10).2 := by rw [ec9, va_up_ne _ _ (by decide)]; exact hs77.2.1
        have cv18_F9 : c9 18 = oI (fgS v (fgS v (fgS v (none, 1) 0 10) 0 10) 0 10).1 := by rw [ec9, va_up_ne _ _ (by decide)]; exact hs77.1
        have cv7_F9 : c9 7 = nI ((10 * (fgV v (fgS v (none, 1) 0 10) 0 10)) + (fgV v (fgS v (fgS v (none, 1) 0 10) 0 10) 0 10)) := by rw [ec9, va_up_self]
        have hS_F9 : Same 175 196 F F9 := by rw [eF9]; exact hS_F8.up (by decide) (by decide)
        have loop84 : ∀ (k : Nat) (f : Option Nat) (i p : Nat) (c1 : Nat → Int32) (q1 : Nat → Nat → Int32) (G : Nat → va_E), (MC g ad G c1 q1 sm) → (Same 175 196 F G) → (CQ [5, 6, 7, 17, 18] [176, 177, 178, 179, 180] c c1 q q1) → (SR v (f, i) c1) → (c1 5 = nI p) → (p ≤ 10) → (f = none → 11 ≤ p + k) → (LI v f i p c1 q1) → ∀ (H : Heap) (locs : List Loc) (ls : Array Slot), Cu g lo 196 ad G ss ss.heap H locs → lv_has ls 3 [(0, .ref (ad (175)))] → W pp l ee { frames := 3, cells := 0, slots := 0, locals := 70 } ss mm ([.ref (ad (175))] : List Value).toArray below meth cc H locs 0 0 (MQ below (va_Qi (fun r F' => r = oI (fAll v) ∧ ∃ c' q', MC g ad F' c' q' sm ∧ Same 175 196 F F' ∧ Scr c c' q q' ∧ (fAll v = none → ∃ n, n ≤ 10 ∧ WELL v n ∧ tn v ≤ off v n ∧ c' 5 = nI n ∧ c' 6 = nI (fig v 1) ∧ c' 7 = nI (10 * fig v 2 + fig v 3) ∧ RdR v n q')) (fun F' t => Wd g lo 196 ad F' t) (fun q => lo ≤ q)) ([.ref (ad (175))] : List Value).toArray ss 0 0 (fun q => lo ≤ q)) (F0 mm 84 ls []) := by
          intro k
          induction k with
          | zero =>
            intro f i p c1 q1 G hM1 hS1 hK1 hs1 h5 hp hm hL H locs ls hC hl
            have hf9 : ∀ k, f = some k → k < 2 ^ 31 := fun k hk => Nat.lt_of_le_of_lt (hs1.2.2.2 k hk) (by omega)
            have hi2 : i ≤ tn v := hs1.2.2.1
            have htb := ok.2 i
            have q_90 : ¬ f = none := fun y => by have z := hm y; omega
            refine lv_aload_n B.1 B.2.1 dX9_readText_84 rfl (lv_at hl 0 rfl) ?_
            refine r_cg B hC (i := 175) (by decide) hM1.1 (C := RX9) (T := TX9) (n := 35) rfl iwX9_readText_X9 18 (by decide) (index := 87) flX9_readText_87 rfl (v := .int (c1 18)) rfl dX9_readText_85 ?_
            refine r_tI (y := oI f) (hs1.1) ?_
            refine lv_bipush (v := (-9)) B.1 B.2.1 dX9_readText_88 (by decide) ?_
            refine lv_icmp_ne (tgt := 170) B.1 B.2.1 dX9_readText_90 (by decide) (fun _ => ?_) (fun z => absurd z (fun y => q_90 ((oI_9 hf9).mp y)))
            refine lv_aload_n B.1 B.2.1 dX9_readText_170 rfl (lv_at hl 0 rfl) ?_
            refine r_cg B hC (i := 175) (by decide) hM1.1 (C := RX9) (T := TX9) (n := 35) rfl iwX9_readText_X9 18 (by decide) (index := 87) flX9_readText_87 rfl (v := .int (c1 18)) rfl dX9_readText_171 ?_
            refine r_tI (y := oI f) (hs1.1) ?_
            exact r_eI B hC (v := oI f) (⟨by cases f with | none => exact absurd rfl q_90 | some k9 => rw [hL.1 k9 rfl], _, _, hM1, hS1, Scr.rf.cq hK1, fun z => by cases f with | none => exact absurd rfl q_90 | some k9 => rw [hL.1 k9 rfl] at z; cases z⟩) dX9_readText_174
          | succ k ih84 =>
            intro f i p c1 q1 G hM1 hS1 hK1 hs1 h5 hp hm hL H locs ls hC hl
            have hf9 : ∀ k, f = some k → k < 2 ^ 31 := fun k hk => Nat.lt_of_le_of_lt (hs1.2.2.2 k hk) (by omega)
            have hi2 : i ≤ tn v := hs1.2.2.1
            have htb := ok.2 i
            refine lv_aload_n B.1 B.2.1 dX9_readText_84 rfl (lv_at hl 0 rfl) ?_
            refine r_cg B hC (i := 175) (by decide) hM1.1 (C := RX9) (T := TX9) (n := 35) rfl iwX9_readText_X9 18 (by decide) (index := 87) flX9_readText_87 rfl (v := .int (c1 18)) rfl dX9_readText_85 ?_
            refine r_tI (y := oI f) (hs1.1) ?_
            refine lv_bipush (v := (-9)) B.1 B.2.1 dX9_readText_88 (by decide) ?_
            refine lv_icmp_ne (tgt := 170) B.1 B.2.1 dX9_readText_90 (by decide) (fun c_90 => ?_) (fun c_90 => ?_)
            · have q_90 : ¬ f = none := fun y => c_90 ((oI_9 hf9).mpr y)
              refine lv_aload_n B.1 B.2.1 dX9_readText_170 rfl (lv_at hl 0 rfl) ?_
              refine r_cg B hC (i := 175) (by decide) hM1.1 (C := RX9) (T := TX9) (n := 35) rfl iwX9_readText_X9 18 (by decide) (index := 87) flX9_readText_87 rfl (v := .int (c1 18)) rfl dX9_readText_171 ?_
              refine r_tI (y := oI f) (hs1.1) ?_
              exact r_eI B hC (v := oI f) (⟨by cases f with | none => exact absurd rfl q_90 | some k9 => rw [hL.1 k9 rfl], _, _, hM1, hS1, Scr.rf.cq hK1, fun z => by cases f with | none => exact absurd rfl q_90 | some k9 => rw [hL.1 k9 rfl] at z; cases z⟩) dX9_readText_174
            · have q_90 : f = none := (oI_9 hf9).mp c_90
              subst q_90
              refine lv_aload_n B.1 B.2.1 dX9_readText_93 rfl (lv_at hl 0 rfl) ?_
              refine r_cg B hC (i := 175) (by decide) hM1.1 (C := RX9) (T := TX9) (n := 35) rfl iwX9_readText_X9 17 (by decide) (index := 90) flX9_readText_90 rfl (v := .int (c1 17)) rfl dX9_readText_94 ?_
              refine r_tI (y := nI i) (hs1.2.1) ?_
              refine lv_aload_n B.1 B.2.1 dX9_readText_97 rfl (lv_at hl 0 rfl) ?_
              refine r_cg B hC (i := 175) (by decide) hM1.1 (C := RX9) (T := TX9) (n := 35) rfl iwX9_readText_X9 16 (by decide) (index := 82) flX9_readText_82 rfl (v := .int (c1 16)) rfl dX9_readText_98 ?_
              refine r_tI (y := nI (tn v)) ((hT.cq hK1 (by decide) (by decide)).1) ?_
              refine lv_icmp_ge (tgt := 170) B.1 B.2.1 dX9_readText_101 (by decide) (fun c_101 => ?_) (fun c_101 => ?_)
              · have q_101 : (tn v) ≤ i := (nI_leI (by omega) (by omega)).mp c_101
                refine lv_aload_n B.1 B.2.1 dX9_readText_170 rfl (lv_at hl 0 rfl) ?_
                refine r_cg B hC (i := 175) (by decide) hM1.1 (C := RX9) (T := TX9) (n := 35) rfl iwX9_readText_X9 18 (by decide) (index := 87) flX9_readText_87 rfl (v := .int (c1 18)) rfl dX9_readText_171 ?_
                refine r_tI (y := oI none) (hs1.1) ?_
                exact r_eI B hC (v := oI none) (⟨by rw [li_end hL q_101], _, _, hM1, hS1, Scr.rf.cq hK1, fun _ => ⟨p, hp, (hL.2 rfl).2.2.1, by rw [← (hL.2 rfl).2.1]; exact q_101, h5, (hL.2 rfl).2.2.2.2.1, (hL.2 rfl).2.2.2.2.2, (hL.2 rfl).2.2.2.1⟩⟩) dX9_readText_174
              · have q_101 : ¬ (tn v) ≤ i := fun z => c_101 ((nI_leI (by omega) (by omega)).mpr z)
                refine lv_aload_n B.1 B.2.1 dX9_readText_104 rfl (lv_at hl 0 rfl) ?_
                refine r_cg B hC (i := 175) (by decide) hM1.1 (C := RX9) (T := TX9) (n := 35) rfl iwX9_readText_X9 15 (by decide) (index := 37) flX9_readText_37 rfl (v := .ref (ad (185))) rfl dX9_readText_105 ?_
                refine lv_aload_n B.1 B.2.1 dX9_readText_108 rfl (lv_at hl 0 rfl) ?_
                refine r_cg B hC (i := 175) (by decide) hM1.1 (C := RX9) (T := TX9) (n := 35) rfl iwX9_readText_X9 17 (by decide) (index := 90) flX9_readText_90 rfl (v := .int (c1 17)) rfl dX9_readText_109 ?_
                refine r_tI (y := nI i) (hs1.2.1) ?_
                refine r_cald B hC (i := 185) (by decide) hM1.c185 (j := i) (by omega) (by decide) dX9_readText_112 ?_
                refine r_tI (y := q1 185 i) rfl ?_
                refine r_tI (y := nI (tb v i)) ((hT.cq hK1 (by decide) (by decide)).2 i (by omega)) ?_
                refine lv_bipush (v := nI 80) B.1 B.2.1 dX9_readText_113 (by decide) ?_
                refine lv_icmp_ne (tgt := 122) B.1 B.2.1 dX9_readText_115 (by decide) (fun c_115 => ?_) (fun c_115 => ?_)
                · have q_115 : ¬ (tb v i) = 80 := fun z => c_115 ((nI_eq (by omega) (by omega)).mpr z)
                  refine lv_iconst (v := nI 0) B.1 B.2.1 dX9_readText_122 (by decide) ?_
                  refine lv_istore_n (lv' := [(2, .int (nI 0)), (0, .ref (ad (175)))]) B.1 B.2.1 dX9_readText_123 rfl hl (by decide) rfl (fun ls hl => ?_)
                  refine lv_iload_n B.1 B.2.1 dX9_readText_124 rfl (lv_at hl 0 rfl) ?_
                  refine lv_if_ne (tgt := 142) B.1 B.2.1 dX9_readText_125 (by decide) (fun z => absurd (by decide) z) (fun _ => ?_)
                  refine lv_aload_n B.1 B.2.1 dX9_readText_128 rfl (lv_at hl 1 rfl) ?_
                  refine r_cg B hC (i := 175) (by decide) hM1.1 (C := RX9) (T := TX9) (n := 35) rfl iwX9_readText_X9 15 (by decide) (index := 37) flX9_readText_37 rfl (v := .ref (ad (185))) rfl dX9_readText_129 ?_
                  refine lv_aload_n B.1 B.2.1 dX9_readText_132 rfl (lv_at hl 1 rfl) ?_
                  refine r_cg B hC (i := 175) (by decide) hM1.1 (C := RX9) (T := TX9) (n := 35) rfl iwX9_readText_X9 17 (by decide) (index := 90) flX9_readText_90 rfl (v := .int (c1 17)) rfl dX9_readText_133 ?_
                  refine r_tI (y := nI i) (hs1.2.1) ?_
                  refine r_cald B hC (i := 185) (by decide) hM1.c185 (j := i) (by omega) (by decide) dX9_readText_136 ?_
                  refine r_tI (y := q1 185 i) rfl ?_
                  refine r_tI (y := nI (tb v i)) ((hT.cq hK1 (by decide) (by decide)).2 i (by omega)) ?_
                  refine lv_bipush (v := nI 79) B.1 B.2.1 dX9_readText_137 (by decide) ?_
                  refine lv_icmp_ne (tgt := 159) B.1 B.2.1 dX9_readText_139 (by decide) (fun c_139 => ?_) (fun c_139 => ?_)
                  · have q_139 : ¬ (tb v i) = 79 := fun z => c_139 ((nI_eq (by omega) (by omega)).mpr z)
                    refine lv_aload_n B.1 B.2.1 dX9_readText_159 rfl (lv_at hl 1 rfl) ?_
                    refine lv_aload_n B.1 B.2.1 dX9_readText_160 rfl (lv_at hl 1 rfl) ?_
                    refine r_cg B hC (i := 175) (by decide) hM1.1 (C := RX9) (T := TX9) (n := 35) rfl iwX9_readText_X9 17 (by decide) (index := 90) flX9_readText_90 rfl (v := .int (c1 17)) rfl dX9_readText_161 ?_
                    refine r_tI (y := nI i) (hs1.2.1) ?_
                    obtain ⟨c31, ec31⟩ : ∃ f, f = va_up c1 18 (nI i) := ⟨_, rfl⟩
                    refine r_cp B hC (i := 175) (by decide) hM1.1 tyX9 tyX9_ok nmX9 (C := RX9) (T := TX9) rfl iwX9_readText_X9 18 (by decide) (index := 87) flX9_readText_87 rfl rfl (v := .int (nI i)) (rfl) (rfl) (Nat.le_of_ble_eq_true rfl) dX9_readText_164 ?_
                    intro H locs hC
                    obtain ⟨F31, eF31⟩ : ∃ f, f = va_up G 175 (mObj ad c31) := ⟨_, rfl⟩
                    have hC : Cu g lo 196 ad F31 ss ss.heap H locs := by rw [eF31, ec31]; exact hC
                    have hM_F31 : MC g ad F31 c31 q1 sm := hM1.fld eF31
                    have cv5_F31 : c31 5 = nI p := by rw [ec31, va_up_ne _ _ (by decide)]; exact h5
                    have cv16_F31 : c31 16 = nI (tn v) := by rw [ec31, va_up_ne _ _ (by decide)]; exact (hT.cq hK1 (by decide) (by decide)).1
                    have cv17_F31 : c31 17 = nI i := by rw [ec31, va_up_ne _ _ (by decide)]; exact hs1.2.1
                    have cv18_F31 : c31 18 = nI i := by rw [ec31, va_up_self]
                    have hS_F31 : Same 175 196 F F31 := by rw [eF31]; exact hS1.up (by decide) (by decide)
                    refine lv_goto (tgt := 84) B.1 B.2.1 dX9_readText_167 (by decide) ?_
                    exact ih84 (some i) i p c31 q1 F31 hM_F31 hS_F31 (hK1.uc ec31 (by decide)) ⟨cv18_F31, cv17_F31, hi2, fun k hk => by cases hk; exact hi2⟩ cv5_F31 hp (fun z => by cases z) (li_bad hL (by omega) (by rcases Nat.lt_or_ge p 10 with y | y; exact Or.inr ⟨y, tat_no (by omega) q_115 q_139⟩; exact Or.inl (by omega))) _ _ ls hC (lv_sub hl [1] rfl)
                  · have q_139 : (tb v i) = 79 := (nI_eq (by omega) (by omega)).mp c_139
                    refine lv_aload_n B.1 B.2.1 dX9_readText_142 rfl (lv_at hl 1 rfl) ?_
                    refine r_cg B hC (i := 175) (by decide) hM1.1 (C := RX9) (T := TX9) (n := 35) rfl iwX9_readText_X9 5 (by decide) (index := 93) flX9_readText_93 rfl (v := .int (c1 5)) rfl dX9_readText_143 ?_
                    refine r_tI (y := nI p) (h5) ?_
                    refine lv_bipush (v := nI 10) B.1 B.2.1 dX9_readText_146 (by decide) ?_
                    refine lv_icmp_ge (tgt := 159) B.1 B.2.1 dX9_readText_148 (by decide) (fun c_148 => ?_) (fun c_148 => ?_)
                    · have q_148 : 10 ≤ p := (nI_leI (by omega) (by omega)).mp c_148
                      refine lv_aload_n B.1 B.2.1 dX9_readText_159 rfl (lv_at hl 1 rfl) ?_
                      refine lv_aload_n B.1 B.2.1 dX9_readText_160 rfl (lv_at hl 1 rfl) ?_
                      refine r_cg B hC (i := 175) (by decide) hM1.1 (C := RX9) (T := TX9) (n := 35) rfl iwX9_readText_X9 17 (by decide) (index := 90) flX9_readText_90 rfl (v := .int (c1 17)) rfl dX9_readText_161 ?_
                      refine r_tI (y := nI i) (hs1.2.1) ?_
                      obtain ⟨c31, ec31⟩ : ∃ f, f = va_up c1 18 (nI i) := ⟨_, rfl⟩
                      refine r_cp B hC (i := 175) (by decide) hM1.1 tyX9 tyX9_ok nmX9 (C := RX9) (T := TX9) rfl iwX9_readText_X9 18 (by decide) (index := 87) flX9_readText_87 rfl rfl (v := .int (nI i)) (rfl) (rfl) (Nat.le_of_ble_eq_true rfl) dX9_readText_164 ?_
                      intro H locs hC
                      obtain ⟨F31, eF31⟩ : ∃ f, f = va_up G 175 (mObj ad c31) := ⟨_, rfl⟩
                      have hC : Cu g lo 196 ad F31 ss ss.heap H locs := by rw [eF31, ec31]; exact hC
                      have hM_F31 : MC g ad F31 c31 q1 sm := hM1.fld eF31
                      have cv5_F31 : c31 5 = nI p := by rw [ec31, va_up_ne _ _ (by decide)]; exact h5
                      have cv16_F31 : c31 16 = nI (tn v) := by rw [ec31, va_up_ne _ _ (by decide)]; exact (hT.cq hK1 (by decide) (by decide)).1
                      have cv17_F31 : c31 17 = nI i := by rw [ec31, va_up_ne _ _ (by decide)]; exact hs1.2.1
                      have cv18_F31 : c31 18 = nI i := by rw [ec31, va_up_self]
                      have hS_F31 : Same 175 196 F F31 := by rw [eF31]; exact hS1.up (by decide) (by decide)
                      refine lv_goto (tgt := 84) B.1 B.2.1 dX9_readText_167 (by decide) ?_
                      exact ih84 (some i) i p c31 q1 F31 hM_F31 hS_F31 (hK1.uc ec31 (by decide)) ⟨cv18_F31, cv17_F31, hi2, fun k hk => by cases hk; exact hi2⟩ cv5_F31 hp (fun z => by cases z) (li_bad hL (by omega) (Or.inl (by omega))) _ _ ls hC (lv_sub hl [1] rfl)
                    · have q_148 : ¬ 10 ≤ p := fun z => c_148 ((nI_leI (by omega) (by omega)).mpr z)
                      refine lv_aload_n B.1 B.2.1 dX9_readText_151 rfl (lv_at hl 1 rfl) ?_
                      refine lv_iload_n B.1 B.2.1 dX9_readText_152 rfl (lv_at hl 0 rfl) ?_
                      refine r_tI (y := bI false) (rfl) ?_
                      refine r_callv B hC hl.1 (175) 9 rfl rfl (by decide) hM1.1 (As := [.int (bI false)]) (ctX9_readPlace l g lo ad hM1 ok (hT.cq hK1 (by decide) (by decide)) (b := false) (i := i) (p := p) hs1 (by omega) h5 (by omega)) gX9_readText_X9_readPlace rfl (n := 1) rfl (by decide +kernel) ⟨Nat.le_of_ble_eq_true rfl, Nat.le_of_ble_eq_true rfl⟩ ⟨Nat.zero_le _, Nat.zero_le _⟩ rfl (Nat.le_of_ble_eq_true rfl) dX9_readText_153 (fun F31 H locs hp153 hC => ?_)
                      obtain ⟨c31, q31, hM_F31, hT_F31, hk153, hs153, h5n, hr153⟩ := hp153
                      have hS_F31 : Same 175 196 F F31 := Same.tr2 hS1 hT_F31 (by decide) (by decide)
                      refine lv_goto (tgt := 167) B.1 B.2.1 dX9_readText_156 (by decide) ?_
                      refine lv_goto (tgt := 84) B.1 B.2.1 dX9_readText_167 (by decide) ?_
                      exact ih84 (rpl5 v false i p).1 (rpl5 v false i p).2 (p + 1) c31 q31 F31 hM_F31 hS_F31 (hK1.tr (hk153.wide (by decide) (by decide))) hs153 h5n (by omega) (fun _ => by have := hm rfl; omega) (li_step hL (by omega) (by omega) (Or.inr ⟨tat_is (by omega) q_139, rfl⟩) hr153 (fun k hk => hk153.1 k (by rcases hk with rfl | rfl <;> decide))) _ _ ls hC (lv_sub hl [1] rfl)
                · have q_115 : (tb v i) = 80 := (nI_eq (by omega) (by omega)).mp c_115
                  refine lv_iconst (v := nI 1) B.1 B.2.1 dX9_readText_118 (by decide) ?_
                  refine lv_goto (tgt := 123) B.1 B.2.1 dX9_readText_119 (by decide) ?_
                  refine lv_istore_n (lv' := [(2, .int (nI 1)), (0, .ref (ad (175)))]) B.1 B.2.1 dX9_readText_123 rfl hl (by decide) rfl (fun ls hl => ?_)
                  refine lv_iload_n B.1 B.2.1 dX9_readText_124 rfl (lv_at hl 0 rfl) ?_
                  refine lv_if_ne (tgt := 142) B.1 B.2.1 dX9_readText_125 (by decide) (fun _ => ?_) (fun z => absurd z (by decide))
                  refine lv_aload_n B.1 B.2.1 dX9_readText_142 rfl (lv_at hl 1 rfl) ?_
                  refine r_cg B hC (i := 175) (by decide) hM1.1 (C := RX9) (T := TX9) (n := 35) rfl iwX9_readText_X9 5 (by decide) (index := 93) flX9_readText_93 rfl (v := .int (c1 5)) rfl dX9_readText_143 ?_
                  refine r_tI (y := nI p) (h5) ?_
                  refine lv_bipush (v := nI 10) B.1 B.2.1 dX9_readText_146 (by decide) ?_
                  refine lv_icmp_ge (tgt := 159) B.1 B.2.1 dX9_readText_148 (by decide) (fun c_148 => ?_) (fun c_148 => ?_)
                  · have q_148 : 10 ≤ p := (nI_leI (by omega) (by omega)).mp c_148
                    refine lv_aload_n B.1 B.2.1 dX9_readText_159 rfl (lv_at hl 1 rfl) ?_
                    refine lv_aload_n B.1 B.2.1 dX9_readText_160 rfl (lv_at hl 1 rfl) ?_
                    refine r_cg B hC (i := 175) (by decide) hM1.1 (C := RX9) (T := TX9) (n := 35) rfl iwX9_readText_X9 17 (by decide) (index := 90) flX9_readText_90 rfl (v := .int (c1 17)) rfl dX9_readText_161 ?_
                    refine r_tI (y := nI i) (hs1.2.1) ?_
                    obtain ⟨c31, ec31⟩ : ∃ f, f = va_up c1 18 (nI i) := ⟨_, rfl⟩
                    refine r_cp B hC (i := 175) (by decide) hM1.1 tyX9 tyX9_ok nmX9 (C := RX9) (T := TX9) rfl iwX9_readText_X9 18 (by decide) (index := 87) flX9_readText_87 rfl rfl (v := .int (nI i)) (rfl) (rfl) (Nat.le_of_ble_eq_true rfl) dX9_readText_164 ?_
                    intro H locs hC
                    obtain ⟨F31, eF31⟩ : ∃ f, f = va_up G 175 (mObj ad c31) := ⟨_, rfl⟩
                    have hC : Cu g lo 196 ad F31 ss ss.heap H locs := by rw [eF31, ec31]; exact hC
                    have hM_F31 : MC g ad F31 c31 q1 sm := hM1.fld eF31
                    have cv5_F31 : c31 5 = nI p := by rw [ec31, va_up_ne _ _ (by decide)]; exact h5
                    have cv16_F31 : c31 16 = nI (tn v) := by rw [ec31, va_up_ne _ _ (by decide)]; exact (hT.cq hK1 (by decide) (by decide)).1
                    have cv17_F31 : c31 17 = nI i := by rw [ec31, va_up_ne _ _ (by decide)]; exact hs1.2.1
                    have cv18_F31 : c31 18 = nI i := by rw [ec31, va_up_self]
                    have hS_F31 : Same 175 196 F F31 := by rw [eF31]; exact hS1.up (by decide) (by decide)
                    refine lv_goto (tgt := 84) B.1 B.2.1 dX9_readText_167 (by decide) ?_
                    exact ih84 (some i) i p c31 q1 F31 hM_F31 hS_F31 (hK1.uc ec31 (by decide)) ⟨cv18_F31, cv17_F31, hi2, fun k hk => by cases hk; exact hi2⟩ cv5_F31 hp (fun z => by cases z) (li_bad hL (by omega) (Or.inl (by omega))) _ _ ls hC (lv_sub hl [1] rfl)
                  · have q_148 : ¬ 10 ≤ p := fun z => c_148 ((nI_leI (by omega) (by omega)).mpr z)
                    refine lv_aload_n B.1 B.2.1 dX9_readText_151 rfl (lv_at hl 1 rfl) ?_
                    refine lv_iload_n B.1 B.2.1 dX9_readText_152 rfl (lv_at hl 0 rfl) ?_
                    refine r_tI (y := bI true) (rfl) ?_
                    refine r_callv B hC hl.1 (175) 9 rfl rfl (by decide) hM1.1 (As := [.int (bI true)]) (ctX9_readPlace l g lo ad hM1 ok (hT.cq hK1 (by decide) (by decide)) (b := true) (i := i) (p := p) hs1 (by omega) h5 (by omega)) gX9_readText_X9_readPlace rfl (n := 1) rfl (by decide +kernel) ⟨Nat.le_of_ble_eq_true rfl, Nat.le_of_ble_eq_true rfl⟩ ⟨Nat.zero_le _, Nat.zero_le _⟩ rfl (Nat.le_of_ble_eq_true rfl) dX9_readText_153 (fun F31 H locs hp153 hC => ?_)
                    obtain ⟨c31, q31, hM_F31, hT_F31, hk153, hs153, h5n, hr153⟩ := hp153
                    have hS_F31 : Same 175 196 F F31 := Same.tr2 hS1 hT_F31 (by decide) (by decide)
                    refine lv_goto (tgt := 167) B.1 B.2.1 dX9_readText_156 (by decide) ?_
                    refine lv_goto (tgt := 84) B.1 B.2.1 dX9_readText_167 (by decide) ?_
                    exact ih84 (rpl5 v true i p).1 (rpl5 v true i p).2 (p + 1) c31 q31 F31 hM_F31 hS_F31 (hK1.tr (hk153.wide (by decide) (by decide))) hs153 h5n (by omega) (fun _ => by have := hm rfl; omega) (li_step hL (by omega) (by omega) (Or.inl ⟨tat_is (by omega) q_115, rfl⟩) hr153 (fun k hk => hk153.1 k (by rcases hk with rfl | rfl <;> decide))) _ _ ls hC (lv_sub hl [1] rfl)
        exact loop84 11 (hd3 v).1 (hd3 v).2 0 c9 q F9 hM_F9 hS_F9 ((((((((((CQ.rf (A := [5, 6, 7, 17, 18]) (B := [176, 177, 178, 179, 180])).uc ec1 (by decide)).uc ec2 (by decide)).uc ec3 (by decide)).uc ec4 (by decide)).u1 hk46 (by decide) (by decide)).uc ec6 (by decide)).u1 hk56 (by decide) (by decide)).u1 hk77 (by decide) (by decide)).uc ec9 (by decide)) (by have z := SR.up hs77 ec9 (by decide) (by decide); unfold hd3; rw [if_neg q_67]; exact z) cv5_F9 (by omega) (fun _ => by omega) (li_init (is_83 q_20 q_31) cv6_F9 ((cv7_F9).trans (by rw [if_neg q_67]; rfl))) _ _ ls hC (lv_sub hl [1] rfl)
      · have q_67 : hdT v = 0 := Classical.byContradiction (fun z => nI_ne0 (show 0 < hdT v by omega) (by omega) c_67)
        refine lv_iconst (v := nI 1) B.1 B.2.1 dX9_readText_70 (by decide) ?_
        refine lv_goto (tgt := 75) B.1 B.2.1 dX9_readText_71 (by decide) ?_
        refine lv_bipush (v := nI 9) B.1 B.2.1 dX9_readText_75 (by decide) ?_
        refine r_tI (y := nI 10 - nI 1) (rfl) ?_
        refine r_calli B hC hl.1 (175) 9 rfl rfl (by decide) hM_F7.1 (As := [.int (nI 1), .int (nI 10 - nI 1)]) (ctX9_figure l g lo ad hM_F7 ok (hT.cq ((((((((CQ.rf (A := [5, 6, 7, 17, 18]) (B := [176, 177, 178, 179, 180])).uc ec1 (by decide)).uc ec2 (by decide)).uc ec3 (by decide)).uc ec4 (by decide)).u1 hk46 (by decide) (by decide)).uc ec6 (by decide)).u1 hk56 (by decide) (by decide)) (by decide) (by decide)) (z := (fgS v (fgS v (none, 1) 0 10) 0 10)) hs56 (by decide) (by decide)) gX9_readText_X9_figure rfl (n := 2) rfl (by decide +kernel) ⟨Nat.le_of_ble_eq_true rfl, Nat.le_of_ble_eq_true rfl⟩ ⟨Nat.zero_le _, Nat.zero_le _⟩ rfl (Nat.le_of_ble_eq_true rfl) dX9_readText_77 (fun r77 F8 H locs hp77 hC => ?_)
        obtain ⟨c8, hM_F8, hT_F8, hk77, hr77, hs77⟩ := hp77
        have hS_F8 : Same 175 196 F F8 := Same.tr2 hS_F7 hT_F8 (by decide) (by decide)
        refine r_tI (y := nI (fgV v (fgS v (fgS v (none, 1) 0 10) 0 10) 1 10)) (hr77) ?_
        refine lv_iadd B.1 B.2.1 dX9_readText_80 ?_
        refine r_tI (y := nI ((10 * (fgV v (fgS v (none, 1) 0 10) 0 10)) + (fgV v (fgS v (fgS v (none, 1) 0 10) 0 10) 1 10))) (nI_add _ _) ?_
        obtain ⟨c9, ec9⟩ : ∃ f, f = va_up c8 7 (nI ((10 * (fgV v (fgS v (none, 1) 0 10) 0 10)) + (fgV v (fgS v (fgS v (none, 1) 0 10) 0 10) 1 10))) := ⟨_, rfl⟩
        refine r_cp B hC (i := 175) (by decide) hM_F8.1 tyX9 tyX9_ok nmX9 (C := RX9) (T := TX9) rfl iwX9_readText_X9 7 (by decide) (index := 103) flX9_readText_103 rfl rfl (v := .int (nI ((10 * (fgV v (fgS v (none, 1) 0 10) 0 10)) + (fgV v (fgS v (fgS v (none, 1) 0 10) 0 10) 1 10)))) (rfl) (rfl) (Nat.le_of_ble_eq_true rfl) dX9_readText_81 ?_
        intro H locs hC
        obtain ⟨F9, eF9⟩ : ∃ f, f = va_up F8 175 (mObj ad c9) := ⟨_, rfl⟩
        have hC : Cu g lo 196 ad F9 ss ss.heap H locs := by rw [eF9, ec9]; exact hC
        have hM_F9 : MC g ad F9 c9 q sm := hM_F8.fld eF9
        have cv16_F9 : c9 16 = nI (tn v) := by rw [ec9, va_up_ne _ _ (by decide)]; exact ((hk77.1 16 (by decide)).trans ((hk56.1 16 (by decide)).trans cv16_F6))
        have cv5_F9 : c9 5 = nI 0 := by rw [ec9, va_up_ne _ _ (by decide)]; exact ((hk77.1 5 (by decide)).trans ((hk56.1 5 (by decide)).trans cv5_F6))
        have cv6_F9 : c9 6 = nI (fgV v (none, 1) 0 10) := by rw [ec9, va_up_ne _ _ (by decide)]; exact ((hk77.1 6 (by decide)).trans ((hk56.1 6 (by decide)).trans cv6_F6))
        have cv17_F9 : c9 17 = nI (fgS v (fgS v (fgS v (none, 1) 0 10) 0 10) 1 10).2 := by rw [ec9, va_up_ne _ _ (by decide)]; exact hs77.2.1
        have cv18_F9 : c9 18 = oI (fgS v (fgS v (fgS v (none, 1) 0 10) 0 10) 1 10).1 := by rw [ec9, va_up_ne _ _ (by decide)]; exact hs77.1
        have cv7_F9 : c9 7 = nI ((10 * (fgV v (fgS v (none, 1) 0 10) 0 10)) + (fgV v (fgS v (fgS v (none, 1) 0 10) 0 10) 1 10)) := by rw [ec9, va_up_self]
        have hS_F9 : Same 175 196 F F9 := by rw [eF9]; exact hS_F8.up (by decide) (by decide)
        have loop84 : ∀ (k : Nat) (f : Option Nat) (i p : Nat) (c1 : Nat → Int32) (q1 : Nat → Nat → Int32) (G : Nat → va_E), (MC g ad G c1 q1 sm) → (Same 175 196 F G) → (CQ [5, 6, 7, 17, 18] [176, 177, 178, 179, 180] c c1 q q1) → (SR v (f, i) c1) → (c1 5 = nI p) → (p ≤ 10) → (f = none → 11 ≤ p + k) → (LI v f i p c1 q1) → ∀ (H : Heap) (locs : List Loc) (ls : Array Slot), Cu g lo 196 ad G ss ss.heap H locs → lv_has ls 3 [(0, .ref (ad (175)))] → W pp l ee { frames := 3, cells := 0, slots := 0, locals := 70 } ss mm ([.ref (ad (175))] : List Value).toArray below meth cc H locs 0 0 (MQ below (va_Qi (fun r F' => r = oI (fAll v) ∧ ∃ c' q', MC g ad F' c' q' sm ∧ Same 175 196 F F' ∧ Scr c c' q q' ∧ (fAll v = none → ∃ n, n ≤ 10 ∧ WELL v n ∧ tn v ≤ off v n ∧ c' 5 = nI n ∧ c' 6 = nI (fig v 1) ∧ c' 7 = nI (10 * fig v 2 + fig v 3) ∧ RdR v n q')) (fun F' t => Wd g lo 196 ad F' t) (fun q => lo ≤ q)) ([.ref (ad (175))] : List Value).toArray ss 0 0 (fun q => lo ≤ q)) (F0 mm 84 ls []) := by
          intro k
          induction k with
          | zero =>
            intro f i p c1 q1 G hM1 hS1 hK1 hs1 h5 hp hm hL H locs ls hC hl
            have hf9 : ∀ k, f = some k → k < 2 ^ 31 := fun k hk => Nat.lt_of_le_of_lt (hs1.2.2.2 k hk) (by omega)
            have hi2 : i ≤ tn v := hs1.2.2.1
            have htb := ok.2 i
            have q_90 : ¬ f = none := fun y => by have z := hm y; omega
            refine lv_aload_n B.1 B.2.1 dX9_readText_84 rfl (lv_at hl 0 rfl) ?_
            refine r_cg B hC (i := 175) (by decide) hM1.1 (C := RX9) (T := TX9) (n := 35) rfl iwX9_readText_X9 18 (by decide) (index := 87) flX9_readText_87 rfl (v := .int (c1 18)) rfl dX9_readText_85 ?_
            refine r_tI (y := oI f) (hs1.1) ?_
            refine lv_bipush (v := (-9)) B.1 B.2.1 dX9_readText_88 (by decide) ?_
            refine lv_icmp_ne (tgt := 170) B.1 B.2.1 dX9_readText_90 (by decide) (fun _ => ?_) (fun z => absurd z (fun y => q_90 ((oI_9 hf9).mp y)))
            refine lv_aload_n B.1 B.2.1 dX9_readText_170 rfl (lv_at hl 0 rfl) ?_
            refine r_cg B hC (i := 175) (by decide) hM1.1 (C := RX9) (T := TX9) (n := 35) rfl iwX9_readText_X9 18 (by decide) (index := 87) flX9_readText_87 rfl (v := .int (c1 18)) rfl dX9_readText_171 ?_
            refine r_tI (y := oI f) (hs1.1) ?_
            exact r_eI B hC (v := oI f) (⟨by cases f with | none => exact absurd rfl q_90 | some k9 => rw [hL.1 k9 rfl], _, _, hM1, hS1, Scr.rf.cq hK1, fun z => by cases f with | none => exact absurd rfl q_90 | some k9 => rw [hL.1 k9 rfl] at z; cases z⟩) dX9_readText_174
          | succ k ih84 =>
            intro f i p c1 q1 G hM1 hS1 hK1 hs1 h5 hp hm hL H locs ls hC hl
            have hf9 : ∀ k, f = some k → k < 2 ^ 31 := fun k hk => Nat.lt_of_le_of_lt (hs1.2.2.2 k hk) (by omega)
            have hi2 : i ≤ tn v := hs1.2.2.1
            have htb := ok.2 i
            refine lv_aload_n B.1 B.2.1 dX9_readText_84 rfl (lv_at hl 0 rfl) ?_
            refine r_cg B hC (i := 175) (by decide) hM1.1 (C := RX9) (T := TX9) (n := 35) rfl iwX9_readText_X9 18 (by decide) (index := 87) flX9_readText_87 rfl (v := .int (c1 18)) rfl dX9_readText_85 ?_
            refine r_tI (y := oI f) (hs1.1) ?_
            refine lv_bipush (v := (-9)) B.1 B.2.1 dX9_readText_88 (by decide) ?_
            refine lv_icmp_ne (tgt := 170) B.1 B.2.1 dX9_readText_90 (by decide) (fun c_90 => ?_) (fun c_90 => ?_)
            · have q_90 : ¬ f = none := fun y => c_90 ((oI_9 hf9).mpr y)
              refine lv_aload_n B.1 B.2.1 dX9_readText_170 rfl (lv_at hl 0 rfl) ?_
              refine r_cg B hC (i := 175) (by decide) hM1.1 (C := RX9) (T := TX9) (n := 35) rfl iwX9_readText_X9 18 (by decide) (index := 87) flX9_readText_87 rfl (v := .int (c1 18)) rfl dX9_readText_171 ?_
              refine r_tI (y := oI f) (hs1.1) ?_
              exact r_eI B hC (v := oI f) (⟨by cases f with | none => exact absurd rfl q_90 | some k9 => rw [hL.1 k9 rfl], _, _, hM1, hS1, Scr.rf.cq hK1, fun z => by cases f with | none => exact absurd rfl q_90 | some k9 => rw [hL.1 k9 rfl] at z; cases z⟩) dX9_readText_174
            · have q_90 : f = none := (oI_9 hf9).mp c_90
              subst q_90
              refine lv_aload_n B.1 B.2.1 dX9_readText_93 rfl (lv_at hl 0 rfl) ?_
              refine r_cg B hC (i := 175) (by decide) hM1.1 (C := RX9) (T := TX9) (n := 35) rfl iwX9_readText_X9 17 (by decide) (index := 90) flX9_readText_90 rfl (v := .int (c1 17)) rfl dX9_readText_94 ?_
              refine r_tI (y := nI i) (hs1.2.1) ?_
              refine lv_aload_n B.1 B.2.1 dX9_readText_97 rfl (lv_at hl 0 rfl) ?_
              refine r_cg B hC (i := 175) (by decide) hM1.1 (C := RX9) (T := TX9) (n := 35) rfl iwX9_readText_X9 16 (by decide) (index := 82) flX9_readText_82 rfl (v := .int (c1 16)) rfl dX9_readText_98 ?_
              refine r_tI (y := nI (tn v)) ((hT.cq hK1 (by decide) (by decide)).1) ?_
              refine lv_icmp_ge (tgt := 170) B.1 B.2.1 dX9_readText_101 (by decide) (fun c_101 => ?_) (fun c_101 => ?_)
              · have q_101 : (tn v) ≤ i := (nI_leI (by omega) (by omega)).mp c_101
                refine lv_aload_n B.1 B.2.1 dX9_readText_170 rfl (lv_at hl 0 rfl) ?_
                refine r_cg B hC (i := 175) (by decide) hM1.1 (C := RX9) (T := TX9) (n := 35) rfl iwX9_readText_X9 18 (by decide) (index := 87) flX9_readText_87 rfl (v := .int (c1 18)) rfl dX9_readText_171 ?_
                refine r_tI (y := oI none) (hs1.1) ?_
                exact r_eI B hC (v := oI none) (⟨by rw [li_end hL q_101], _, _, hM1, hS1, Scr.rf.cq hK1, fun _ => ⟨p, hp, (hL.2 rfl).2.2.1, by rw [← (hL.2 rfl).2.1]; exact q_101, h5, (hL.2 rfl).2.2.2.2.1, (hL.2 rfl).2.2.2.2.2, (hL.2 rfl).2.2.2.1⟩⟩) dX9_readText_174
              · have q_101 : ¬ (tn v) ≤ i := fun z => c_101 ((nI_leI (by omega) (by omega)).mpr z)
                refine lv_aload_n B.1 B.2.1 dX9_readText_104 rfl (lv_at hl 0 rfl) ?_
                refine r_cg B hC (i := 175) (by decide) hM1.1 (C := RX9) (T := TX9) (n := 35) rfl iwX9_readText_X9 15 (by decide) (index := 37) flX9_readText_37 rfl (v := .ref (ad (185))) rfl dX9_readText_105 ?_
                refine lv_aload_n B.1 B.2.1 dX9_readText_108 rfl (lv_at hl 0 rfl) ?_
                refine r_cg B hC (i := 175) (by decide) hM1.1 (C := RX9) (T := TX9) (n := 35) rfl iwX9_readText_X9 17 (by decide) (index := 90) flX9_readText_90 rfl (v := .int (c1 17)) rfl dX9_readText_109 ?_
                refine r_tI (y := nI i) (hs1.2.1) ?_
                refine r_cald B hC (i := 185) (by decide) hM1.c185 (j := i) (by omega) (by decide) dX9_readText_112 ?_
                refine r_tI (y := q1 185 i) rfl ?_
                refine r_tI (y := nI (tb v i)) ((hT.cq hK1 (by decide) (by decide)).2 i (by omega)) ?_
                refine lv_bipush (v := nI 80) B.1 B.2.1 dX9_readText_113 (by decide) ?_
                refine lv_icmp_ne (tgt := 122) B.1 B.2.1 dX9_readText_115 (by decide) (fun c_115 => ?_) (fun c_115 => ?_)
                · have q_115 : ¬ (tb v i) = 80 := fun z => c_115 ((nI_eq (by omega) (by omega)).mpr z)
                  refine lv_iconst (v := nI 0) B.1 B.2.1 dX9_readText_122 (by decide) ?_
                  refine lv_istore_n (lv' := [(2, .int (nI 0)), (0, .ref (ad (175)))]) B.1 B.2.1 dX9_readText_123 rfl hl (by decide) rfl (fun ls hl => ?_)
                  refine lv_iload_n B.1 B.2.1 dX9_readText_124 rfl (lv_at hl 0 rfl) ?_
                  refine lv_if_ne (tgt := 142) B.1 B.2.1 dX9_readText_125 (by decide) (fun z => absurd (by decide) z) (fun _ => ?_)
                  refine lv_aload_n B.1 B.2.1 dX9_readText_128 rfl (lv_at hl 1 rfl) ?_
                  refine r_cg B hC (i := 175) (by decide) hM1.1 (C := RX9) (T := TX9) (n := 35) rfl iwX9_readText_X9 15 (by decide) (index := 37) flX9_readText_37 rfl (v := .ref (ad (185))) rfl dX9_readText_129 ?_
                  refine lv_aload_n B.1 B.2.1 dX9_readText_132 rfl (lv_at hl 1 rfl) ?_
                  refine r_cg B hC (i := 175) (by decide) hM1.1 (C := RX9) (T := TX9) (n := 35) rfl iwX9_readText_X9 17 (by decide) (index := 90) flX9_readText_90 rfl (v := .int (c1 17)) rfl dX9_readText_133 ?_
                  refine r_tI (y := nI i) (hs1.2.1) ?_
                  refine r_cald B hC (i := 185) (by decide) hM1.c185 (j := i) (by omega) (by decide) dX9_readText_136 ?_
                  refine r_tI (y := q1 185 i) rfl ?_
                  refine r_tI (y := nI (tb v i)) ((hT.cq hK1 (by decide) (by decide)).2 i (by omega)) ?_
                  refine lv_bipush (v := nI 79) B.1 B.2.1 dX9_readText_137 (by decide) ?_
                  refine lv_icmp_ne (tgt := 159) B.1 B.2.1 dX9_readText_139 (by decide) (fun c_139 => ?_) (fun c_139 => ?_)
                  · have q_139 : ¬ (tb v i) = 79 := fun z => c_139 ((nI_eq (by omega) (by omega)).mpr z)
                    refine lv_aload_n B.1 B.2.1 dX9_readText_159 rfl (lv_at hl 1 rfl) ?_
                    refine lv_aload_n B.1 B.2.1 dX9_readText_160 rfl (lv_at hl 1 rfl) ?_
                    refine r_cg B hC (i := 175) (by decide) hM1.1 (C := RX9) (T := TX9) (n := 35) rfl iwX9_readText_X9 17 (by decide) (index := 90) flX9_readText_90 rfl (v := .int (c1 17)) rfl dX9_readText_161 ?_
                    refine r_tI (y := nI i) (hs1.2.1) ?_
                    obtain ⟨c31, ec31⟩ : ∃ f, f = va_up c1 18 (nI i) := ⟨_, rfl⟩
                    refine r_cp B hC (i := 175) (by decide) hM1.1 tyX9 tyX9_ok nmX9 (C := RX9) (T := TX9) rfl iwX9_readText_X9 18 (by decide) (index := 87) flX9_readText_87 rfl rfl (v := .int (nI i)) (rfl) (rfl) (Nat.le_of_ble_eq_true rfl) dX9_readText_164 ?_
                    intro H locs hC
                    obtain ⟨F31, eF31⟩ : ∃ f, f = va_up G 175 (mObj ad c31) := ⟨_, rfl⟩
                    have hC : Cu g lo 196 ad F31 ss ss.heap H locs := by rw [eF31, ec31]; exact hC
                    have hM_F31 : MC g ad F31 c31 q1 sm := hM1.fld eF31
                    have cv5_F31 : c31 5 = nI p := by rw [ec31, va_up_ne _ _ (by decide)]; exact h5
                    have cv16_F31 : c31 16 = nI (tn v) := by rw [ec31, va_up_ne _ _ (by decide)]; exact (hT.cq hK1 (by decide) (by decide)).1
                    have cv17_F31 : c31 17 = nI i := by rw [ec31, va_up_ne _ _ (by decide)]; exact hs1.2.1
                    have cv18_F31 : c31 18 = nI i := by rw [ec31, va_up_self]
                    have hS_F31 : Same 175 196 F F31 := by rw [eF31]; exact hS1.up (by decide) (by decide)
                    refine lv_goto (tgt := 84) B.1 B.2.1 dX9_readText_167 (by decide) ?_
                    exact ih84 (some i) i p c31 q1 F31 hM_F31 hS_F31 (hK1.uc ec31 (by decide)) ⟨cv18_F31, cv17_F31, hi2, fun k hk => by cases hk; exact hi2⟩ cv5_F31 hp (fun z => by cases z) (li_bad hL (by omega) (by rcases Nat.lt_or_ge p 10 with y | y; exact Or.inr ⟨y, tat_no (by omega) q_115 q_139⟩; exact Or.inl (by omega))) _ _ ls hC (lv_sub hl [1] rfl)
                  · have q_139 : (tb v i) = 79 := (nI_eq (by omega) (by omega)).mp c_139
                    refine lv_aload_n B.1 B.2.1 dX9_readText_142 rfl (lv_at hl 1 rfl) ?_
                    refine r_cg B hC (i := 175) (by decide) hM1.1 (C := RX9) (T := TX9) (n := 35) rfl iwX9_readText_X9 5 (by decide) (index := 93) flX9_readText_93 rfl (v := .int (c1 5)) rfl dX9_readText_143 ?_
                    refine r_tI (y := nI p) (h5) ?_
                    refine lv_bipush (v := nI 10) B.1 B.2.1 dX9_readText_146 (by decide) ?_
                    refine lv_icmp_ge (tgt := 159) B.1 B.2.1 dX9_readText_148 (by decide) (fun c_148 => ?_) (fun c_148 => ?_)
                    · have q_148 : 10 ≤ p := (nI_leI (by omega) (by omega)).mp c_148
                      refine lv_aload_n B.1 B.2.1 dX9_readText_159 rfl (lv_at hl 1 rfl) ?_
                      refine lv_aload_n B.1 B.2.1 dX9_readText_160 rfl (lv_at hl 1 rfl) ?_
                      refine r_cg B hC (i := 175) (by decide) hM1.1 (C := RX9) (T := TX9) (n := 35) rfl iwX9_readText_X9 17 (by decide) (index := 90) flX9_readText_90 rfl (v := .int (c1 17)) rfl dX9_readText_161 ?_
                      refine r_tI (y := nI i) (hs1.2.1) ?_
                      obtain ⟨c31, ec31⟩ : ∃ f, f = va_up c1 18 (nI i) := ⟨_, rfl⟩
                      refine r_cp B hC (i := 175) (by decide) hM1.1 tyX9 tyX9_ok nmX9 (C := RX9) (T := TX9) rfl iwX9_readText_X9 18 (by decide) (index := 87) flX9_readText_87 rfl rfl (v := .int (nI i)) (rfl) (rfl) (Nat.le_of_ble_eq_true rfl) dX9_readText_164 ?_
                      intro H locs hC
                      obtain ⟨F31, eF31⟩ : ∃ f, f = va_up G 175 (mObj ad c31) := ⟨_, rfl⟩
                      have hC : Cu g lo 196 ad F31 ss ss.heap H locs := by rw [eF31, ec31]; exact hC
                      have hM_F31 : MC g ad F31 c31 q1 sm := hM1.fld eF31
                      have cv5_F31 : c31 5 = nI p := by rw [ec31, va_up_ne _ _ (by decide)]; exact h5
                      have cv16_F31 : c31 16 = nI (tn v) := by rw [ec31, va_up_ne _ _ (by decide)]; exact (hT.cq hK1 (by decide) (by decide)).1
                      have cv17_F31 : c31 17 = nI i := by rw [ec31, va_up_ne _ _ (by decide)]; exact hs1.2.1
                      have cv18_F31 : c31 18 = nI i := by rw [ec31, va_up_self]
                      have hS_F31 : Same 175 196 F F31 := by rw [eF31]; exact hS1.up (by decide) (by decide)
                      refine lv_goto (tgt := 84) B.1 B.2.1 dX9_readText_167 (by decide) ?_
                      exact ih84 (some i) i p c31 q1 F31 hM_F31 hS_F31 (hK1.uc ec31 (by decide)) ⟨cv18_F31, cv17_F31, hi2, fun k hk => by cases hk; exact hi2⟩ cv5_F31 hp (fun z => by cases z) (li_bad hL (by omega) (Or.inl (by omega))) _ _ ls hC (lv_sub hl [1] rfl)
                    · have q_148 : ¬ 10 ≤ p := fun z => c_148 ((nI_leI (by omega) (by omega)).mpr z)
                      refine lv_aload_n B.1 B.2.1 dX9_readText_151 rfl (lv_at hl 1 rfl) ?_
                      refine lv_iload_n B.1 B.2.1 dX9_readText_152 rfl (lv_at hl 0 rfl) ?_
                      refine r_tI (y := bI false) (rfl) ?_
                      refine r_callv B hC hl.1 (175) 9 rfl rfl (by decide) hM1.1 (As := [.int (bI false)]) (ctX9_readPlace l g lo ad hM1 ok (hT.cq hK1 (by decide) (by decide)) (b := false) (i := i) (p := p) hs1 (by omega) h5 (by omega)) gX9_readText_X9_readPlace rfl (n := 1) rfl (by decide +kernel) ⟨Nat.le_of_ble_eq_true rfl, Nat.le_of_ble_eq_true rfl⟩ ⟨Nat.zero_le _, Nat.zero_le _⟩ rfl (Nat.le_of_ble_eq_true rfl) dX9_readText_153 (fun F31 H locs hp153 hC => ?_)
                      obtain ⟨c31, q31, hM_F31, hT_F31, hk153, hs153, h5n, hr153⟩ := hp153
                      have hS_F31 : Same 175 196 F F31 := Same.tr2 hS1 hT_F31 (by decide) (by decide)
                      refine lv_goto (tgt := 167) B.1 B.2.1 dX9_readText_156 (by decide) ?_
                      refine lv_goto (tgt := 84) B.1 B.2.1 dX9_readText_167 (by decide) ?_
                      exact ih84 (rpl5 v false i p).1 (rpl5 v false i p).2 (p + 1) c31 q31 F31 hM_F31 hS_F31 (hK1.tr (hk153.wide (by decide) (by decide))) hs153 h5n (by omega) (fun _ => by have := hm rfl; omega) (li_step hL (by omega) (by omega) (Or.inr ⟨tat_is (by omega) q_139, rfl⟩) hr153 (fun k hk => hk153.1 k (by rcases hk with rfl | rfl <;> decide))) _ _ ls hC (lv_sub hl [1] rfl)
                · have q_115 : (tb v i) = 80 := (nI_eq (by omega) (by omega)).mp c_115
                  refine lv_iconst (v := nI 1) B.1 B.2.1 dX9_readText_118 (by decide) ?_
                  refine lv_goto (tgt := 123) B.1 B.2.1 dX9_readText_119 (by decide) ?_
                  refine lv_istore_n (lv' := [(2, .int (nI 1)), (0, .ref (ad (175)))]) B.1 B.2.1 dX9_readText_123 rfl hl (by decide) rfl (fun ls hl => ?_)
                  refine lv_iload_n B.1 B.2.1 dX9_readText_124 rfl (lv_at hl 0 rfl) ?_
                  refine lv_if_ne (tgt := 142) B.1 B.2.1 dX9_readText_125 (by decide) (fun _ => ?_) (fun z => absurd z (by decide))
                  refine lv_aload_n B.1 B.2.1 dX9_readText_142 rfl (lv_at hl 1 rfl) ?_
                  refine r_cg B hC (i := 175) (by decide) hM1.1 (C := RX9) (T := TX9) (n := 35) rfl iwX9_readText_X9 5 (by decide) (index := 93) flX9_readText_93 rfl (v := .int (c1 5)) rfl dX9_readText_143 ?_
                  refine r_tI (y := nI p) (h5) ?_
                  refine lv_bipush (v := nI 10) B.1 B.2.1 dX9_readText_146 (by decide) ?_
                  refine lv_icmp_ge (tgt := 159) B.1 B.2.1 dX9_readText_148 (by decide) (fun c_148 => ?_) (fun c_148 => ?_)
                  · have q_148 : 10 ≤ p := (nI_leI (by omega) (by omega)).mp c_148
                    refine lv_aload_n B.1 B.2.1 dX9_readText_159 rfl (lv_at hl 1 rfl) ?_
                    refine lv_aload_n B.1 B.2.1 dX9_readText_160 rfl (lv_at hl 1 rfl) ?_
                    refine r_cg B hC (i := 175) (by decide) hM1.1 (C := RX9) (T := TX9) (n := 35) rfl iwX9_readText_X9 17 (by decide) (index := 90) flX9_readText_90 rfl (v := .int (c1 17)) rfl dX9_readText_161 ?_
                    refine r_tI (y := nI i) (hs1.2.1) ?_
                    obtain ⟨c31, ec31⟩ : ∃ f, f = va_up c1 18 (nI i) := ⟨_, rfl⟩
                    refine r_cp B hC (i := 175) (by decide) hM1.1 tyX9 tyX9_ok nmX9 (C := RX9) (T := TX9) rfl iwX9_readText_X9 18 (by decide) (index := 87) flX9_readText_87 rfl rfl (v := .int (nI i)) (rfl) (rfl) (Nat.le_of_ble_eq_true rfl) dX9_readText_164 ?_
                    intro H locs hC
                    obtain ⟨F31, eF31⟩ : ∃ f, f = va_up G 175 (mObj ad c31) := ⟨_, rfl⟩
                    have hC : Cu g lo 196 ad F31 ss ss.heap H locs := by rw [eF31, ec31]; exact hC
                    have hM_F31 : MC g ad F31 c31 q1 sm := hM1.fld eF31
                    have cv5_F31 : c31 5 = nI p := by rw [ec31, va_up_ne _ _ (by decide)]; exact h5
                    have cv16_F31 : c31 16 = nI (tn v) := by rw [ec31, va_up_ne _ _ (by decide)]; exact (hT.cq hK1 (by decide) (by decide)).1
                    have cv17_F31 : c31 17 = nI i := by rw [ec31, va_up_ne _ _ (by decide)]; exact hs1.2.1
                    have cv18_F31 : c31 18 = nI i := by rw [ec31, va_up_self]
                    have hS_F31 : Same 175 196 F F31 := by rw [eF31]; exact hS1.up (by decide) (by decide)
                    refine lv_goto (tgt := 84) B.1 B.2.1 dX9_readText_167 (by decide) ?_
                    exact ih84 (some i) i p c31 q1 F31 hM_F31 hS_F31 (hK1.uc ec31 (by decide)) ⟨cv18_F31, cv17_F31, hi2, fun k hk => by cases hk; exact hi2⟩ cv5_F31 hp (fun z => by cases z) (li_bad hL (by omega) (Or.inl (by omega))) _ _ ls hC (lv_sub hl [1] rfl)
                  · have q_148 : ¬ 10 ≤ p := fun z => c_148 ((nI_leI (by omega) (by omega)).mpr z)
                    refine lv_aload_n B.1 B.2.1 dX9_readText_151 rfl (lv_at hl 1 rfl) ?_
                    refine lv_iload_n B.1 B.2.1 dX9_readText_152 rfl (lv_at hl 0 rfl) ?_
                    refine r_tI (y := bI true) (rfl) ?_
                    refine r_callv B hC hl.1 (175) 9 rfl rfl (by decide) hM1.1 (As := [.int (bI true)]) (ctX9_readPlace l g lo ad hM1 ok (hT.cq hK1 (by decide) (by decide)) (b := true) (i := i) (p := p) hs1 (by omega) h5 (by omega)) gX9_readText_X9_readPlace rfl (n := 1) rfl (by decide +kernel) ⟨Nat.le_of_ble_eq_true rfl, Nat.le_of_ble_eq_true rfl⟩ ⟨Nat.zero_le _, Nat.zero_le _⟩ rfl (Nat.le_of_ble_eq_true rfl) dX9_readText_153 (fun F31 H locs hp153 hC => ?_)
                    obtain ⟨c31, q31, hM_F31, hT_F31, hk153, hs153, h5n, hr153⟩ := hp153
                    have hS_F31 : Same 175 196 F F31 := Same.tr2 hS1 hT_F31 (by decide) (by decide)
                    refine lv_goto (tgt := 167) B.1 B.2.1 dX9_readText_156 (by decide) ?_
                    refine lv_goto (tgt := 84) B.1 B.2.1 dX9_readText_167 (by decide) ?_
                    exact ih84 (rpl5 v true i p).1 (rpl5 v true i p).2 (p + 1) c31 q31 F31 hM_F31 hS_F31 (hK1.tr (hk153.wide (by decide) (by decide))) hs153 h5n (by omega) (fun _ => by have := hm rfl; omega) (li_step hL (by omega) (by omega) (Or.inl ⟨tat_is (by omega) q_115, rfl⟩) hr153 (fun k hk => hk153.1 k (by rcases hk with rfl | rfl <;> decide))) _ _ ls hC (lv_sub hl [1] rfl)
        exact loop84 11 (hd3 v).1 (hd3 v).2 0 c9 q F9 hM_F9 hS_F9 ((((((((((CQ.rf (A := [5, 6, 7, 17, 18]) (B := [176, 177, 178, 179, 180])).uc ec1 (by decide)).uc ec2 (by decide)).uc ec3 (by decide)).uc ec4 (by decide)).u1 hk46 (by decide) (by decide)).uc ec6 (by decide)).u1 hk56 (by decide) (by decide)).u1 hk77 (by decide) (by decide)).uc ec9 (by decide)) (by have z := SR.up hs77 ec9 (by decide) (by decide); unfold hd3; rw [if_pos q_67]; exact z) cv5_F9 (by omega) (fun _ => by omega) (li_init (is_83 q_20 q_31) cv6_F9 ((cv7_F9).trans (by rw [if_pos q_67]; rfl))) _ _ ls hC (lv_sub hl [1] rfl)
    · have q_31 : ¬ (tb v 0) = 83 := fun z => c_31 ((nI_eq (by omega) (by omega)).mpr z)
      refine lv_iconst (v := nI 0) B.1 B.2.1 dX9_readText_34 (by decide) ?_
      exact r_eI B hC (v := nI 0) (⟨by rw [all_head (no_83 (Or.inr q_31))]; rfl, _, _, hM_F3, hS_F3, Scr.rf.cq ((((CQ.rf (A := [5, 6, 7, 17, 18]) (B := [176, 177, 178, 179, 180])).uc ec1 (by decide)).uc ec2 (by decide)).uc ec3 (by decide)), fun z => by rw [all_head (no_83 (Or.inr q_31))] at z; cases z⟩) dX9_readText_35
