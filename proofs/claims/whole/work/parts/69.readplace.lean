/-! THE REFERENCE: readPlace -/
theorem iwX9_readPlace_X9 : ∀ w ∈ u_ws RX9 TX9 35, w ∈ wsX9_readPlace := by decide +kernel
theorem flX9_readPlace_7 : Cond.fieldLink RX9 7 RX9 (TX9 0).2.1 (TX9 0).2.2.1 ∈ wsX9_readPlace := by decide +kernel
theorem flX9_readPlace_13 : Cond.fieldLink RX9 13 RX9 (TX9 1).2.1 (TX9 1).2.2.1 ∈ wsX9_readPlace := by decide +kernel
theorem flX9_readPlace_16 : Cond.fieldLink RX9 16 RX9 (TX9 2).2.1 (TX9 2).2.2.1 ∈ wsX9_readPlace := by decide +kernel
theorem flX9_readPlace_19 : Cond.fieldLink RX9 19 RX9 (TX9 3).2.1 (TX9 3).2.2.1 ∈ wsX9_readPlace := by decide +kernel
theorem flX9_readPlace_22 : Cond.fieldLink RX9 22 RX9 (TX9 4).2.1 (TX9 4).2.2.1 ∈ wsX9_readPlace := by decide +kernel
theorem flX9_readPlace_37 : Cond.fieldLink RX9 37 RX9 (TX9 15).2.1 (TX9 15).2.2.1 ∈ wsX9_readPlace := by decide +kernel
theorem flX9_readPlace_82 : Cond.fieldLink RX9 82 RX9 (TX9 16).2.1 (TX9 16).2.2.1 ∈ wsX9_readPlace := by decide +kernel
theorem flX9_readPlace_87 : Cond.fieldLink RX9 87 RX9 (TX9 18).2.1 (TX9 18).2.2.1 ∈ wsX9_readPlace := by decide +kernel
theorem flX9_readPlace_90 : Cond.fieldLink RX9 90 RX9 (TX9 17).2.1 (TX9 17).2.2.1 ∈ wsX9_readPlace := by decide +kernel
theorem flX9_readPlace_93 : Cond.fieldLink RX9 93 RX9 (TX9 5).2.1 (TX9 5).2.2.1 ∈ wsX9_readPlace := by decide +kernel
set_option maxHeartbeats 4000000 in
set_option maxRecDepth 100000 in
theorem ctX9_readPlace (l : Launch) (g : Gx) (lo : Nat) (ad : Nat → Nat) {F : Nat → va_E} {c : Nat → Int32} {q : Nat → Nat → Int32} {sm : Nat → Int64} (hM : MC g ad F c q sm) {v : TV} (ok : TOK v) (hT : TextR v c q) {b : Bool} {i p : Nat} (hs : SR v (none, i) c) (hi : i < tn v) (h5 : c 5 = nI p) (hp : p < 10) : MV l g lo 196 ad yX9_readPlace wsX9_readPlace 2 48 [.ref (ad (175)), .int (bI b)] F (fun F' => ∃ c' q', MC g ad F' c' q' sm ∧ Same 175 196 F F' ∧ CQ [5, 17, 18] [176, 177, 178, 179, 180] c c' q q' ∧ SR v (rpl5 v b i p) c' ∧ c' 5 = nI (p + 1) ∧ RD5 p q q' (nI (fgV v (none, i + 1) 1 10)) (nI (fgV v (rpl1 v i) 0 10)) (oI (rvR v i p)) (oI (rvS v b i p)) (nI (rvW v b i p))) := by
  have okt := ok.1
  have hS : Same 175 196 F F := Same.rf
  refine enter (cc := cX9_readPlace) (maxL := 3) (ret := none) (own := RX9) (by decide +kernel) rfl rfl (Nat.le_of_ble_eq_true rfl) ?_
  intro pp ee ss mm below meth cc B hini hC ls hl
  have hl : lv_has ls 3 [(0, .ref (ad (175))), (1, .int (bI b))] := hl
  refine lv_aload_n B.1 B.2.1 dX9_readPlace_0 rfl (lv_at hl 0 rfl) ?_
  refine lv_dup B.1 B.2.1 dX9_readPlace_1 rfl ?_
  refine r_cg B hC (i := 175) (by decide) hM.1 (C := RX9) (T := TX9) (n := 35) rfl iwX9_readPlace_X9 17 (by decide) (index := 90) flX9_readPlace_90 rfl (v := .int (c 17)) rfl dX9_readPlace_2 ?_
  refine r_tI (y := nI i) (hs.2.1) ?_
  refine lv_iconst (v := nI 1) B.1 B.2.1 dX9_readPlace_5 (by decide) ?_
  refine lv_iadd B.1 B.2.1 dX9_readPlace_6 ?_
  refine r_tI (y := nI (i + 1)) (nI_add _ _) ?_
  obtain ⟨c1, ec1⟩ : ∃ f, f = va_up c 17 (nI (i + 1)) := ⟨_, rfl⟩
  refine r_cp B hC (i := 175) (by decide) hM.1 tyX9 tyX9_ok nmX9 (C := RX9) (T := TX9) rfl iwX9_readPlace_X9 17 (by decide) (index := 90) flX9_readPlace_90 rfl rfl (v := .int (nI (i + 1))) (rfl) (rfl) (Nat.le_of_ble_eq_true rfl) dX9_readPlace_7 ?_
  intro H locs hC
  obtain ⟨F1, eF1⟩ : ∃ f, f = va_up F 175 (mObj ad c1) := ⟨_, rfl⟩
  have hC : Cu g lo 196 ad F1 ss ss.heap H locs := by rw [eF1, ec1]; exact hC
  have hM_F1 : MC g ad F1 c1 q sm := hM.fld eF1
  have cv5_F1 : c1 5 = nI p := by rw [ec1, va_up_ne _ _ (by decide)]; exact h5
  have cv16_F1 : c1 16 = nI (tn v) := by rw [ec1, va_up_ne _ _ (by decide)]; exact hT.1
  have cv18_F1 : c1 18 = oI none := by rw [ec1, va_up_ne _ _ (by decide)]; exact hs.1
  have cv17_F1 : c1 17 = nI (i + 1) := by rw [ec1, va_up_self]
  have hS_F1 : Same 175 196 F F1 := by rw [eF1]; exact hS.up (by decide) (by decide)
  refine lv_aload_n B.1 B.2.1 dX9_readPlace_10 rfl (lv_at hl 0 rfl) ?_
  refine r_cg B hC (i := 175) (by decide) hM_F1.1 (C := RX9) (T := TX9) (n := 35) rfl iwX9_readPlace_X9 5 (by decide) (index := 93) flX9_readPlace_93 rfl (v := .int (c1 5)) rfl dX9_readPlace_11 ?_
  refine r_tI (y := nI p) (cv5_F1) ?_
  refine lv_istore_n (lv' := [(2, .int (nI p)), (0, .ref (ad (175))), (1, .int (bI b))]) B.1 B.2.1 dX9_readPlace_14 rfl hl (by decide) rfl (fun ls hl => ?_)
  refine lv_aload_n B.1 B.2.1 dX9_readPlace_15 rfl (lv_at hl 1 rfl) ?_
  refine r_cg B hC (i := 175) (by decide) hM_F1.1 (C := RX9) (T := TX9) (n := 35) rfl iwX9_readPlace_X9 0 (by decide) (index := 7) flX9_readPlace_7 rfl (v := .ref (ad (176))) rfl dX9_readPlace_16 ?_
  refine lv_iload_n B.1 B.2.1 dX9_readPlace_19 rfl (lv_at hl 0 rfl) ?_
  refine lv_aload_n B.1 B.2.1 dX9_readPlace_20 rfl (lv_at hl 1 rfl) ?_
  refine lv_iconst (v := nI 1) B.1 B.2.1 dX9_readPlace_21 (by decide) ?_
  refine lv_bipush (v := nI 9) B.1 B.2.1 dX9_readPlace_22 (by decide) ?_
  refine r_tI (y := nI 10 - nI 1) (rfl) ?_
  refine r_calli B hC hl.1 (175) 9 rfl rfl (by decide) hM_F1.1 (As := [.int (nI 1), .int (nI 10 - nI 1)]) (ctX9_figure l g lo ad hM_F1 ok (hT.cq ((CQ.rf (A := [5, 17, 18]) (B := [176, 177, 178, 179, 180])).uc ec1 (by decide)) (by decide) (by decide)) (z := (none, i + 1)) (show SR v (none, i + 1) c1 from ⟨cv18_F1, cv17_F1, by show i + 1 ≤ tn v; omega, fun k hk => by cases hk⟩) (by decide) (by decide)) gX9_readPlace_X9_figure rfl (n := 2) rfl (by decide +kernel) ⟨Nat.le_of_ble_eq_true rfl, Nat.le_of_ble_eq_true rfl⟩ ⟨Nat.zero_le _, Nat.zero_le _⟩ rfl (Nat.le_of_ble_eq_true rfl) dX9_readPlace_24 (fun r24 F2 H locs hp24 hC => ?_)
  obtain ⟨c2, hM_F2, hT_F2, hk24, hr24, hs24⟩ := hp24
  have hS_F2 : Same 175 196 F F2 := Same.tr2 hS_F1 hT_F2 (by decide) (by decide)
  refine r_tI (y := nI (fgV v (none, i + 1) 1 10)) (hr24) ?_
  refine r_cast B hC (i := 176) (by decide) hM_F2.c176 (j := p) (by omega) (by decide) dX9_readPlace_27 ?_
  intro H locs hC
  obtain ⟨F3, eF3⟩ : ∃ f : Nat → va_E, f = va_up F2 176 (.inl (g.2.2 0, 10, .inl (upd (q 176) (p) (nI (fgV v (none, i + 1) 1 10))))) := ⟨_, rfl⟩
  have hC : Cu g lo 196 ad F3 ss ss.heap H locs := by rw [eF3]; exact hC
  obtain ⟨q3, eq3⟩ : ∃ f, f = va_up q 176 (upd (q 176) (p) (nI (fgV v (none, i + 1) 1 10))) := ⟨_, rfl⟩
  have hM_F3 : MC g ad F3 c2 q3 sm := by rw [eq3]; exact hM_F2.arr (by decide) (by decide) (by decide) (by decide) (by decide) eF3
  have hS_F3 : Same 175 196 F F3 := by rw [eF3]; exact hS_F2.up (by decide) (by decide)
  have u27 := u1_of eq3
  refine lv_aload_n B.1 B.2.1 dX9_readPlace_28 rfl (lv_at hl 1 rfl) ?_
  refine r_cg B hC (i := 175) (by decide) hM_F3.1 (C := RX9) (T := TX9) (n := 35) rfl iwX9_readPlace_X9 1 (by decide) (index := 13) flX9_readPlace_13 rfl (v := .ref (ad (177))) rfl dX9_readPlace_29 ?_
  refine lv_iload_n B.1 B.2.1 dX9_readPlace_32 rfl (lv_at hl 0 rfl) ?_
  refine lv_aload_n B.1 B.2.1 dX9_readPlace_33 rfl (lv_at hl 1 rfl) ?_
  refine lv_iconst (v := nI 0) B.1 B.2.1 dX9_readPlace_34 (by decide) ?_
  refine lv_bipush (v := nI 9) B.1 B.2.1 dX9_readPlace_35 (by decide) ?_
  refine r_tI (y := nI 10 - nI 1) (rfl) ?_
  refine r_calli B hC hl.1 (175) 9 rfl rfl (by decide) hM_F3.1 (As := [.int (nI 0), .int (nI 10 - nI 1)]) (ctX9_figure l g lo ad hM_F3 ok (hT.cq ((((CQ.rf (A := [5, 17, 18]) (B := [176, 177, 178, 179, 180])).uc ec1 (by decide)).u1 hk24 (by decide) (by decide)).uq eq3 (by decide)) (by decide) (by decide)) (z := (rpl1 v i)) hs24 (by decide) (by decide)) gX9_readPlace_X9_figure rfl (n := 2) rfl (by decide +kernel) ⟨Nat.le_of_ble_eq_true rfl, Nat.le_of_ble_eq_true rfl⟩ ⟨Nat.zero_le _, Nat.zero_le _⟩ rfl (Nat.le_of_ble_eq_true rfl) dX9_readPlace_37 (fun r37 F4 H locs hp37 hC => ?_)
  obtain ⟨c4, hM_F4, hT_F4, hk37, hr37, hs37⟩ := hp37
  have hS_F4 : Same 175 196 F F4 := Same.tr2 hS_F3 hT_F4 (by decide) (by decide)
  refine r_tI (y := nI (fgV v (rpl1 v i) 0 10)) (hr37) ?_
  refine r_cast B hC (i := 177) (by decide) hM_F4.c177 (j := p) (by omega) (by decide) dX9_readPlace_40 ?_
  intro H locs hC
  obtain ⟨F5, eF5⟩ : ∃ f : Nat → va_E, f = va_up F4 177 (.inl (g.2.2 0, 10, .inl (upd (q3 177) (p) (nI (fgV v (rpl1 v i) 0 10))))) := ⟨_, rfl⟩
  have hC : Cu g lo 196 ad F5 ss ss.heap H locs := by rw [eF5]; exact hC
  obtain ⟨q5, eq5⟩ : ∃ f, f = va_up q3 177 (upd (q3 177) (p) (nI (fgV v (rpl1 v i) 0 10))) := ⟨_, rfl⟩
  have hM_F5 : MC g ad F5 c4 q5 sm := by rw [eq5]; exact hM_F4.arr (by decide) (by decide) (by decide) (by decide) (by decide) eF5
  have hS_F5 : Same 175 196 F F5 := by rw [eF5]; exact hS_F4.up (by decide) (by decide)
  have u40 := u1_of eq5
  refine lv_aload_n B.1 B.2.1 dX9_readPlace_41 rfl (lv_at hl 1 rfl) ?_
  refine r_cg B hC (i := 175) (by decide) hM_F5.1 (C := RX9) (T := TX9) (n := 35) rfl iwX9_readPlace_X9 2 (by decide) (index := 16) flX9_readPlace_16 rfl (v := .ref (ad (178))) rfl dX9_readPlace_42 ?_
  refine lv_iload_n B.1 B.2.1 dX9_readPlace_45 rfl (lv_at hl 0 rfl) ?_
  refine lv_bipush (v := (-9)) B.1 B.2.1 dX9_readPlace_46 (by decide) ?_
  refine r_cast B hC (i := 178) (by decide) hM_F5.c178 (j := p) (by omega) (by decide) dX9_readPlace_48 ?_
  intro H locs hC
  obtain ⟨F6, eF6⟩ : ∃ f : Nat → va_E, f = va_up F5 178 (.inl (g.2.2 0, 10, .inl (upd (q5 178) (p) ((-9))))) := ⟨_, rfl⟩
  have hC : Cu g lo 196 ad F6 ss ss.heap H locs := by rw [eF6]; exact hC
  obtain ⟨q6, eq6⟩ : ∃ f, f = va_up q5 178 (upd (q5 178) (p) ((-9))) := ⟨_, rfl⟩
  have hM_F6 : MC g ad F6 c4 q6 sm := by rw [eq6]; exact hM_F5.arr (by decide) (by decide) (by decide) (by decide) (by decide) eF6
  have hS_F6 : Same 175 196 F F6 := by rw [eF6]; exact hS_F5.up (by decide) (by decide)
  have u48 := u1_of eq6
  refine lv_aload_n B.1 B.2.1 dX9_readPlace_49 rfl (lv_at hl 1 rfl) ?_
  refine r_cg B hC (i := 175) (by decide) hM_F6.1 (C := RX9) (T := TX9) (n := 35) rfl iwX9_readPlace_X9 18 (by decide) (index := 87) flX9_readPlace_87 rfl (v := .int (c4 18)) rfl dX9_readPlace_50 ?_
  refine r_tI (y := oI (fgS v (rpl1 v i) 0 10).1) (hs37.1) ?_
  refine lv_bipush (v := (-9)) B.1 B.2.1 dX9_readPlace_53 (by decide) ?_
  refine lv_icmp_ne (tgt := 96) B.1 B.2.1 dX9_readPlace_55 (by decide) (fun c_55 => ?_) (fun c_55 => ?_)
  · have q_55 : ¬ (rpl2 v i).1 = none := fun y => c_55 ((oI_9 (fun k hk => Nat.lt_of_le_of_lt (hs37.2.2.2 k hk) (by omega))).mpr y)
    have ed : dash v i = false := by unfold dash; rw [decide_eq_false q_55]; rfl
    refine lv_aload_n B.1 B.2.1 dX9_readPlace_96 rfl (lv_at hl 1 rfl) ?_
    refine r_cg B hC (i := 175) (by decide) hM_F6.1 (C := RX9) (T := TX9) (n := 35) rfl iwX9_readPlace_X9 2 (by decide) (index := 16) flX9_readPlace_16 rfl (v := .ref (ad (178))) rfl dX9_readPlace_97 ?_
    refine lv_iload_n B.1 B.2.1 dX9_readPlace_100 rfl (lv_at hl 0 rfl) ?_
    refine lv_aload_n B.1 B.2.1 dX9_readPlace_101 rfl (lv_at hl 1 rfl) ?_
    refine lv_iconst (v := nI 0) B.1 B.2.1 dX9_readPlace_102 (by decide) ?_
    refine lv_iload_n B.1 B.2.1 dX9_readPlace_103 rfl (lv_at hl 0 rfl) ?_
    refine lv_iconst (v := nI 1) B.1 B.2.1 dX9_readPlace_104 (by decide) ?_
    refine lv_isub B.1 B.2.1 dX9_readPlace_105 ?_
    refine r_tI (y := (nI p) - (nI 1)) (rfl) ?_
    refine r_calli B hC hl.1 (175) 9 rfl rfl (by decide) hM_F6.1 (As := [.int (nI 0), .int ((nI p) - (nI 1))]) (ctX9_figure l g lo ad hM_F6 ok (hT.cq (((((((CQ.rf (A := [5, 17, 18]) (B := [176, 177, 178, 179, 180])).uc ec1 (by decide)).u1 hk24 (by decide) (by decide)).uq eq3 (by decide)).u1 hk37 (by decide) (by decide)).uq eq5 (by decide)).uq eq6 (by decide)) (by decide) (by decide)) (z := (rpl2 v i)) hs37 (by decide) (by omega)) gX9_readPlace_X9_figure rfl (n := 2) rfl (by decide +kernel) ⟨Nat.le_of_ble_eq_true rfl, Nat.le_of_ble_eq_true rfl⟩ ⟨Nat.zero_le _, Nat.zero_le _⟩ rfl (Nat.le_of_ble_eq_true rfl) dX9_readPlace_106 (fun r106 F7 H locs hp106 hC => ?_)
    obtain ⟨c7, hM_F7, hT_F7, hk106, hr106, hs106⟩ := hp106
    have hS_F7 : Same 175 196 F F7 := Same.tr2 hS_F6 hT_F7 (by decide) (by decide)
    refine r_tI (y := nI (fgV v (rpl2 v i) 0 p)) (hr106) ?_
    refine r_cast B hC (i := 178) (by decide) hM_F7.c178 (j := p) (by omega) (by decide) dX9_readPlace_109 ?_
    intro H locs hC
    obtain ⟨F8, eF8⟩ : ∃ f : Nat → va_E, f = va_up F7 178 (.inl (g.2.2 0, 10, .inl (upd (q6 178) (p) (nI (fgV v (rpl2 v i) 0 p))))) := ⟨_, rfl⟩
    have hC : Cu g lo 196 ad F8 ss ss.heap H locs := by rw [eF8]; exact hC
    obtain ⟨q8, eq8⟩ : ∃ f, f = va_up q6 178 (upd (q6 178) (p) (nI (fgV v (rpl2 v i) 0 p))) := ⟨_, rfl⟩
    have hM_F8 : MC g ad F8 c7 q8 sm := by rw [eq8]; exact hM_F7.arr (by decide) (by decide) (by decide) (by decide) (by decide) eF8
    have hS_F8 : Same 175 196 F F8 := by rw [eF8]; exact hS_F7.up (by decide) (by decide)
    have u109 := u1_of eq8
    have hs3 : SR v (rpl3 v i p) c7 := by unfold rpl3; rw [if_neg (by rw [ed]; decide)]; exact hs106
    have hv3 : nI (fgV v (rpl2 v i) 0 p) = oI (rvR v i p) := by unfold rvR; rw [if_neg (by rw [ed]; decide)]; rfl
    refine lv_aload_n B.1 B.2.1 dX9_readPlace_110 rfl (lv_at hl 1 rfl) ?_
    refine r_cg B hC (i := 175) (by decide) hM_F8.1 (C := RX9) (T := TX9) (n := 35) rfl iwX9_readPlace_X9 3 (by decide) (index := 19) flX9_readPlace_19 rfl (v := .ref (ad (179))) rfl dX9_readPlace_111 ?_
    refine lv_iload_n B.1 B.2.1 dX9_readPlace_114 rfl (lv_at hl 0 rfl) ?_
    refine lv_iload_n B.1 B.2.1 dX9_readPlace_115 rfl (lv_at hl 2 rfl) ?_
    refine lv_if_eq (tgt := 128) B.1 B.2.1 dX9_readPlace_116 (by decide) (fun c_116 => ?_) (fun c_116 => ?_)
    · have q_116 : b = false := bI_f.mp c_116
      refine lv_bipush (v := (-9)) B.1 B.2.1 dX9_readPlace_128 (by decide) ?_
      refine r_cast B hC (i := 179) (by decide) hM_F8.c179 (j := p) (by omega) (by decide) dX9_readPlace_130 ?_
      intro H locs hC
      obtain ⟨F9, eF9⟩ : ∃ f : Nat → va_E, f = va_up F8 179 (.inl (g.2.2 0, 10, .inl (upd (q8 179) (p) ((-9))))) := ⟨_, rfl⟩
      have hC : Cu g lo 196 ad F9 ss ss.heap H locs := by rw [eF9]; exact hC
      obtain ⟨q9, eq9⟩ : ∃ f, f = va_up q8 179 (upd (q8 179) (p) ((-9))) := ⟨_, rfl⟩
      have hM_F9 : MC g ad F9 c7 q9 sm := by rw [eq9]; exact hM_F8.arr (by decide) (by decide) (by decide) (by decide) (by decide) eF9
      have hS_F9 : Same 175 196 F F9 := by rw [eF9]; exact hS_F8.up (by decide) (by decide)
      have u130 := u1_of eq9
      refine lv_aload_n B.1 B.2.1 dX9_readPlace_131 rfl (lv_at hl 1 rfl) ?_
      refine r_cg B hC (i := 175) (by decide) hM_F9.1 (C := RX9) (T := TX9) (n := 35) rfl iwX9_readPlace_X9 4 (by decide) (index := 22) flX9_readPlace_22 rfl (v := .ref (ad (180))) rfl dX9_readPlace_132 ?_
      refine lv_iload_n B.1 B.2.1 dX9_readPlace_135 rfl (lv_at hl 0 rfl) ?_
      refine lv_iload_n B.1 B.2.1 dX9_readPlace_136 rfl (lv_at hl 2 rfl) ?_
      refine lv_if_eq (tgt := 150) B.1 B.2.1 dX9_readPlace_137 (by decide) (fun _ => ?_) (fun z => absurd (bI_f.mpr q_116) z)
      refine lv_iconst (v := nI 0) B.1 B.2.1 dX9_readPlace_150 (by decide) ?_
      refine r_cast B hC (i := 180) (by decide) hM_F9.c180 (j := p) (by omega) (by decide) dX9_readPlace_151 ?_
      intro H locs hC
      obtain ⟨F10, eF10⟩ : ∃ f : Nat → va_E, f = va_up F9 180 (.inl (g.2.2 0, 10, .inl (upd (q9 180) (p) (nI 0)))) := ⟨_, rfl⟩
      have hC : Cu g lo 196 ad F10 ss ss.heap H locs := by rw [eF10]; exact hC
      obtain ⟨q10, eq10⟩ : ∃ f, f = va_up q9 180 (upd (q9 180) (p) (nI 0)) := ⟨_, rfl⟩
      have hM_F10 : MC g ad F10 c7 q10 sm := by rw [eq10]; exact hM_F9.arr (by decide) (by decide) (by decide) (by decide) (by decide) eF10
      have hS_F10 : Same 175 196 F F10 := by rw [eF10]; exact hS_F9.up (by decide) (by decide)
      have u151 := u1_of eq10
      refine lv_aload_n B.1 B.2.1 dX9_readPlace_152 rfl (lv_at hl 1 rfl) ?_
      refine lv_dup B.1 B.2.1 dX9_readPlace_153 rfl ?_
      refine r_cg B hC (i := 175) (by decide) hM_F10.1 (C := RX9) (T := TX9) (n := 35) rfl iwX9_readPlace_X9 5 (by decide) (index := 93) flX9_readPlace_93 rfl (v := .int (c7 5)) rfl dX9_readPlace_154 ?_
      refine r_tI (y := nI p) (((hk106.1 5 (by decide)).trans ((hk37.1 5 (by decide)).trans ((hk24.1 5 (by decide)).trans cv5_F1)))) ?_
      refine lv_iconst (v := nI 1) B.1 B.2.1 dX9_readPlace_157 (by decide) ?_
      refine lv_iadd B.1 B.2.1 dX9_readPlace_158 ?_
      refine r_tI (y := nI (p + 1)) (nI_add _ _) ?_
      obtain ⟨c11, ec11⟩ : ∃ f, f = va_up c7 5 (nI (p + 1)) := ⟨_, rfl⟩
      refine r_cp B hC (i := 175) (by decide) hM_F10.1 tyX9 tyX9_ok nmX9 (C := RX9) (T := TX9) rfl iwX9_readPlace_X9 5 (by decide) (index := 93) flX9_readPlace_93 rfl rfl (v := .int (nI (p + 1))) (rfl) (rfl) (Nat.le_of_ble_eq_true rfl) dX9_readPlace_159 ?_
      intro H locs hC
      obtain ⟨F11, eF11⟩ : ∃ f, f = va_up F10 175 (mObj ad c11) := ⟨_, rfl⟩
      have hC : Cu g lo 196 ad F11 ss ss.heap H locs := by rw [eF11, ec11]; exact hC
      have hM_F11 : MC g ad F11 c11 q10 sm := hM_F10.fld eF11
      have cv16_F11 : c11 16 = nI (tn v) := by rw [ec11, va_up_ne _ _ (by decide)]; exact ((hk106.1 16 (by decide)).trans ((hk37.1 16 (by decide)).trans ((hk24.1 16 (by decide)).trans cv16_F1)))
      have cv17_F11 : c11 17 = nI (fgS v (rpl2 v i) 0 p).2 := by rw [ec11, va_up_ne _ _ (by decide)]; exact hs106.2.1
      have cv18_F11 : c11 18 = oI (fgS v (rpl2 v i) 0 p).1 := by rw [ec11, va_up_ne _ _ (by decide)]; exact hs106.1
      have cv5_F11 : c11 5 = nI (p + 1) := by rw [ec11, va_up_self]
      have hS_F11 : Same 175 196 F F11 := by rw [eF11]; exact hS_F10.up (by decide) (by decide)
      exact r_eV B hC (⟨_, _, hM_F11, hS_F11, ((((((((((((CQ.rf (A := [5, 17, 18]) (B := [176, 177, 178, 179, 180])).uc ec1 (by decide)).u1 hk24 (by decide) (by decide)).uq eq3 (by decide)).u1 hk37 (by decide) (by decide)).uq eq5 (by decide)).uq eq6 (by decide)).u1 hk106 (by decide) (by decide)).uq eq8 (by decide)).uq eq9 (by decide)).uq eq10 (by decide)).uc ec11 (by decide)), by unfold rpl5; rw [if_neg (by rw [q_116]; decide)]; exact SR.up hs3 ec11 (by decide) (by decide), cv5_F11, by rw [← hv3, show oI (rvS v b i p) = (-9 : Int32) from (by unfold rvS; rw [if_neg (by rw [q_116]; decide)] <;> rfl), show nI (rvW v b i p) = nI 0 from (by unfold rvW; rw [if_neg (by rw [q_116]; decide)])]; exact (rd5b u27 u40 u48 u109 u130 u151)⟩) dX9_readPlace_162
    · have q_116 : b = true := bI_t.mp c_116
      refine lv_aload_n B.1 B.2.1 dX9_readPlace_119 rfl (lv_at hl 1 rfl) ?_
      refine lv_iconst (v := nI 0) B.1 B.2.1 dX9_readPlace_120 (by decide) ?_
      refine lv_iconst (v := nI 2) B.1 B.2.1 dX9_readPlace_121 (by decide) ?_
      refine r_tI (y := nI 3 - nI 1) (rfl) ?_
      refine r_calli B hC hl.1 (175) 9 rfl rfl (by decide) hM_F8.1 (As := [.int (nI 0), .int (nI 3 - nI 1)]) (ctX9_figure l g lo ad hM_F8 ok (hT.cq (((((((((CQ.rf (A := [5, 17, 18]) (B := [176, 177, 178, 179, 180])).uc ec1 (by decide)).u1 hk24 (by decide) (by decide)).uq eq3 (by decide)).u1 hk37 (by decide) (by decide)).uq eq5 (by decide)).uq eq6 (by decide)).u1 hk106 (by decide) (by decide)).uq eq8 (by decide)) (by decide) (by decide)) (z := (rpl3 v i p)) hs3 (by decide) (by decide)) gX9_readPlace_X9_figure rfl (n := 2) rfl (by decide +kernel) ⟨Nat.le_of_ble_eq_true rfl, Nat.le_of_ble_eq_true rfl⟩ ⟨Nat.zero_le _, Nat.zero_le _⟩ rfl (Nat.le_of_ble_eq_true rfl) dX9_readPlace_122 (fun r122 F9 H locs hp122 hC => ?_)
      obtain ⟨c9, hM_F9, hT_F9, hk122, hr122, hs122⟩ := hp122
      have hS_F9 : Same 175 196 F F9 := Same.tr2 hS_F8 hT_F9 (by decide) (by decide)
      refine r_tI (y := nI (fgV v (rpl3 v i p) 0 3)) (hr122) ?_
      refine lv_goto (tgt := 130) B.1 B.2.1 dX9_readPlace_125 (by decide) ?_
      refine r_cast B hC (i := 179) (by decide) hM_F9.c179 (j := p) (by omega) (by decide) dX9_readPlace_130 ?_
      intro H locs hC
      obtain ⟨F10, eF10⟩ : ∃ f : Nat → va_E, f = va_up F9 179 (.inl (g.2.2 0, 10, .inl (upd (q8 179) (p) (nI (fgV v (rpl3 v i p) 0 3))))) := ⟨_, rfl⟩
      have hC : Cu g lo 196 ad F10 ss ss.heap H locs := by rw [eF10]; exact hC
      obtain ⟨q10, eq10⟩ : ∃ f, f = va_up q8 179 (upd (q8 179) (p) (nI (fgV v (rpl3 v i p) 0 3))) := ⟨_, rfl⟩
      have hM_F10 : MC g ad F10 c9 q10 sm := by rw [eq10]; exact hM_F9.arr (by decide) (by decide) (by decide) (by decide) (by decide) eF10
      have hS_F10 : Same 175 196 F F10 := by rw [eF10]; exact hS_F9.up (by decide) (by decide)
      have u130 := u1_of eq10
      refine lv_aload_n B.1 B.2.1 dX9_readPlace_131 rfl (lv_at hl 1 rfl) ?_
      refine r_cg B hC (i := 175) (by decide) hM_F10.1 (C := RX9) (T := TX9) (n := 35) rfl iwX9_readPlace_X9 4 (by decide) (index := 22) flX9_readPlace_22 rfl (v := .ref (ad (180))) rfl dX9_readPlace_132 ?_
      refine lv_iload_n B.1 B.2.1 dX9_readPlace_135 rfl (lv_at hl 0 rfl) ?_
      refine lv_iload_n B.1 B.2.1 dX9_readPlace_136 rfl (lv_at hl 2 rfl) ?_
      refine lv_if_eq (tgt := 150) B.1 B.2.1 dX9_readPlace_137 (by decide) (fun z => absurd z (bI_t.mpr q_116)) (fun _ => ?_)
      refine lv_aload_n B.1 B.2.1 dX9_readPlace_140 rfl (lv_at hl 1 rfl) ?_
      refine lv_iconst (v := nI 0) B.1 B.2.1 dX9_readPlace_141 (by decide) ?_
      refine lv_bipush (v := nI 9) B.1 B.2.1 dX9_readPlace_142 (by decide) ?_
      refine r_tI (y := nI 10 - nI 1) (rfl) ?_
      refine r_calli B hC hl.1 (175) 9 rfl rfl (by decide) hM_F10.1 (As := [.int (nI 0), .int (nI 10 - nI 1)]) (ctX9_figure l g lo ad hM_F10 ok (hT.cq (((((((((((CQ.rf (A := [5, 17, 18]) (B := [176, 177, 178, 179, 180])).uc ec1 (by decide)).u1 hk24 (by decide) (by decide)).uq eq3 (by decide)).u1 hk37 (by decide) (by decide)).uq eq5 (by decide)).uq eq6 (by decide)).u1 hk106 (by decide) (by decide)).uq eq8 (by decide)).u1 hk122 (by decide) (by decide)).uq eq10 (by decide)) (by decide) (by decide)) (z := (fgS v (rpl3 v i p) 0 3)) hs122 (by decide) (by decide)) gX9_readPlace_X9_figure rfl (n := 2) rfl (by decide +kernel) ⟨Nat.le_of_ble_eq_true rfl, Nat.le_of_ble_eq_true rfl⟩ ⟨Nat.zero_le _, Nat.zero_le _⟩ rfl (Nat.le_of_ble_eq_true rfl) dX9_readPlace_144 (fun r144 F11 H locs hp144 hC => ?_)
      obtain ⟨c11, hM_F11, hT_F11, hk144, hr144, hs144⟩ := hp144
      have hS_F11 : Same 175 196 F F11 := Same.tr2 hS_F10 hT_F11 (by decide) (by decide)
      refine r_tI (y := nI (fgV v (fgS v (rpl3 v i p) 0 3) 0 10)) (hr144) ?_
      refine lv_goto (tgt := 151) B.1 B.2.1 dX9_readPlace_147 (by decide) ?_
      refine r_cast B hC (i := 180) (by decide) hM_F11.c180 (j := p) (by omega) (by decide) dX9_readPlace_151 ?_
      intro H locs hC
      obtain ⟨F12, eF12⟩ : ∃ f : Nat → va_E, f = va_up F11 180 (.inl (g.2.2 0, 10, .inl (upd (q10 180) (p) (nI (fgV v (fgS v (rpl3 v i p) 0 3) 0 10))))) := ⟨_, rfl⟩
      have hC : Cu g lo 196 ad F12 ss ss.heap H locs := by rw [eF12]; exact hC
      obtain ⟨q12, eq12⟩ : ∃ f, f = va_up q10 180 (upd (q10 180) (p) (nI (fgV v (fgS v (rpl3 v i p) 0 3) 0 10))) := ⟨_, rfl⟩
      have hM_F12 : MC g ad F12 c11 q12 sm := by rw [eq12]; exact hM_F11.arr (by decide) (by decide) (by decide) (by decide) (by decide) eF12
      have hS_F12 : Same 175 196 F F12 := by rw [eF12]; exact hS_F11.up (by decide) (by decide)
      have u151 := u1_of eq12
      refine lv_aload_n B.1 B.2.1 dX9_readPlace_152 rfl (lv_at hl 1 rfl) ?_
      refine lv_dup B.1 B.2.1 dX9_readPlace_153 rfl ?_
      refine r_cg B hC (i := 175) (by decide) hM_F12.1 (C := RX9) (T := TX9) (n := 35) rfl iwX9_readPlace_X9 5 (by decide) (index := 93) flX9_readPlace_93 rfl (v := .int (c11 5)) rfl dX9_readPlace_154 ?_
      refine r_tI (y := nI p) (((hk144.1 5 (by decide)).trans ((hk122.1 5 (by decide)).trans ((hk106.1 5 (by decide)).trans ((hk37.1 5 (by decide)).trans ((hk24.1 5 (by decide)).trans cv5_F1)))))) ?_
      refine lv_iconst (v := nI 1) B.1 B.2.1 dX9_readPlace_157 (by decide) ?_
      refine lv_iadd B.1 B.2.1 dX9_readPlace_158 ?_
      refine r_tI (y := nI (p + 1)) (nI_add _ _) ?_
      obtain ⟨c13, ec13⟩ : ∃ f, f = va_up c11 5 (nI (p + 1)) := ⟨_, rfl⟩
      refine r_cp B hC (i := 175) (by decide) hM_F12.1 tyX9 tyX9_ok nmX9 (C := RX9) (T := TX9) rfl iwX9_readPlace_X9 5 (by decide) (index := 93) flX9_readPlace_93 rfl rfl (v := .int (nI (p + 1))) (rfl) (rfl) (Nat.le_of_ble_eq_true rfl) dX9_readPlace_159 ?_
      intro H locs hC
      obtain ⟨F13, eF13⟩ : ∃ f, f = va_up F12 175 (mObj ad c13) := ⟨_, rfl⟩
      have hC : Cu g lo 196 ad F13 ss ss.heap H locs := by rw [eF13, ec13]; exact hC
      have hM_F13 : MC g ad F13 c13 q12 sm := hM_F12.fld eF13
      have cv16_F13 : c13 16 = nI (tn v) := by rw [ec13, va_up_ne _ _ (by decide)]; exact ((hk144.1 16 (by decide)).trans ((hk122.1 16 (by decide)).trans ((hk106.1 16 (by decide)).trans ((hk37.1 16 (by decide)).trans ((hk24.1 16 (by decide)).trans cv16_F1)))))
      have cv17_F13 : c13 17 = nI (fgS v (fgS v (rpl3 v i p) 0 3) 0 10).2 := by rw [ec13, va_up_ne _ _ (by decide)]; exact hs144.2.1
      have cv18_F13 : c13 18 = oI (fgS v (fgS v (rpl3 v i p) 0 3) 0 10).1 := by rw [ec13, va_up_ne _ _ (by decide)]; exact hs144.1
      have cv5_F13 : c13 5 = nI (p + 1) := by rw [ec13, va_up_self]
      have hS_F13 : Same 175 196 F F13 := by rw [eF13]; exact hS_F12.up (by decide) (by decide)
      exact r_eV B hC (⟨_, _, hM_F13, hS_F13, ((((((((((((((CQ.rf (A := [5, 17, 18]) (B := [176, 177, 178, 179, 180])).uc ec1 (by decide)).u1 hk24 (by decide) (by decide)).uq eq3 (by decide)).u1 hk37 (by decide) (by decide)).uq eq5 (by decide)).uq eq6 (by decide)).u1 hk106 (by decide) (by decide)).uq eq8 (by decide)).u1 hk122 (by decide) (by decide)).uq eq10 (by decide)).u1 hk144 (by decide) (by decide)).uq eq12 (by decide)).uc ec13 (by decide)), by unfold rpl5; rw [if_pos q_116]; exact SR.up hs144 ec13 (by decide) (by decide), cv5_F13, by rw [← hv3, show oI (rvS v b i p) = nI (fgV v (rpl3 v i p) 0 3) from (by unfold rvS; rw [if_pos q_116] <;> rfl), show nI (rvW v b i p) = nI (fgV v (fgS v (rpl3 v i p) 0 3) 0 10) from (by unfold rvW; rw [if_pos q_116])]; exact (rd5b u27 u40 u48 u109 u130 u151)⟩) dX9_readPlace_162
  · have q_55 : (rpl2 v i).1 = none := (oI_9 (fun k hk => Nat.lt_of_le_of_lt (hs37.2.2.2 k hk) (by omega))).mp c_55
    have hb2 := hs37.2.2.1
    refine lv_aload_n B.1 B.2.1 dX9_readPlace_58 rfl (lv_at hl 1 rfl) ?_
    refine r_cg B hC (i := 175) (by decide) hM_F6.1 (C := RX9) (T := TX9) (n := 35) rfl iwX9_readPlace_X9 17 (by decide) (index := 90) flX9_readPlace_90 rfl (v := .int (c4 17)) rfl dX9_readPlace_59 ?_
    refine r_tI (y := nI (fgS v (rpl1 v i) 0 10).2) (hs37.2.1) ?_
    refine lv_aload_n B.1 B.2.1 dX9_readPlace_62 rfl (lv_at hl 1 rfl) ?_
    refine r_cg B hC (i := 175) (by decide) hM_F6.1 (C := RX9) (T := TX9) (n := 35) rfl iwX9_readPlace_X9 16 (by decide) (index := 82) flX9_readPlace_82 rfl (v := .int (c4 16)) rfl dX9_readPlace_63 ?_
    refine r_tI (y := nI (tn v)) (((hk37.1 16 (by decide)).trans ((hk24.1 16 (by decide)).trans cv16_F1))) ?_
    refine lv_icmp_ge (tgt := 96) B.1 B.2.1 dX9_readPlace_66 (by decide) (fun c_66 => ?_) (fun c_66 => ?_)
    · have q_66 : tn v ≤ (rpl2 v i).2 := (nI_leI (by omega) (by have := hs37.2.2.1; unfold rpl2; omega)).mp c_66
      have ed : dash v i = false := by unfold dash tat; rw [if_neg (by omega)]; simp
      refine lv_aload_n B.1 B.2.1 dX9_readPlace_96 rfl (lv_at hl 1 rfl) ?_
      refine r_cg B hC (i := 175) (by decide) hM_F6.1 (C := RX9) (T := TX9) (n := 35) rfl iwX9_readPlace_X9 2 (by decide) (index := 16) flX9_readPlace_16 rfl (v := .ref (ad (178))) rfl dX9_readPlace_97 ?_
      refine lv_iload_n B.1 B.2.1 dX9_readPlace_100 rfl (lv_at hl 0 rfl) ?_
      refine lv_aload_n B.1 B.2.1 dX9_readPlace_101 rfl (lv_at hl 1 rfl) ?_
      refine lv_iconst (v := nI 0) B.1 B.2.1 dX9_readPlace_102 (by decide) ?_
      refine lv_iload_n B.1 B.2.1 dX9_readPlace_103 rfl (lv_at hl 0 rfl) ?_
      refine lv_iconst (v := nI 1) B.1 B.2.1 dX9_readPlace_104 (by decide) ?_
      refine lv_isub B.1 B.2.1 dX9_readPlace_105 ?_
      refine r_tI (y := (nI p) - (nI 1)) (rfl) ?_
      refine r_calli B hC hl.1 (175) 9 rfl rfl (by decide) hM_F6.1 (As := [.int (nI 0), .int ((nI p) - (nI 1))]) (ctX9_figure l g lo ad hM_F6 ok (hT.cq (((((((CQ.rf (A := [5, 17, 18]) (B := [176, 177, 178, 179, 180])).uc ec1 (by decide)).u1 hk24 (by decide) (by decide)).uq eq3 (by decide)).u1 hk37 (by decide) (by decide)).uq eq5 (by decide)).uq eq6 (by decide)) (by decide) (by decide)) (z := (rpl2 v i)) hs37 (by decide) (by omega)) gX9_readPlace_X9_figure rfl (n := 2) rfl (by decide +kernel) ⟨Nat.le_of_ble_eq_true rfl, Nat.le_of_ble_eq_true rfl⟩ ⟨Nat.zero_le _, Nat.zero_le _⟩ rfl (Nat.le_of_ble_eq_true rfl) dX9_readPlace_106 (fun r106 F7 H locs hp106 hC => ?_)
      obtain ⟨c7, hM_F7, hT_F7, hk106, hr106, hs106⟩ := hp106
      have hS_F7 : Same 175 196 F F7 := Same.tr2 hS_F6 hT_F7 (by decide) (by decide)
      refine r_tI (y := nI (fgV v (rpl2 v i) 0 p)) (hr106) ?_
      refine r_cast B hC (i := 178) (by decide) hM_F7.c178 (j := p) (by omega) (by decide) dX9_readPlace_109 ?_
      intro H locs hC
      obtain ⟨F8, eF8⟩ : ∃ f : Nat → va_E, f = va_up F7 178 (.inl (g.2.2 0, 10, .inl (upd (q6 178) (p) (nI (fgV v (rpl2 v i) 0 p))))) := ⟨_, rfl⟩
      have hC : Cu g lo 196 ad F8 ss ss.heap H locs := by rw [eF8]; exact hC
      obtain ⟨q8, eq8⟩ : ∃ f, f = va_up q6 178 (upd (q6 178) (p) (nI (fgV v (rpl2 v i) 0 p))) := ⟨_, rfl⟩
      have hM_F8 : MC g ad F8 c7 q8 sm := by rw [eq8]; exact hM_F7.arr (by decide) (by decide) (by decide) (by decide) (by decide) eF8
      have hS_F8 : Same 175 196 F F8 := by rw [eF8]; exact hS_F7.up (by decide) (by decide)
      have u109 := u1_of eq8
      have hs3 : SR v (rpl3 v i p) c7 := by unfold rpl3; rw [if_neg (by rw [ed]; decide)]; exact hs106
      have hv3 : nI (fgV v (rpl2 v i) 0 p) = oI (rvR v i p) := by unfold rvR; rw [if_neg (by rw [ed]; decide)]; rfl
      refine lv_aload_n B.1 B.2.1 dX9_readPlace_110 rfl (lv_at hl 1 rfl) ?_
      refine r_cg B hC (i := 175) (by decide) hM_F8.1 (C := RX9) (T := TX9) (n := 35) rfl iwX9_readPlace_X9 3 (by decide) (index := 19) flX9_readPlace_19 rfl (v := .ref (ad (179))) rfl dX9_readPlace_111 ?_
      refine lv_iload_n B.1 B.2.1 dX9_readPlace_114 rfl (lv_at hl 0 rfl) ?_
      refine lv_iload_n B.1 B.2.1 dX9_readPlace_115 rfl (lv_at hl 2 rfl) ?_
      refine lv_if_eq (tgt := 128) B.1 B.2.1 dX9_readPlace_116 (by decide) (fun c_116 => ?_) (fun c_116 => ?_)
      · have q_116 : b = false := bI_f.mp c_116
        refine lv_bipush (v := (-9)) B.1 B.2.1 dX9_readPlace_128 (by decide) ?_
        refine r_cast B hC (i := 179) (by decide) hM_F8.c179 (j := p) (by omega) (by decide) dX9_readPlace_130 ?_
        intro H locs hC
        obtain ⟨F9, eF9⟩ : ∃ f : Nat → va_E, f = va_up F8 179 (.inl (g.2.2 0, 10, .inl (upd (q8 179) (p) ((-9))))) := ⟨_, rfl⟩
        have hC : Cu g lo 196 ad F9 ss ss.heap H locs := by rw [eF9]; exact hC
        obtain ⟨q9, eq9⟩ : ∃ f, f = va_up q8 179 (upd (q8 179) (p) ((-9))) := ⟨_, rfl⟩
        have hM_F9 : MC g ad F9 c7 q9 sm := by rw [eq9]; exact hM_F8.arr (by decide) (by decide) (by decide) (by decide) (by decide) eF9
        have hS_F9 : Same 175 196 F F9 := by rw [eF9]; exact hS_F8.up (by decide) (by decide)
        have u130 := u1_of eq9
        refine lv_aload_n B.1 B.2.1 dX9_readPlace_131 rfl (lv_at hl 1 rfl) ?_
        refine r_cg B hC (i := 175) (by decide) hM_F9.1 (C := RX9) (T := TX9) (n := 35) rfl iwX9_readPlace_X9 4 (by decide) (index := 22) flX9_readPlace_22 rfl (v := .ref (ad (180))) rfl dX9_readPlace_132 ?_
        refine lv_iload_n B.1 B.2.1 dX9_readPlace_135 rfl (lv_at hl 0 rfl) ?_
        refine lv_iload_n B.1 B.2.1 dX9_readPlace_136 rfl (lv_at hl 2 rfl) ?_
        refine lv_if_eq (tgt := 150) B.1 B.2.1 dX9_readPlace_137 (by decide) (fun _ => ?_) (fun z => absurd (bI_f.mpr q_116) z)
        refine lv_iconst (v := nI 0) B.1 B.2.1 dX9_readPlace_150 (by decide) ?_
        refine r_cast B hC (i := 180) (by decide) hM_F9.c180 (j := p) (by omega) (by decide) dX9_readPlace_151 ?_
        intro H locs hC
        obtain ⟨F10, eF10⟩ : ∃ f : Nat → va_E, f = va_up F9 180 (.inl (g.2.2 0, 10, .inl (upd (q9 180) (p) (nI 0)))) := ⟨_, rfl⟩
        have hC : Cu g lo 196 ad F10 ss ss.heap H locs := by rw [eF10]; exact hC
        obtain ⟨q10, eq10⟩ : ∃ f, f = va_up q9 180 (upd (q9 180) (p) (nI 0)) := ⟨_, rfl⟩
        have hM_F10 : MC g ad F10 c7 q10 sm := by rw [eq10]; exact hM_F9.arr (by decide) (by decide) (by decide) (by decide) (by decide) eF10
        have hS_F10 : Same 175 196 F F10 := by rw [eF10]; exact hS_F9.up (by decide) (by decide)
        have u151 := u1_of eq10
        refine lv_aload_n B.1 B.2.1 dX9_readPlace_152 rfl (lv_at hl 1 rfl) ?_
        refine lv_dup B.1 B.2.1 dX9_readPlace_153 rfl ?_
        refine r_cg B hC (i := 175) (by decide) hM_F10.1 (C := RX9) (T := TX9) (n := 35) rfl iwX9_readPlace_X9 5 (by decide) (index := 93) flX9_readPlace_93 rfl (v := .int (c7 5)) rfl dX9_readPlace_154 ?_
        refine r_tI (y := nI p) (((hk106.1 5 (by decide)).trans ((hk37.1 5 (by decide)).trans ((hk24.1 5 (by decide)).trans cv5_F1)))) ?_
        refine lv_iconst (v := nI 1) B.1 B.2.1 dX9_readPlace_157 (by decide) ?_
        refine lv_iadd B.1 B.2.1 dX9_readPlace_158 ?_
        refine r_tI (y := nI (p + 1)) (nI_add _ _) ?_
        obtain ⟨c11, ec11⟩ : ∃ f, f = va_up c7 5 (nI (p + 1)) := ⟨_, rfl⟩
        refine r_cp B hC (i := 175) (by decide) hM_F10.1 tyX9 tyX9_ok nmX9 (C := RX9) (T := TX9) rfl iwX9_readPlace_X9 5 (by decide) (index := 93) flX9_readPlace_93 rfl rfl (v := .int (nI (p + 1))) (rfl) (rfl) (Nat.le_of_ble_eq_true rfl) dX9_readPlace_159 ?_
        intro H locs hC
        obtain ⟨F11, eF11⟩ : ∃ f, f = va_up F10 175 (mObj ad c11) := ⟨_, rfl⟩
        have hC : Cu g lo 196 ad F11 ss ss.heap H locs := by rw [eF11, ec11]; exact hC
        have hM_F11 : MC g ad F11 c11 q10 sm := hM_F10.fld eF11
        have cv16_F11 : c11 16 = nI (tn v) := by rw [ec11, va_up_ne _ _ (by decide)]; exact ((hk106.1 16 (by decide)).trans ((hk37.1 16 (by decide)).trans ((hk24.1 16 (by decide)).trans cv16_F1)))
        have cv17_F11 : c11 17 = nI (fgS v (rpl2 v i) 0 p).2 := by rw [ec11, va_up_ne _ _ (by decide)]; exact hs106.2.1
        have cv18_F11 : c11 18 = oI (fgS v (rpl2 v i) 0 p).1 := by rw [ec11, va_up_ne _ _ (by decide)]; exact hs106.1
        have cv5_F11 : c11 5 = nI (p + 1) := by rw [ec11, va_up_self]
        have hS_F11 : Same 175 196 F F11 := by rw [eF11]; exact hS_F10.up (by decide) (by decide)
        exact r_eV B hC (⟨_, _, hM_F11, hS_F11, ((((((((((((CQ.rf (A := [5, 17, 18]) (B := [176, 177, 178, 179, 180])).uc ec1 (by decide)).u1 hk24 (by decide) (by decide)).uq eq3 (by decide)).u1 hk37 (by decide) (by decide)).uq eq5 (by decide)).uq eq6 (by decide)).u1 hk106 (by decide) (by decide)).uq eq8 (by decide)).uq eq9 (by decide)).uq eq10 (by decide)).uc ec11 (by decide)), by unfold rpl5; rw [if_neg (by rw [q_116]; decide)]; exact SR.up hs3 ec11 (by decide) (by decide), cv5_F11, by rw [← hv3, show oI (rvS v b i p) = (-9 : Int32) from (by unfold rvS; rw [if_neg (by rw [q_116]; decide)] <;> rfl), show nI (rvW v b i p) = nI 0 from (by unfold rvW; rw [if_neg (by rw [q_116]; decide)])]; exact (rd5b u27 u40 u48 u109 u130 u151)⟩) dX9_readPlace_162
      · have q_116 : b = true := bI_t.mp c_116
        refine lv_aload_n B.1 B.2.1 dX9_readPlace_119 rfl (lv_at hl 1 rfl) ?_
        refine lv_iconst (v := nI 0) B.1 B.2.1 dX9_readPlace_120 (by decide) ?_
        refine lv_iconst (v := nI 2) B.1 B.2.1 dX9_readPlace_121 (by decide) ?_
        refine r_tI (y := nI 3 - nI 1) (rfl) ?_
        refine r_calli B hC hl.1 (175) 9 rfl rfl (by decide) hM_F8.1 (As := [.int (nI 0), .int (nI 3 - nI 1)]) (ctX9_figure l g lo ad hM_F8 ok (hT.cq (((((((((CQ.rf (A := [5, 17, 18]) (B := [176, 177, 178, 179, 180])).uc ec1 (by decide)).u1 hk24 (by decide) (by decide)).uq eq3 (by decide)).u1 hk37 (by decide) (by decide)).uq eq5 (by decide)).uq eq6 (by decide)).u1 hk106 (by decide) (by decide)).uq eq8 (by decide)) (by decide) (by decide)) (z := (rpl3 v i p)) hs3 (by decide) (by decide)) gX9_readPlace_X9_figure rfl (n := 2) rfl (by decide +kernel) ⟨Nat.le_of_ble_eq_true rfl, Nat.le_of_ble_eq_true rfl⟩ ⟨Nat.zero_le _, Nat.zero_le _⟩ rfl (Nat.le_of_ble_eq_true rfl) dX9_readPlace_122 (fun r122 F9 H locs hp122 hC => ?_)
        obtain ⟨c9, hM_F9, hT_F9, hk122, hr122, hs122⟩ := hp122
        have hS_F9 : Same 175 196 F F9 := Same.tr2 hS_F8 hT_F9 (by decide) (by decide)
        refine r_tI (y := nI (fgV v (rpl3 v i p) 0 3)) (hr122) ?_
        refine lv_goto (tgt := 130) B.1 B.2.1 dX9_readPlace_125 (by decide) ?_
        refine r_cast B hC (i := 179) (by decide) hM_F9.c179 (j := p) (by omega) (by decide) dX9_readPlace_130 ?_
        intro H locs hC
        obtain ⟨F10, eF10⟩ : ∃ f : Nat → va_E, f = va_up F9 179 (.inl (g.2.2 0, 10, .inl (upd (q8 179) (p) (nI (fgV v (rpl3 v i p) 0 3))))) := ⟨_, rfl⟩
        have hC : Cu g lo 196 ad F10 ss ss.heap H locs := by rw [eF10]; exact hC
        obtain ⟨q10, eq10⟩ : ∃ f, f = va_up q8 179 (upd (q8 179) (p) (nI (fgV v (rpl3 v i p) 0 3))) := ⟨_, rfl⟩
        have hM_F10 : MC g ad F10 c9 q10 sm := by rw [eq10]; exact hM_F9.arr (by decide) (by decide) (by decide) (by decide) (by decide) eF10
        have hS_F10 : Same 175 196 F F10 := by rw [eF10]; exact hS_F9.up (by decide) (by decide)
        have u130 := u1_of eq10
        refine lv_aload_n B.1 B.2.1 dX9_readPlace_131 rfl (lv_at hl 1 rfl) ?_
        refine r_cg B hC (i := 175) (by decide) hM_F10.1 (C := RX9) (T := TX9) (n := 35) rfl iwX9_readPlace_X9 4 (by decide) (index := 22) flX9_readPlace_22 rfl (v := .ref (ad (180))) rfl dX9_readPlace_132 ?_
        refine lv_iload_n B.1 B.2.1 dX9_readPlace_135 rfl (lv_at hl 0 rfl) ?_
        refine lv_iload_n B.1 B.2.1 dX9_readPlace_136 rfl (lv_at hl 2 rfl) ?_
        refine lv_if_eq (tgt := 150) B.1 B.2.1 dX9_readPlace_137 (by decide) (fun z => absurd z (bI_t.mpr q_116)) (fun _ => ?_)
        refine lv_aload_n B.1 B.2.1 dX9_readPlace_140 rfl (lv_at hl 1 rfl) ?_
        refine lv_iconst (v := nI 0) B.1 B.2.1 dX9_readPlace_141 (by decide) ?_
        refine lv_bipush (v := nI 9) B.1 B.2.1 dX9_readPlace_142 (by decide) ?_
        refine r_tI (y := nI 10 - nI 1) (rfl) ?_
        refine r_calli B hC hl.1 (175) 9 rfl rfl (by decide) hM_F10.1 (As := [.int (nI 0), .int (nI 10 - nI 1)]) (ctX9_figure l g lo ad hM_F10 ok (hT.cq (((((((((((CQ.rf (A := [5, 17, 18]) (B := [176, 177, 178, 179, 180])).uc ec1 (by decide)).u1 hk24 (by decide) (by decide)).uq eq3 (by decide)).u1 hk37 (by decide) (by decide)).uq eq5 (by decide)).uq eq6 (by decide)).u1 hk106 (by decide) (by decide)).uq eq8 (by decide)).u1 hk122 (by decide) (by decide)).uq eq10 (by decide)) (by decide) (by decide)) (z := (fgS v (rpl3 v i p) 0 3)) hs122 (by decide) (by decide)) gX9_readPlace_X9_figure rfl (n := 2) rfl (by decide +kernel) ⟨Nat.le_of_ble_eq_true rfl, Nat.le_of_ble_eq_true rfl⟩ ⟨Nat.zero_le _, Nat.zero_le _⟩ rfl (Nat.le_of_ble_eq_true rfl) dX9_readPlace_144 (fun r144 F11 H locs hp144 hC => ?_)
        obtain ⟨c11, hM_F11, hT_F11, hk144, hr144, hs144⟩ := hp144
        have hS_F11 : Same 175 196 F F11 := Same.tr2 hS_F10 hT_F11 (by decide) (by decide)
        refine r_tI (y := nI (fgV v (fgS v (rpl3 v i p) 0 3) 0 10)) (hr144) ?_
        refine lv_goto (tgt := 151) B.1 B.2.1 dX9_readPlace_147 (by decide) ?_
        refine r_cast B hC (i := 180) (by decide) hM_F11.c180 (j := p) (by omega) (by decide) dX9_readPlace_151 ?_
        intro H locs hC
        obtain ⟨F12, eF12⟩ : ∃ f : Nat → va_E, f = va_up F11 180 (.inl (g.2.2 0, 10, .inl (upd (q10 180) (p) (nI (fgV v (fgS v (rpl3 v i p) 0 3) 0 10))))) := ⟨_, rfl⟩
        have hC : Cu g lo 196 ad F12 ss ss.heap H locs := by rw [eF12]; exact hC
        obtain ⟨q12, eq12⟩ : ∃ f, f = va_up q10 180 (upd (q10 180) (p) (nI (fgV v (fgS v (rpl3 v i p) 0 3) 0 10))) := ⟨_, rfl⟩
        have hM_F12 : MC g ad F12 c11 q12 sm := by rw [eq12]; exact hM_F11.arr (by decide) (by decide) (by decide) (by decide) (by decide) eF12
        have hS_F12 : Same 175 196 F F12 := by rw [eF12]; exact hS_F11.up (by decide) (by decide)
        have u151 := u1_of eq12
        refine lv_aload_n B.1 B.2.1 dX9_readPlace_152 rfl (lv_at hl 1 rfl) ?_
        refine lv_dup B.1 B.2.1 dX9_readPlace_153 rfl ?_
        refine r_cg B hC (i := 175) (by decide) hM_F12.1 (C := RX9) (T := TX9) (n := 35) rfl iwX9_readPlace_X9 5 (by decide) (index := 93) flX9_readPlace_93 rfl (v := .int (c11 5)) rfl dX9_readPlace_154 ?_
        refine r_tI (y := nI p) (((hk144.1 5 (by decide)).trans ((hk122.1 5 (by decide)).trans ((hk106.1 5 (by decide)).trans ((hk37.1 5 (by decide)).trans ((hk24.1 5 (by decide)).trans cv5_F1)))))) ?_
        refine lv_iconst (v := nI 1) B.1 B.2.1 dX9_readPlace_157 (by decide) ?_
        refine lv_iadd B.1 B.2.1 dX9_readPlace_158 ?_
        refine r_tI (y := nI (p + 1)) (nI_add _ _) ?_
        obtain ⟨c13, ec13⟩ : ∃ f, f = va_up c11 5 (nI (p + 1)) := ⟨_, rfl⟩
        refine r_cp B hC (i := 175) (by decide) hM_F12.1 tyX9 tyX9_ok nmX9 (C := RX9) (T := TX9) rfl iwX9_readPlace_X9 5 (by decide) (index := 93) flX9_readPlace_93 rfl rfl (v := .int (nI (p + 1))) (rfl) (rfl) (Nat.le_of_ble_eq_true rfl) dX9_readPlace_159 ?_
        intro H locs hC
        obtain ⟨F13, eF13⟩ : ∃ f, f = va_up F12 175 (mObj ad c13) := ⟨_, rfl⟩
        have hC : Cu g lo 196 ad F13 ss ss.heap H locs := by rw [eF13, ec13]; exact hC
        have hM_F13 : MC g ad F13 c13 q12 sm := hM_F12.fld eF13
        have cv16_F13 : c13 16 = nI (tn v) := by rw [ec13, va_up_ne _ _ (by decide)]; exact ((hk144.1 16 (by decide)).trans ((hk122.1 16 (by decide)).trans ((hk106.1 16 (by decide)).trans ((hk37.1 16 (by decide)).trans ((hk24.1 16 (by decide)).trans cv16_F1)))))
        have cv17_F13 : c13 17 = nI (fgS v (fgS v (rpl3 v i p) 0 3) 0 10).2 := by rw [ec13, va_up_ne _ _ (by decide)]; exact hs144.2.1
        have cv18_F13 : c13 18 = oI (fgS v (fgS v (rpl3 v i p) 0 3) 0 10).1 := by rw [ec13, va_up_ne _ _ (by decide)]; exact hs144.1
        have cv5_F13 : c13 5 = nI (p + 1) := by rw [ec13, va_up_self]
        have hS_F13 : Same 175 196 F F13 := by rw [eF13]; exact hS_F12.up (by decide) (by decide)
        exact r_eV B hC (⟨_, _, hM_F13, hS_F13, ((((((((((((((CQ.rf (A := [5, 17, 18]) (B := [176, 177, 178, 179, 180])).uc ec1 (by decide)).u1 hk24 (by decide) (by decide)).uq eq3 (by decide)).u1 hk37 (by decide) (by decide)).uq eq5 (by decide)).uq eq6 (by decide)).u1 hk106 (by decide) (by decide)).uq eq8 (by decide)).u1 hk122 (by decide) (by decide)).uq eq10 (by decide)).u1 hk144 (by decide) (by decide)).uq eq12 (by decide)).uc ec13 (by decide)), by unfold rpl5; rw [if_pos q_116]; exact SR.up hs144 ec13 (by decide) (by decide), cv5_F13, by rw [← hv3, show oI (rvS v b i p) = nI (fgV v (rpl3 v i p) 0 3) from (by unfold rvS; rw [if_pos q_116] <;> rfl), show nI (rvW v b i p) = nI (fgV v (fgS v (rpl3 v i p) 0 3) 0 10) from (by unfold rvW; rw [if_pos q_116])]; exact (rd5b u27 u40 u48 u109 u130 u151)⟩) dX9_readPlace_162
    · have q_66 : (rpl2 v i).2 < tn v := Nat.not_le.mp (fun z => c_66 ((nI_leI (by omega) (by have := hs37.2.2.1; omega)).mpr z))
      refine lv_aload_n B.1 B.2.1 dX9_readPlace_69 rfl (lv_at hl 1 rfl) ?_
      refine r_cg B hC (i := 175) (by decide) hM_F6.1 (C := RX9) (T := TX9) (n := 35) rfl iwX9_readPlace_X9 15 (by decide) (index := 37) flX9_readPlace_37 rfl (v := .ref (ad (185))) rfl dX9_readPlace_70 ?_
      refine lv_aload_n B.1 B.2.1 dX9_readPlace_73 rfl (lv_at hl 1 rfl) ?_
      refine r_cg B hC (i := 175) (by decide) hM_F6.1 (C := RX9) (T := TX9) (n := 35) rfl iwX9_readPlace_X9 17 (by decide) (index := 90) flX9_readPlace_90 rfl (v := .int (c4 17)) rfl dX9_readPlace_74 ?_
      refine r_tI (y := nI (fgS v (rpl1 v i) 0 10).2) (hs37.2.1) ?_
      refine r_cald B hC (i := 185) (by decide) hM_F6.c185 (j := ((fgS v (rpl1 v i) 0 10).2)) (show (rpl2 v i).2 < 72 from by omega) (by decide) dX9_readPlace_77 ?_
      refine r_tI (y := q6 185 ((fgS v (rpl1 v i) 0 10).2)) rfl ?_
      refine r_tI (y := nI (tb v (rpl2 v i).2)) ((hT.cq (((((((CQ.rf (A := [5, 17, 18]) (B := [176, 177, 178, 179, 180])).uc ec1 (by decide)).u1 hk24 (by decide) (by decide)).uq eq3 (by decide)).u1 hk37 (by decide) (by decide)).uq eq5 (by decide)).uq eq6 (by decide)) (by decide) (by decide)).2 _ q_66) ?_
      refine lv_bipush (v := nI 45) B.1 B.2.1 dX9_readPlace_78 (by decide) ?_
      refine lv_icmp_ne (tgt := 96) B.1 B.2.1 dX9_readPlace_80 (by decide) (fun c_80 => ?_) (fun c_80 => ?_)
      · have q_80 : ¬ tb v (rpl2 v i).2 = 45 := fun z => c_80 (by rw [z])
        have ed : dash v i = false := by unfold dash tat; rw [if_pos q_66, decide_eq_false (fun z => q_80 (Option.some.inj z))]; simp
        refine lv_aload_n B.1 B.2.1 dX9_readPlace_96 rfl (lv_at hl 1 rfl) ?_
        refine r_cg B hC (i := 175) (by decide) hM_F6.1 (C := RX9) (T := TX9) (n := 35) rfl iwX9_readPlace_X9 2 (by decide) (index := 16) flX9_readPlace_16 rfl (v := .ref (ad (178))) rfl dX9_readPlace_97 ?_
        refine lv_iload_n B.1 B.2.1 dX9_readPlace_100 rfl (lv_at hl 0 rfl) ?_
        refine lv_aload_n B.1 B.2.1 dX9_readPlace_101 rfl (lv_at hl 1 rfl) ?_
        refine lv_iconst (v := nI 0) B.1 B.2.1 dX9_readPlace_102 (by decide) ?_
        refine lv_iload_n B.1 B.2.1 dX9_readPlace_103 rfl (lv_at hl 0 rfl) ?_
        refine lv_iconst (v := nI 1) B.1 B.2.1 dX9_readPlace_104 (by decide) ?_
        refine lv_isub B.1 B.2.1 dX9_readPlace_105 ?_
        refine r_tI (y := (nI p) - (nI 1)) (rfl) ?_
        refine r_calli B hC hl.1 (175) 9 rfl rfl (by decide) hM_F6.1 (As := [.int (nI 0), .int ((nI p) - (nI 1))]) (ctX9_figure l g lo ad hM_F6 ok (hT.cq (((((((CQ.rf (A := [5, 17, 18]) (B := [176, 177, 178, 179, 180])).uc ec1 (by decide)).u1 hk24 (by decide) (by decide)).uq eq3 (by decide)).u1 hk37 (by decide) (by decide)).uq eq5 (by decide)).uq eq6 (by decide)) (by decide) (by decide)) (z := (rpl2 v i)) hs37 (by decide) (by omega)) gX9_readPlace_X9_figure rfl (n := 2) rfl (by decide +kernel) ⟨Nat.le_of_ble_eq_true rfl, Nat.le_of_ble_eq_true rfl⟩ ⟨Nat.zero_le _, Nat.zero_le _⟩ rfl (Nat.le_of_ble_eq_true rfl) dX9_readPlace_106 (fun r106 F7 H locs hp106 hC => ?_)
        obtain ⟨c7, hM_F7, hT_F7, hk106, hr106, hs106⟩ := hp106
        have hS_F7 : Same 175 196 F F7 := Same.tr2 hS_F6 hT_F7 (by decide) (by decide)
        refine r_tI (y := nI (fgV v (rpl2 v i) 0 p)) (hr106) ?_
        refine r_cast B hC (i := 178) (by decide) hM_F7.c178 (j := p) (by omega) (by decide) dX9_readPlace_109 ?_
        intro H locs hC
        obtain ⟨F8, eF8⟩ : ∃ f : Nat → va_E, f = va_up F7 178 (.inl (g.2.2 0, 10, .inl (upd (q6 178) (p) (nI (fgV v (rpl2 v i) 0 p))))) := ⟨_, rfl⟩
        have hC : Cu g lo 196 ad F8 ss ss.heap H locs := by rw [eF8]; exact hC
        obtain ⟨q8, eq8⟩ : ∃ f, f = va_up q6 178 (upd (q6 178) (p) (nI (fgV v (rpl2 v i) 0 p))) := ⟨_, rfl⟩
        have hM_F8 : MC g ad F8 c7 q8 sm := by rw [eq8]; exact hM_F7.arr (by decide) (by decide) (by decide) (by decide) (by decide) eF8
        have hS_F8 : Same 175 196 F F8 := by rw [eF8]; exact hS_F7.up (by decide) (by decide)
        have u109 := u1_of eq8
        have hs3 : SR v (rpl3 v i p) c7 := by unfold rpl3; rw [if_neg (by rw [ed]; decide)]; exact hs106
        have hv3 : nI (fgV v (rpl2 v i) 0 p) = oI (rvR v i p) := by unfold rvR; rw [if_neg (by rw [ed]; decide)]; rfl
        refine lv_aload_n B.1 B.2.1 dX9_readPlace_110 rfl (lv_at hl 1 rfl) ?_
        refine r_cg B hC (i := 175) (by decide) hM_F8.1 (C := RX9) (T := TX9) (n := 35) rfl iwX9_readPlace_X9 3 (by decide) (index := 19) flX9_readPlace_19 rfl (v := .ref (ad (179))) rfl dX9_readPlace_111 ?_
        refine lv_iload_n B.1 B.2.1 dX9_readPlace_114 rfl (lv_at hl 0 rfl) ?_
        refine lv_iload_n B.1 B.2.1 dX9_readPlace_115 rfl (lv_at hl 2 rfl) ?_
        refine lv_if_eq (tgt := 128) B.1 B.2.1 dX9_readPlace_116 (by decide) (fun c_116 => ?_) (fun c_116 => ?_)
        · have q_116 : b = false := bI_f.mp c_116
          refine lv_bipush (v := (-9)) B.1 B.2.1 dX9_readPlace_128 (by decide) ?_
          refine r_cast B hC (i := 179) (by decide) hM_F8.c179 (j := p) (by omega) (by decide) dX9_readPlace_130 ?_
          intro H locs hC
          obtain ⟨F9, eF9⟩ : ∃ f : Nat → va_E, f = va_up F8 179 (.inl (g.2.2 0, 10, .inl (upd (q8 179) (p) ((-9))))) := ⟨_, rfl⟩
          have hC : Cu g lo 196 ad F9 ss ss.heap H locs := by rw [eF9]; exact hC
          obtain ⟨q9, eq9⟩ : ∃ f, f = va_up q8 179 (upd (q8 179) (p) ((-9))) := ⟨_, rfl⟩
          have hM_F9 : MC g ad F9 c7 q9 sm := by rw [eq9]; exact hM_F8.arr (by decide) (by decide) (by decide) (by decide) (by decide) eF9
          have hS_F9 : Same 175 196 F F9 := by rw [eF9]; exact hS_F8.up (by decide) (by decide)
          have u130 := u1_of eq9
          refine lv_aload_n B.1 B.2.1 dX9_readPlace_131 rfl (lv_at hl 1 rfl) ?_
          refine r_cg B hC (i := 175) (by decide) hM_F9.1 (C := RX9) (T := TX9) (n := 35) rfl iwX9_readPlace_X9 4 (by decide) (index := 22) flX9_readPlace_22 rfl (v := .ref (ad (180))) rfl dX9_readPlace_132 ?_
          refine lv_iload_n B.1 B.2.1 dX9_readPlace_135 rfl (lv_at hl 0 rfl) ?_
          refine lv_iload_n B.1 B.2.1 dX9_readPlace_136 rfl (lv_at hl 2 rfl) ?_
          refine lv_if_eq (tgt := 150) B.1 B.2.1 dX9_readPlace_137 (by decide) (fun _ => ?_) (fun z => absurd (bI_f.mpr q_116) z)
          refine lv_iconst (v := nI 0) B.1 B.2.1 dX9_readPlace_150 (by decide) ?_
          refine r_cast B hC (i := 180) (by decide) hM_F9.c180 (j := p) (by omega) (by decide) dX9_readPlace_151 ?_
          intro H locs hC
          obtain ⟨F10, eF10⟩ : ∃ f : Nat → va_E, f = va_up F9 180 (.inl (g.2.2 0, 10, .inl (upd (q9 180) (p) (nI 0)))) := ⟨_, rfl⟩
          have hC : Cu g lo 196 ad F10 ss ss.heap H locs := by rw [eF10]; exact hC
          obtain ⟨q10, eq10⟩ : ∃ f, f = va_up q9 180 (upd (q9 180) (p) (nI 0)) := ⟨_, rfl⟩
          have hM_F10 : MC g ad F10 c7 q10 sm := by rw [eq10]; exact hM_F9.arr (by decide) (by decide) (by decide) (by decide) (by decide) eF10
          have hS_F10 : Same 175 196 F F10 := by rw [eF10]; exact hS_F9.up (by decide) (by decide)
          have u151 := u1_of eq10
          refine lv_aload_n B.1 B.2.1 dX9_readPlace_152 rfl (lv_at hl 1 rfl) ?_
          refine lv_dup B.1 B.2.1 dX9_readPlace_153 rfl ?_
          refine r_cg B hC (i := 175) (by decide) hM_F10.1 (C := RX9) (T := TX9) (n := 35) rfl iwX9_readPlace_X9 5 (by decide) (index := 93) flX9_readPlace_93 rfl (v := .int (c7 5)) rfl dX9_readPlace_154 ?_
          refine r_tI (y := nI p) (((hk106.1 5 (by decide)).trans ((hk37.1 5 (by decide)).trans ((hk24.1 5 (by decide)).trans cv5_F1)))) ?_
          refine lv_iconst (v := nI 1) B.1 B.2.1 dX9_readPlace_157 (by decide) ?_
          refine lv_iadd B.1 B.2.1 dX9_readPlace_158 ?_
          refine r_tI (y := nI (p + 1)) (nI_add _ _) ?_
          obtain ⟨c11, ec11⟩ : ∃ f, f = va_up c7 5 (nI (p + 1)) := ⟨_, rfl⟩
          refine r_cp B hC (i := 175) (by decide) hM_F10.1 tyX9 tyX9_ok nmX9 (C := RX9) (T := TX9) rfl iwX9_readPlace_X9 5 (by decide) (index := 93) flX9_readPlace_93 rfl rfl (v := .int (nI (p + 1))) (rfl) (rfl) (Nat.le_of_ble_eq_true rfl) dX9_readPlace_159 ?_
          intro H locs hC
          obtain ⟨F11, eF11⟩ : ∃ f, f = va_up F10 175 (mObj ad c11) := ⟨_, rfl⟩
          have hC : Cu g lo 196 ad F11 ss ss.heap H locs := by rw [eF11, ec11]; exact hC
          have hM_F11 : MC g ad F11 c11 q10 sm := hM_F10.fld eF11
          have cv16_F11 : c11 16 = nI (tn v) := by rw [ec11, va_up_ne _ _ (by decide)]; exact ((hk106.1 16 (by decide)).trans ((hk37.1 16 (by decide)).trans ((hk24.1 16 (by decide)).trans cv16_F1)))
          have cv17_F11 : c11 17 = nI (fgS v (rpl2 v i) 0 p).2 := by rw [ec11, va_up_ne _ _ (by decide)]; exact hs106.2.1
          have cv18_F11 : c11 18 = oI (fgS v (rpl2 v i) 0 p).1 := by rw [ec11, va_up_ne _ _ (by decide)]; exact hs106.1
          have cv5_F11 : c11 5 = nI (p + 1) := by rw [ec11, va_up_self]
          have hS_F11 : Same 175 196 F F11 := by rw [eF11]; exact hS_F10.up (by decide) (by decide)
          exact r_eV B hC (⟨_, _, hM_F11, hS_F11, ((((((((((((CQ.rf (A := [5, 17, 18]) (B := [176, 177, 178, 179, 180])).uc ec1 (by decide)).u1 hk24 (by decide) (by decide)).uq eq3 (by decide)).u1 hk37 (by decide) (by decide)).uq eq5 (by decide)).uq eq6 (by decide)).u1 hk106 (by decide) (by decide)).uq eq8 (by decide)).uq eq9 (by decide)).uq eq10 (by decide)).uc ec11 (by decide)), by unfold rpl5; rw [if_neg (by rw [q_116]; decide)]; exact SR.up hs3 ec11 (by decide) (by decide), cv5_F11, by rw [← hv3, show oI (rvS v b i p) = (-9 : Int32) from (by unfold rvS; rw [if_neg (by rw [q_116]; decide)] <;> rfl), show nI (rvW v b i p) = nI 0 from (by unfold rvW; rw [if_neg (by rw [q_116]; decide)])]; exact (rd5b u27 u40 u48 u109 u130 u151)⟩) dX9_readPlace_162
        · have q_116 : b = true := bI_t.mp c_116
          refine lv_aload_n B.1 B.2.1 dX9_readPlace_119 rfl (lv_at hl 1 rfl) ?_
          refine lv_iconst (v := nI 0) B.1 B.2.1 dX9_readPlace_120 (by decide) ?_
          refine lv_iconst (v := nI 2) B.1 B.2.1 dX9_readPlace_121 (by decide) ?_
          refine r_tI (y := nI 3 - nI 1) (rfl) ?_
          refine r_calli B hC hl.1 (175) 9 rfl rfl (by decide) hM_F8.1 (As := [.int (nI 0), .int (nI 3 - nI 1)]) (ctX9_figure l g lo ad hM_F8 ok (hT.cq (((((((((CQ.rf (A := [5, 17, 18]) (B := [176, 177, 178, 179, 180])).uc ec1 (by decide)).u1 hk24 (by decide) (by decide)).uq eq3 (by decide)).u1 hk37 (by decide) (by decide)).uq eq5 (by decide)).uq eq6 (by decide)).u1 hk106 (by decide) (by decide)).uq eq8 (by decide)) (by decide) (by decide)) (z := (rpl3 v i p)) hs3 (by decide) (by decide)) gX9_readPlace_X9_figure rfl (n := 2) rfl (by decide +kernel) ⟨Nat.le_of_ble_eq_true rfl, Nat.le_of_ble_eq_true rfl⟩ ⟨Nat.zero_le _, Nat.zero_le _⟩ rfl (Nat.le_of_ble_eq_true rfl) dX9_readPlace_122 (fun r122 F9 H locs hp122 hC => ?_)
          obtain ⟨c9, hM_F9, hT_F9, hk122, hr122, hs122⟩ := hp122
          have hS_F9 : Same 175 196 F F9 := Same.tr2 hS_F8 hT_F9 (by decide) (by decide)
          refine r_tI (y := nI (fgV v (rpl3 v i p) 0 3)) (hr122) ?_
          refine lv_goto (tgt := 130) B.1 B.2.1 dX9_readPlace_125 (by decide) ?_
          refine r_cast B hC (i := 179) (by decide) hM_F9.c179 (j := p) (by omega) (by decide) dX9_readPlace_130 ?_
          intro H locs hC
          obtain ⟨F10, eF10⟩ : ∃ f : Nat → va_E, f = va_up F9 179 (.inl (g.2.2 0, 10, .inl (upd (q8 179) (p) (nI (fgV v (rpl3 v i p) 0 3))))) := ⟨_, rfl⟩
          have hC : Cu g lo 196 ad F10 ss ss.heap H locs := by rw [eF10]; exact hC
          obtain ⟨q10, eq10⟩ : ∃ f, f = va_up q8 179 (upd (q8 179) (p) (nI (fgV v (rpl3 v i p) 0 3))) := ⟨_, rfl⟩
          have hM_F10 : MC g ad F10 c9 q10 sm := by rw [eq10]; exact hM_F9.arr (by decide) (by decide) (by decide) (by decide) (by decide) eF10
          have hS_F10 : Same 175 196 F F10 := by rw [eF10]; exact hS_F9.up (by decide) (by decide)
          have u130 := u1_of eq10
          refine lv_aload_n B.1 B.2.1 dX9_readPlace_131 rfl (lv_at hl 1 rfl) ?_
          refine r_cg B hC (i := 175) (by decide) hM_F10.1 (C := RX9) (T := TX9) (n := 35) rfl iwX9_readPlace_X9 4 (by decide) (index := 22) flX9_readPlace_22 rfl (v := .ref (ad (180))) rfl dX9_readPlace_132 ?_
          refine lv_iload_n B.1 B.2.1 dX9_readPlace_135 rfl (lv_at hl 0 rfl) ?_
          refine lv_iload_n B.1 B.2.1 dX9_readPlace_136 rfl (lv_at hl 2 rfl) ?_
          refine lv_if_eq (tgt := 150) B.1 B.2.1 dX9_readPlace_137 (by decide) (fun z => absurd z (bI_t.mpr q_116)) (fun _ => ?_)
          refine lv_aload_n B.1 B.2.1 dX9_readPlace_140 rfl (lv_at hl 1 rfl) ?_
          refine lv_iconst (v := nI 0) B.1 B.2.1 dX9_readPlace_141 (by decide) ?_
          refine lv_bipush (v := nI 9) B.1 B.2.1 dX9_readPlace_142 (by decide) ?_
          refine r_tI (y := nI 10 - nI 1) (rfl) ?_
          refine r_calli B hC hl.1 (175) 9 rfl rfl (by decide) hM_F10.1 (As := [.int (nI 0), .int (nI 10 - nI 1)]) (ctX9_figure l g lo ad hM_F10 ok (hT.cq (((((((((((CQ.rf (A := [5, 17, 18]) (B := [176, 177, 178, 179, 180])).uc ec1 (by decide)).u1 hk24 (by decide) (by decide)).uq eq3 (by decide)).u1 hk37 (by decide) (by decide)).uq eq5 (by decide)).uq eq6 (by decide)).u1 hk106 (by decide) (by decide)).uq eq8 (by decide)).u1 hk122 (by decide) (by decide)).uq eq10 (by decide)) (by decide) (by decide)) (z := (fgS v (rpl3 v i p) 0 3)) hs122 (by decide) (by decide)) gX9_readPlace_X9_figure rfl (n := 2) rfl (by decide +kernel) ⟨Nat.le_of_ble_eq_true rfl, Nat.le_of_ble_eq_true rfl⟩ ⟨Nat.zero_le _, Nat.zero_le _⟩ rfl (Nat.le_of_ble_eq_true rfl) dX9_readPlace_144 (fun r144 F11 H locs hp144 hC => ?_)
          obtain ⟨c11, hM_F11, hT_F11, hk144, hr144, hs144⟩ := hp144
          have hS_F11 : Same 175 196 F F11 := Same.tr2 hS_F10 hT_F11 (by decide) (by decide)
          refine r_tI (y := nI (fgV v (fgS v (rpl3 v i p) 0 3) 0 10)) (hr144) ?_
          refine lv_goto (tgt := 151) B.1 B.2.1 dX9_readPlace_147 (by decide) ?_
          refine r_cast B hC (i := 180) (by decide) hM_F11.c180 (j := p) (by omega) (by decide) dX9_readPlace_151 ?_
          intro H locs hC
          obtain ⟨F12, eF12⟩ : ∃ f : Nat → va_E, f = va_up F11 180 (.inl (g.2.2 0, 10, .inl (upd (q10 180) (p) (nI (fgV v (fgS v (rpl3 v i p) 0 3) 0 10))))) := ⟨_, rfl⟩
          have hC : Cu g lo 196 ad F12 ss ss.heap H locs := by rw [eF12]; exact hC
          obtain ⟨q12, eq12⟩ : ∃ f, f = va_up q10 180 (upd (q10 180) (p) (nI (fgV v (fgS v (rpl3 v i p) 0 3) 0 10))) := ⟨_, rfl⟩
          have hM_F12 : MC g ad F12 c11 q12 sm := by rw [eq12]; exact hM_F11.arr (by decide) (by decide) (by decide) (by decide) (by decide) eF12
          have hS_F12 : Same 175 196 F F12 := by rw [eF12]; exact hS_F11.up (by decide) (by decide)
          have u151 := u1_of eq12
          refine lv_aload_n B.1 B.2.1 dX9_readPlace_152 rfl (lv_at hl 1 rfl) ?_
          refine lv_dup B.1 B.2.1 dX9_readPlace_153 rfl ?_
          refine r_cg B hC (i := 175) (by decide) hM_F12.1 (C := RX9) (T := TX9) (n := 35) rfl iwX9_readPlace_X9 5 (by decide) (index := 93) flX9_readPlace_93 rfl (v := .int (c11 5)) rfl dX9_readPlace_154 ?_
          refine r_tI (y := nI p) (((hk144.1 5 (by decide)).trans ((hk122.1 5 (by decide)).trans ((hk106.1 5 (by decide)).trans ((hk37.1 5 (by decide)).trans ((hk24.1 5 (by decide)).trans cv5_F1)))))) ?_
          refine lv_iconst (v := nI 1) B.1 B.2.1 dX9_readPlace_157 (by decide) ?_
          refine lv_iadd B.1 B.2.1 dX9_readPlace_158 ?_
          refine r_tI (y := nI (p + 1)) (nI_add _ _) ?_
          obtain ⟨c13, ec13⟩ : ∃ f, f = va_up c11 5 (nI (p + 1)) := ⟨_, rfl⟩
          refine r_cp B hC (i := 175) (by decide) hM_F12.1 tyX9 tyX9_ok nmX9 (C := RX9) (T := TX9) rfl iwX9_readPlace_X9 5 (by decide) (index := 93) flX9_readPlace_93 rfl rfl (v := .int (nI (p + 1))) (rfl) (rfl) (Nat.le_of_ble_eq_true rfl) dX9_readPlace_159 ?_
          intro H locs hC
          obtain ⟨F13, eF13⟩ : ∃ f, f = va_up F12 175 (mObj ad c13) := ⟨_, rfl⟩
          have hC : Cu g lo 196 ad F13 ss ss.heap H locs := by rw [eF13, ec13]; exact hC
          have hM_F13 : MC g ad F13 c13 q12 sm := hM_F12.fld eF13
          have cv16_F13 : c13 16 = nI (tn v) := by rw [ec13, va_up_ne _ _ (by decide)]; exact ((hk144.1 16 (by decide)).trans ((hk122.1 16 (by decide)).trans ((hk106.1 16 (by decide)).trans ((hk37.1 16 (by decide)).trans ((hk24.1 16 (by decide)).trans cv16_F1)))))
          have cv17_F13 : c13 17 = nI (fgS v (fgS v (rpl3 v i p) 0 3) 0 10).2 := by rw [ec13, va_up_ne _ _ (by decide)]; exact hs144.2.1
          have cv18_F13 : c13 18 = oI (fgS v (fgS v (rpl3 v i p) 0 3) 0 10).1 := by rw [ec13, va_up_ne _ _ (by decide)]; exact hs144.1
          have cv5_F13 : c13 5 = nI (p + 1) := by rw [ec13, va_up_self]
          have hS_F13 : Same 175 196 F F13 := by rw [eF13]; exact hS_F12.up (by decide) (by decide)
          exact r_eV B hC (⟨_, _, hM_F13, hS_F13, ((((((((((((((CQ.rf (A := [5, 17, 18]) (B := [176, 177, 178, 179, 180])).uc ec1 (by decide)).u1 hk24 (by decide) (by decide)).uq eq3 (by decide)).u1 hk37 (by decide) (by decide)).uq eq5 (by decide)).uq eq6 (by decide)).u1 hk106 (by decide) (by decide)).uq eq8 (by decide)).u1 hk122 (by decide) (by decide)).uq eq10 (by decide)).u1 hk144 (by decide) (by decide)).uq eq12 (by decide)).uc ec13 (by decide)), by unfold rpl5; rw [if_pos q_116]; exact SR.up hs144 ec13 (by decide) (by decide), cv5_F13, by rw [← hv3, show oI (rvS v b i p) = nI (fgV v (rpl3 v i p) 0 3) from (by unfold rvS; rw [if_pos q_116] <;> rfl), show nI (rvW v b i p) = nI (fgV v (fgS v (rpl3 v i p) 0 3) 0 10) from (by unfold rvW; rw [if_pos q_116])]; exact (rd5b u27 u40 u48 u109 u130 u151)⟩) dX9_readPlace_162
      · have q_80 : tb v (rpl2 v i).2 = 45 := (nI_eq (by have := ok.2 (rpl2 v i).2; omega) (by decide)).mp c_80
        have ed : dash v i = true := by unfold dash tat; rw [if_pos q_66, q_55, q_80]; rfl
        refine lv_aload_n B.1 B.2.1 dX9_readPlace_83 rfl (lv_at hl 1 rfl) ?_
        refine lv_dup B.1 B.2.1 dX9_readPlace_84 rfl ?_
        refine r_cg B hC (i := 175) (by decide) hM_F6.1 (C := RX9) (T := TX9) (n := 35) rfl iwX9_readPlace_X9 17 (by decide) (index := 90) flX9_readPlace_90 rfl (v := .int (c4 17)) rfl dX9_readPlace_85 ?_
        refine r_tI (y := nI (fgS v (rpl1 v i) 0 10).2) (hs37.2.1) ?_
        refine lv_iconst (v := nI 1) B.1 B.2.1 dX9_readPlace_88 (by decide) ?_
        refine lv_iadd B.1 B.2.1 dX9_readPlace_89 ?_
        refine r_tI (y := nI ((fgS v (rpl1 v i) 0 10).2 + 1)) (nI_add _ _) ?_
        obtain ⟨c7, ec7⟩ : ∃ f, f = va_up c4 17 (nI ((fgS v (rpl1 v i) 0 10).2 + 1)) := ⟨_, rfl⟩
        refine r_cp B hC (i := 175) (by decide) hM_F6.1 tyX9 tyX9_ok nmX9 (C := RX9) (T := TX9) rfl iwX9_readPlace_X9 17 (by decide) (index := 90) flX9_readPlace_90 rfl rfl (v := .int (nI ((fgS v (rpl1 v i) 0 10).2 + 1))) (rfl) (rfl) (Nat.le_of_ble_eq_true rfl) dX9_readPlace_90 ?_
        intro H locs hC
        obtain ⟨F7, eF7⟩ : ∃ f, f = va_up F6 175 (mObj ad c7) := ⟨_, rfl⟩
        have hC : Cu g lo 196 ad F7 ss ss.heap H locs := by rw [eF7, ec7]; exact hC
        have hM_F7 : MC g ad F7 c7 q6 sm := hM_F6.fld eF7
        have cv5_F7 : c7 5 = nI p := by rw [ec7, va_up_ne _ _ (by decide)]; exact ((hk37.1 5 (by decide)).trans ((hk24.1 5 (by decide)).trans cv5_F1))
        have cv16_F7 : c7 16 = nI (tn v) := by rw [ec7, va_up_ne _ _ (by decide)]; exact ((hk37.1 16 (by decide)).trans ((hk24.1 16 (by decide)).trans cv16_F1))
        have cv18_F7 : c7 18 = oI (fgS v (rpl1 v i) 0 10).1 := by rw [ec7, va_up_ne _ _ (by decide)]; exact hs37.1
        have cv17_F7 : c7 17 = nI ((fgS v (rpl1 v i) 0 10).2 + 1) := by rw [ec7, va_up_self]
        have hS_F7 : Same 175 196 F F7 := by rw [eF7]; exact hS_F6.up (by decide) (by decide)
        have hs3 : SR v (rpl3 v i p) c7 := by unfold rpl3; rw [if_pos ed]; exact ⟨cv18_F7.trans (by rw [show (fgS v (rpl1 v i) 0 10).1 = none from q_55]), cv17_F7, by show (rpl2 v i).2 + 1 ≤ tn v; omega, fun k hk => by cases hk⟩
        refine lv_goto (tgt := 110) B.1 B.2.1 dX9_readPlace_93 (by decide) ?_
        have hv3 : (-9 : Int32) = oI (rvR v i p) := by unfold rvR; rw [if_pos ed]; rfl
        refine lv_aload_n B.1 B.2.1 dX9_readPlace_110 rfl (lv_at hl 1 rfl) ?_
        refine r_cg B hC (i := 175) (by decide) hM_F7.1 (C := RX9) (T := TX9) (n := 35) rfl iwX9_readPlace_X9 3 (by decide) (index := 19) flX9_readPlace_19 rfl (v := .ref (ad (179))) rfl dX9_readPlace_111 ?_
        refine lv_iload_n B.1 B.2.1 dX9_readPlace_114 rfl (lv_at hl 0 rfl) ?_
        refine lv_iload_n B.1 B.2.1 dX9_readPlace_115 rfl (lv_at hl 2 rfl) ?_
        refine lv_if_eq (tgt := 128) B.1 B.2.1 dX9_readPlace_116 (by decide) (fun c_116 => ?_) (fun c_116 => ?_)
        · have q_116 : b = false := bI_f.mp c_116
          refine lv_bipush (v := (-9)) B.1 B.2.1 dX9_readPlace_128 (by decide) ?_
          refine r_cast B hC (i := 179) (by decide) hM_F7.c179 (j := p) (by omega) (by decide) dX9_readPlace_130 ?_
          intro H locs hC
          obtain ⟨F8, eF8⟩ : ∃ f : Nat → va_E, f = va_up F7 179 (.inl (g.2.2 0, 10, .inl (upd (q6 179) (p) ((-9))))) := ⟨_, rfl⟩
          have hC : Cu g lo 196 ad F8 ss ss.heap H locs := by rw [eF8]; exact hC
          obtain ⟨q8, eq8⟩ : ∃ f, f = va_up q6 179 (upd (q6 179) (p) ((-9))) := ⟨_, rfl⟩
          have hM_F8 : MC g ad F8 c7 q8 sm := by rw [eq8]; exact hM_F7.arr (by decide) (by decide) (by decide) (by decide) (by decide) eF8
          have hS_F8 : Same 175 196 F F8 := by rw [eF8]; exact hS_F7.up (by decide) (by decide)
          have u130 := u1_of eq8
          refine lv_aload_n B.1 B.2.1 dX9_readPlace_131 rfl (lv_at hl 1 rfl) ?_
          refine r_cg B hC (i := 175) (by decide) hM_F8.1 (C := RX9) (T := TX9) (n := 35) rfl iwX9_readPlace_X9 4 (by decide) (index := 22) flX9_readPlace_22 rfl (v := .ref (ad (180))) rfl dX9_readPlace_132 ?_
          refine lv_iload_n B.1 B.2.1 dX9_readPlace_135 rfl (lv_at hl 0 rfl) ?_
          refine lv_iload_n B.1 B.2.1 dX9_readPlace_136 rfl (lv_at hl 2 rfl) ?_
          refine lv_if_eq (tgt := 150) B.1 B.2.1 dX9_readPlace_137 (by decide) (fun _ => ?_) (fun z => absurd (bI_f.mpr q_116) z)
          refine lv_iconst (v := nI 0) B.1 B.2.1 dX9_readPlace_150 (by decide) ?_
          refine r_cast B hC (i := 180) (by decide) hM_F8.c180 (j := p) (by omega) (by decide) dX9_readPlace_151 ?_
          intro H locs hC
          obtain ⟨F9, eF9⟩ : ∃ f : Nat → va_E, f = va_up F8 180 (.inl (g.2.2 0, 10, .inl (upd (q8 180) (p) (nI 0)))) := ⟨_, rfl⟩
          have hC : Cu g lo 196 ad F9 ss ss.heap H locs := by rw [eF9]; exact hC
          obtain ⟨q9, eq9⟩ : ∃ f, f = va_up q8 180 (upd (q8 180) (p) (nI 0)) := ⟨_, rfl⟩
          have hM_F9 : MC g ad F9 c7 q9 sm := by rw [eq9]; exact hM_F8.arr (by decide) (by decide) (by decide) (by decide) (by decide) eF9
          have hS_F9 : Same 175 196 F F9 := by rw [eF9]; exact hS_F8.up (by decide) (by decide)
          have u151 := u1_of eq9
          refine lv_aload_n B.1 B.2.1 dX9_readPlace_152 rfl (lv_at hl 1 rfl) ?_
          refine lv_dup B.1 B.2.1 dX9_readPlace_153 rfl ?_
          refine r_cg B hC (i := 175) (by decide) hM_F9.1 (C := RX9) (T := TX9) (n := 35) rfl iwX9_readPlace_X9 5 (by decide) (index := 93) flX9_readPlace_93 rfl (v := .int (c7 5)) rfl dX9_readPlace_154 ?_
          refine r_tI (y := nI p) (cv5_F7) ?_
          refine lv_iconst (v := nI 1) B.1 B.2.1 dX9_readPlace_157 (by decide) ?_
          refine lv_iadd B.1 B.2.1 dX9_readPlace_158 ?_
          refine r_tI (y := nI (p + 1)) (nI_add _ _) ?_
          obtain ⟨c10, ec10⟩ : ∃ f, f = va_up c7 5 (nI (p + 1)) := ⟨_, rfl⟩
          refine r_cp B hC (i := 175) (by decide) hM_F9.1 tyX9 tyX9_ok nmX9 (C := RX9) (T := TX9) rfl iwX9_readPlace_X9 5 (by decide) (index := 93) flX9_readPlace_93 rfl rfl (v := .int (nI (p + 1))) (rfl) (rfl) (Nat.le_of_ble_eq_true rfl) dX9_readPlace_159 ?_
          intro H locs hC
          obtain ⟨F10, eF10⟩ : ∃ f, f = va_up F9 175 (mObj ad c10) := ⟨_, rfl⟩
          have hC : Cu g lo 196 ad F10 ss ss.heap H locs := by rw [eF10, ec10]; exact hC
          have hM_F10 : MC g ad F10 c10 q9 sm := hM_F9.fld eF10
          have cv16_F10 : c10 16 = nI (tn v) := by rw [ec10, va_up_ne _ _ (by decide)]; exact cv16_F7
          have cv18_F10 : c10 18 = oI (fgS v (rpl1 v i) 0 10).1 := by rw [ec10, va_up_ne _ _ (by decide)]; exact cv18_F7
          have cv17_F10 : c10 17 = nI ((fgS v (rpl1 v i) 0 10).2 + 1) := by rw [ec10, va_up_ne _ _ (by decide)]; exact cv17_F7
          have cv5_F10 : c10 5 = nI (p + 1) := by rw [ec10, va_up_self]
          have hS_F10 : Same 175 196 F F10 := by rw [eF10]; exact hS_F9.up (by decide) (by decide)
          exact r_eV B hC (⟨_, _, hM_F10, hS_F10, (((((((((((CQ.rf (A := [5, 17, 18]) (B := [176, 177, 178, 179, 180])).uc ec1 (by decide)).u1 hk24 (by decide) (by decide)).uq eq3 (by decide)).u1 hk37 (by decide) (by decide)).uq eq5 (by decide)).uq eq6 (by decide)).uc ec7 (by decide)).uq eq8 (by decide)).uq eq9 (by decide)).uc ec10 (by decide)), by unfold rpl5; rw [if_neg (by rw [q_116]; decide)]; exact SR.up hs3 ec10 (by decide) (by decide), cv5_F10, by rw [← hv3, show oI (rvS v b i p) = (-9 : Int32) from (by unfold rvS; rw [if_neg (by rw [q_116]; decide)] <;> rfl), show nI (rvW v b i p) = nI 0 from (by unfold rvW; rw [if_neg (by rw [q_116]; decide)])]; exact (rd5a u27 u40 u48 u130 u151)⟩) dX9_readPlace_162
        · have q_116 : b = true := bI_t.mp c_116
          refine lv_aload_n B.1 B.2.1 dX9_readPlace_119 rfl (lv_at hl 1 rfl) ?_
          refine lv_iconst (v := nI 0) B.1 B.2.1 dX9_readPlace_120 (by decide) ?_
          refine lv_iconst (v := nI 2) B.1 B.2.1 dX9_readPlace_121 (by decide) ?_
          refine r_tI (y := nI 3 - nI 1) (rfl) ?_
          refine r_calli B hC hl.1 (175) 9 rfl rfl (by decide) hM_F7.1 (As := [.int (nI 0), .int (nI 3 - nI 1)]) (ctX9_figure l g lo ad hM_F7 ok (hT.cq ((((((((CQ.rf (A := [5, 17, 18]) (B := [176, 177, 178, 179, 180])).uc ec1 (by decide)).u1 hk24 (by decide) (by decide)).uq eq3 (by decide)).u1 hk37 (by decide) (by decide)).uq eq5 (by decide)).uq eq6 (by decide)).uc ec7 (by decide)) (by decide) (by decide)) (z := (rpl3 v i p)) hs3 (by decide) (by decide)) gX9_readPlace_X9_figure rfl (n := 2) rfl (by decide +kernel) ⟨Nat.le_of_ble_eq_true rfl, Nat.le_of_ble_eq_true rfl⟩ ⟨Nat.zero_le _, Nat.zero_le _⟩ rfl (Nat.le_of_ble_eq_true rfl) dX9_readPlace_122 (fun r122 F8 H locs hp122 hC => ?_)
          obtain ⟨c8, hM_F8, hT_F8, hk122, hr122, hs122⟩ := hp122
          have hS_F8 : Same 175 196 F F8 := Same.tr2 hS_F7 hT_F8 (by decide) (by decide)
          refine r_tI (y := nI (fgV v (rpl3 v i p) 0 3)) (hr122) ?_
          refine lv_goto (tgt := 130) B.1 B.2.1 dX9_readPlace_125 (by decide) ?_
          refine r_cast B hC (i := 179) (by decide) hM_F8.c179 (j := p) (by omega) (by decide) dX9_readPlace_130 ?_
          intro H locs hC
          obtain ⟨F9, eF9⟩ : ∃ f : Nat → va_E, f = va_up F8 179 (.inl (g.2.2 0, 10, .inl (upd (q6 179) (p) (nI (fgV v (rpl3 v i p) 0 3))))) := ⟨_, rfl⟩
          have hC : Cu g lo 196 ad F9 ss ss.heap H locs := by rw [eF9]; exact hC
          obtain ⟨q9, eq9⟩ : ∃ f, f = va_up q6 179 (upd (q6 179) (p) (nI (fgV v (rpl3 v i p) 0 3))) := ⟨_, rfl⟩
          have hM_F9 : MC g ad F9 c8 q9 sm := by rw [eq9]; exact hM_F8.arr (by decide) (by decide) (by decide) (by decide) (by decide) eF9
          have hS_F9 : Same 175 196 F F9 := by rw [eF9]; exact hS_F8.up (by decide) (by decide)
          have u130 := u1_of eq9
          refine lv_aload_n B.1 B.2.1 dX9_readPlace_131 rfl (lv_at hl 1 rfl) ?_
          refine r_cg B hC (i := 175) (by decide) hM_F9.1 (C := RX9) (T := TX9) (n := 35) rfl iwX9_readPlace_X9 4 (by decide) (index := 22) flX9_readPlace_22 rfl (v := .ref (ad (180))) rfl dX9_readPlace_132 ?_
          refine lv_iload_n B.1 B.2.1 dX9_readPlace_135 rfl (lv_at hl 0 rfl) ?_
          refine lv_iload_n B.1 B.2.1 dX9_readPlace_136 rfl (lv_at hl 2 rfl) ?_
          refine lv_if_eq (tgt := 150) B.1 B.2.1 dX9_readPlace_137 (by decide) (fun z => absurd z (bI_t.mpr q_116)) (fun _ => ?_)
          refine lv_aload_n B.1 B.2.1 dX9_readPlace_140 rfl (lv_at hl 1 rfl) ?_
          refine lv_iconst (v := nI 0) B.1 B.2.1 dX9_readPlace_141 (by decide) ?_
          refine lv_bipush (v := nI 9) B.1 B.2.1 dX9_readPlace_142 (by decide) ?_
          refine r_tI (y := nI 10 - nI 1) (rfl) ?_
          refine r_calli B hC hl.1 (175) 9 rfl rfl (by decide) hM_F9.1 (As := [.int (nI 0), .int (nI 10 - nI 1)]) (ctX9_figure l g lo ad hM_F9 ok (hT.cq ((((((((((CQ.rf (A := [5, 17, 18]) (B := [176, 177, 178, 179, 180])).uc ec1 (by decide)).u1 hk24 (by decide) (by decide)).uq eq3 (by decide)).u1 hk37 (by decide) (by decide)).uq eq5 (by decide)).uq eq6 (by decide)).uc ec7 (by decide)).u1 hk122 (by decide) (by decide)).uq eq9 (by decide)) (by decide) (by decide)) (z := (fgS v (rpl3 v i p) 0 3)) hs122 (by decide) (by decide)) gX9_readPlace_X9_figure rfl (n := 2) rfl (by decide +kernel) ⟨Nat.le_of_ble_eq_true rfl, Nat.le_of_ble_eq_true rfl⟩ ⟨Nat.zero_le _, Nat.zero_le _⟩ rfl (Nat.le_of_ble_eq_true rfl) dX9_readPlace_144 (fun r144 F10 H locs hp144 hC => ?_)
          obtain ⟨c10, hM_F10, hT_F10, hk144, hr144, hs144⟩ := hp144
          have hS_F10 : Same 175 196 F F10 := Same.tr2 hS_F9 hT_F10 (by decide) (by decide)
          refine r_tI (y := nI (fgV v (fgS v (rpl3 v i p) 0 3) 0 10)) (hr144) ?_
          refine lv_goto (tgt := 151) B.1 B.2.1 dX9_readPlace_147 (by decide) ?_
          refine r_cast B hC (i := 180) (by decide) hM_F10.c180 (j := p) (by omega) (by decide) dX9_readPlace_151 ?_
          intro H locs hC
          obtain ⟨F11, eF11⟩ : ∃ f : Nat → va_E, f = va_up F10 180 (.inl (g.2.2 0, 10, .inl (upd (q9 180) (p) (nI (fgV v (fgS v (rpl3 v i p) 0 3) 0 10))))) := ⟨_, rfl⟩
          have hC : Cu g lo 196 ad F11 ss ss.heap H locs := by rw [eF11]; exact hC
          obtain ⟨q11, eq11⟩ : ∃ f, f = va_up q9 180 (upd (q9 180) (p) (nI (fgV v (fgS v (rpl3 v i p) 0 3) 0 10))) := ⟨_, rfl⟩
          have hM_F11 : MC g ad F11 c10 q11 sm := by rw [eq11]; exact hM_F10.arr (by decide) (by decide) (by decide) (by decide) (by decide) eF11
          have hS_F11 : Same 175 196 F F11 := by rw [eF11]; exact hS_F10.up (by decide) (by decide)
          have u151 := u1_of eq11
          refine lv_aload_n B.1 B.2.1 dX9_readPlace_152 rfl (lv_at hl 1 rfl) ?_
          refine lv_dup B.1 B.2.1 dX9_readPlace_153 rfl ?_
          refine r_cg B hC (i := 175) (by decide) hM_F11.1 (C := RX9) (T := TX9) (n := 35) rfl iwX9_readPlace_X9 5 (by decide) (index := 93) flX9_readPlace_93 rfl (v := .int (c10 5)) rfl dX9_readPlace_154 ?_
          refine r_tI (y := nI p) (((hk144.1 5 (by decide)).trans ((hk122.1 5 (by decide)).trans cv5_F7))) ?_
          refine lv_iconst (v := nI 1) B.1 B.2.1 dX9_readPlace_157 (by decide) ?_
          refine lv_iadd B.1 B.2.1 dX9_readPlace_158 ?_
          refine r_tI (y := nI (p + 1)) (nI_add _ _) ?_
          obtain ⟨c12, ec12⟩ : ∃ f, f = va_up c10 5 (nI (p + 1)) := ⟨_, rfl⟩
          refine r_cp B hC (i := 175) (by decide) hM_F11.1 tyX9 tyX9_ok nmX9 (C := RX9) (T := TX9) rfl iwX9_readPlace_X9 5 (by decide) (index := 93) flX9_readPlace_93 rfl rfl (v := .int (nI (p + 1))) (rfl) (rfl) (Nat.le_of_ble_eq_true rfl) dX9_readPlace_159 ?_
          intro H locs hC
          obtain ⟨F12, eF12⟩ : ∃ f, f = va_up F11 175 (mObj ad c12) := ⟨_, rfl⟩
          have hC : Cu g lo 196 ad F12 ss ss.heap H locs := by rw [eF12, ec12]; exact hC
          have hM_F12 : MC g ad F12 c12 q11 sm := hM_F11.fld eF12
          have cv16_F12 : c12 16 = nI (tn v) := by rw [ec12, va_up_ne _ _ (by decide)]; exact ((hk144.1 16 (by decide)).trans ((hk122.1 16 (by decide)).trans cv16_F7))
          have cv17_F12 : c12 17 = nI (fgS v (fgS v (rpl3 v i p) 0 3) 0 10).2 := by rw [ec12, va_up_ne _ _ (by decide)]; exact hs144.2.1
          have cv18_F12 : c12 18 = oI (fgS v (fgS v (rpl3 v i p) 0 3) 0 10).1 := by rw [ec12, va_up_ne _ _ (by decide)]; exact hs144.1
          have cv5_F12 : c12 5 = nI (p + 1) := by rw [ec12, va_up_self]
          have hS_F12 : Same 175 196 F F12 := by rw [eF12]; exact hS_F11.up (by decide) (by decide)
          exact r_eV B hC (⟨_, _, hM_F12, hS_F12, (((((((((((((CQ.rf (A := [5, 17, 18]) (B := [176, 177, 178, 179, 180])).uc ec1 (by decide)).u1 hk24 (by decide) (by decide)).uq eq3 (by decide)).u1 hk37 (by decide) (by decide)).uq eq5 (by decide)).uq eq6 (by decide)).uc ec7 (by decide)).u1 hk122 (by decide) (by decide)).uq eq9 (by decide)).u1 hk144 (by decide) (by decide)).uq eq11 (by decide)).uc ec12 (by decide)), by unfold rpl5; rw [if_pos q_116]; exact SR.up hs144 ec12 (by decide) (by decide), cv5_F12, by rw [← hv3, show oI (rvS v b i p) = nI (fgV v (rpl3 v i p) 0 3) from (by unfold rvS; rw [if_pos q_116] <;> rfl), show nI (rvW v b i p) = nI (fgV v (fgS v (rpl3 v i p) 0 3) 0 10) from (by unfold rvW; rw [if_pos q_116])]; exact (rd5a u27 u40 u48 u130 u151)⟩) dX9_readPlace_162
