/-! THE REFERENCE: keep, again -/
theorem kept_in {h : HV} {s : SV} {w : LV} {q qA q1 q5 q6 : Nat → Nat → Int32} {j : Nat} {c22 c23 : Int32} (hK : KeptR h s q) (hB : BankR h q 0 w) (hn10 : hn h ≤ 10) (hj : j < 2) (eA : qA = va_up q 192 (upd (q 192) j (nI 1))) (k : KR 193 (30 * j) 10 qA q1) (e5 : q5 = va_up q1 194 (upd (q1 194) j c22)) (e6 : q6 = va_up q5 195 (upd (q5 195) j c23)) (h22 : c22 = nI (wa w)) (h23 : c23 = bI (su w)) : KeptR h (va_up (slo s) j w, va_up (sfl s) j true) q6 := by
  obtain ⟨k1, k2, k3⟩ := k
  have a : ∀ i, i ≠ 192 → qA i = q i := fun i hi => by rw [eA, va_up_ne _ _ hi]
  have f5 : ∀ i, i ≠ 194 → q5 i = q1 i := fun i hi => by rw [e5, va_up_ne _ _ hi]
  have f6 : ∀ i, i ≠ 195 → q6 i = q5 i := fun i hi => by rw [e6, va_up_ne _ _ hi]
  have v192 : ∀ i, q6 192 i = if i = j then nI 1 else q 192 i := fun i => by rw [f6 192 (by decide), f5 192 (by decide), k1 192 (by decide), eA, fn_up]
  have v193 : q6 193 = q1 193 := by rw [f6 193 (by decide), f5 193 (by decide)]
  have v194 : ∀ i, q6 194 i = if i = j then c22 else q 194 i := fun i => by rw [f6 194 (by decide), e5, fn_up, k1 194 (by decide), a 194 (by decide)]
  have v195 : ∀ i, q6 195 i = if i = j then c23 else q 195 i := fun i => by rw [e6, fn_up, f5 195 (by decide), k1 195 (by decide), a 195 (by decide)]
  intro i hi
  rw [v192, v193, v194, v195]
  show (_ = bI (va_up (sfl s) j true i)) ∧ (va_up (sfl s) j true i = true → (∀ t, t < hn h → q1 193 (30 * i + t) = nI (wh (va_up (slo s) j w i) t) ∧ q1 193 (30 * i + 10 + t) = nI (ln (va_up (slo s) j w i) t) ∧ q1 193 (30 * i + 20 + t) = nI (wo (va_up (slo s) j w i) t)) ∧ _ = nI (wa (va_up (slo s) j w i)) ∧ _ = bI (su (va_up (slo s) j w i)))
  by_cases e : i = j
  · subst e
    rw [if_pos rfl, if_pos rfl, if_pos rfl, va_up_self, va_up_self]
    refine ⟨rfl, fun _ => ⟨fun t ht => ?_, h22, h23⟩⟩
    obtain ⟨z1, z2, z3⟩ := k3 t (by omega)
    obtain ⟨b1, b2, b3⟩ := hB.z ht
    rw [z1, z2, z3, a 186 (by decide), a 187 (by decide), a 188 (by decide)]
    exact ⟨b1, b2, b3⟩
  · rw [if_neg e, if_neg e, if_neg e, va_up_ne _ _ e, va_up_ne _ _ e]
    obtain ⟨y1, y2⟩ := hK i hi
    refine ⟨y1, fun z => ?_⟩
    obtain ⟨x1, x2, x3⟩ := y2 z
    refine ⟨fun t ht => ?_, x2, x3⟩
    rw [k2 _ (by omega), k2 _ (by omega), k2 _ (by omega), a 193 (by decide)]
    exact x1 t ht
theorem kept_bank {h : HV} {s : SV} {q q1 : Nat → Nat → Int32} {j : Nat} (hn10 : hn h ≤ 10) (k : CR 193 (30 * j) 10 q q1) (hr : ∀ t, t < hn h → q 193 (30 * j + t) = nI (wh (slo s j) t) ∧ q 193 (30 * j + 10 + t) = nI (ln (slo s j) t) ∧ q 193 (30 * j + 20 + t) = nI (wo (slo s j) t)) : BankR h q1 0 (slo s j) := fun t ht => by
  rw [Nat.zero_add, (k.2 t (by omega)).1, (k.2 t (by omega)).2.1, (k.2 t (by omega)).2.2]
  exact hr t ht
theorem iwX9_keep_X9 : ∀ w ∈ u_ws RX9 TX9 35, w ∈ wsX9_keep := by decide +kernel
theorem flX9_keep_40 : Cond.fieldLink RX9 40 RX9 (TX9 19).2.1 (TX9 19).2.2.1 ∈ wsX9_keep := by decide +kernel
theorem flX9_keep_43 : Cond.fieldLink RX9 43 RX9 (TX9 20).2.1 (TX9 20).2.2.1 ∈ wsX9_keep := by decide +kernel
theorem flX9_keep_46 : Cond.fieldLink RX9 46 RX9 (TX9 21).2.1 (TX9 21).2.2.1 ∈ wsX9_keep := by decide +kernel
theorem flX9_keep_59 : Cond.fieldLink RX9 59 RX9 (TX9 31).2.1 (TX9 31).2.2.1 ∈ wsX9_keep := by decide +kernel
theorem flX9_keep_63 : Cond.fieldLink RX9 63 RX9 (TX9 32).2.1 (TX9 32).2.2.1 ∈ wsX9_keep := by decide +kernel
theorem flX9_keep_66 : Cond.fieldLink RX9 66 RX9 (TX9 33).2.1 (TX9 33).2.2.1 ∈ wsX9_keep := by decide +kernel
theorem flX9_keep_69 : Cond.fieldLink RX9 69 RX9 (TX9 34).2.1 (TX9 34).2.2.1 ∈ wsX9_keep := by decide +kernel
theorem flX9_keep_120 : Cond.fieldLink RX9 120 RX9 (TX9 22).2.1 (TX9 22).2.2.1 ∈ wsX9_keep := by decide +kernel
theorem flX9_keep_123 : Cond.fieldLink RX9 123 RX9 (TX9 23).2.1 (TX9 23).2.2.1 ∈ wsX9_keep := by decide +kernel
set_option maxHeartbeats 4000000 in
set_option maxRecDepth 100000 in
theorem ctX9_keep (l : Launch) (g : Gx) (lo : Nat) (ad : Nat → Nat) {F : Nat → va_E} {c : Nat → Int32} {q : Nat → Nat → Int32} {sm : Nat → Int64} {x : XV} (hM : MC g ad F c q sm) (hX : XR x c q) (okx : XOK x) {s : Int32} : MI l g lo 196 ad yX9_keep wsX9_keep 1 25 [.ref (ad (175)), .int (s)] F (fun r F' => r = keepA x s ∧ MX g ad F' (keepN x s) ∧ Same 175 196 F F') := by
  obtain ⟨hTx, hR, ⟨hB, hwa, hsu⟩, hAx, hKx⟩ := id hX
  obtain ⟨okT, ok, hw, okA, okS, okAu, okSu⟩ := id okx
  have okn := ok.1
  have okp := ok.2.1
  have okh := ok.2.2.1
  have okt := okT.1
  have hS : Same 175 196 F F := Same.rf
  have hb : 0 ≤ 50 := by decide
  have hwa3 := hw.2.1
  obtain ⟨nx, hnx, ha24, ha25, hac⟩ := id hAx
  have oka := okA.2.1
  have okf := okA.1
  refine enter (cc := cX9_keep) (maxL := 3) (ret := some .int) (own := RX9) (by decide +kernel) rfl rfl (Nat.le_of_ble_eq_true rfl) ?_
  intro pp ee ss mm below meth cc B hini hC ls hl
  have hl : lv_has ls 3 [(0, .ref (ad (175))), (1, .int (s))] := hl
  refine lv_iload_n B.1 B.2.1 dX9_keep_0 rfl (lv_at hl 1 rfl) ?_
  refine lv_i2l (v := Int32.toInt64 (s)) B.1 B.2.1 dX9_keep_1 (rfl) ?_
  refine lv_lconst (v := lN 0) B.1 B.2.1 dX9_keep_2 (by decide) ?_
  refine lv_lconst (v := lN 1) B.1 B.2.1 dX9_keep_3 (by decide) ?_
  refine r_scalli B hC hl.1 (As := [.long (Int32.toInt64 (s)), .long (lN 0), .long (lN 1)]) (ctX9_in l g lo ad (v := Int32.toInt64 s) (a := lN 0) (b := lN 1)) gX9_keep_X9_in rfl (n := 3) rfl (by decide +kernel) ⟨Nat.le_of_ble_eq_true rfl, Nat.le_of_ble_eq_true rfl⟩ ⟨Nat.zero_le _, Nat.zero_le _⟩ rfl (Nat.le_of_ble_eq_true rfl) dX9_keep_4 (fun r4 F1 H locs hp4 hC => ?_)
  obtain ⟨er, eF⟩ := hp4
  subst er
  rw [eF] at hC
  refine lv_if_ne (tgt := 12) B.1 B.2.1 dX9_keep_7 (by decide) (fun c_7 => ?_) (fun c_7 => ?_)
  · have q_7 : isS s = true := by rw [← inB_01]; exact bI_t.mp c_7
    obtain ⟨j, hj, ej⟩ := isS_t q_7
    rw [ej] at hl
    refine lv_aload_n B.1 B.2.1 dX9_keep_12 rfl (lv_at hl 0 rfl) ?_
    refine r_cg B hC (i := 175) (by decide) hM.1 (C := RX9) (T := TX9) (n := 35) rfl iwX9_keep_X9 31 (by decide) (index := 59) flX9_keep_59 rfl (v := .ref (ad (192))) rfl dX9_keep_13 ?_
    refine lv_iload_n B.1 B.2.1 dX9_keep_16 rfl (lv_at hl 1 rfl) ?_
    refine lv_iconst (v := nI 1) B.1 B.2.1 dX9_keep_17 (by decide) ?_
    refine r_czast B hC (i := 192) (by decide) hM.c192 (j := j) (by omega) (by decide) dX9_keep_18 ?_
    intro H locs hC
    rw [show vp_nar .boolean (nI 1) = nI 1 from rfl] at hC
    obtain ⟨F1, eF1⟩ : ∃ f : Nat → va_E, f = va_up F 192 (.inl (g.2.2 3, 2, .inl (upd (q 192) (j) (nI 1)))) := ⟨_, rfl⟩
    have hC : Cu g lo 196 ad F1 ss ss.heap H locs := by rw [eF1]; exact hC
    obtain ⟨q1, eq1⟩ : ∃ f, f = va_up q 192 (upd (q 192) (j) (nI 1)) := ⟨_, rfl⟩
    have hM_F1 : MC g ad F1 c q1 sm := by rw [eq1]; exact hM.arr (by decide) (by decide) (by decide) (by decide) (by decide) eF1
    have hR_F1 : HullR (xh x) c q1 := by rw [eq1]; exact hR.upq (by decide)
    have hS_F1 : Same 175 196 F F1 := by rw [eF1]; exact hS.up (by decide) (by decide)
    refine lv_iconst (v := nI 0) B.1 B.2.1 dX9_keep_19 (by decide) ?_
    refine lv_istore_n (lv' := [(2, .int (nI 0)), (0, .ref (ad (175))), (1, .int (nI j))]) B.1 B.2.1 dX9_keep_20 rfl hl (by decide) rfl (fun ls hl => ?_)
    have loop21 : ∀ (k : Nat) (t : Nat) (qb : Nat → Nat → Int32) (G : Nat → va_E), (t + k = 10) → (MC g ad G c qb sm) → (Same 175 196 F G) → (KR 193 (30 * j) t q1 qb) → ∀ (H : Heap) (locs : List Loc) (ls : Array Slot), Cu g lo 196 ad G ss ss.heap H locs → lv_has ls 3 [(2, .int (nI t)), (0, .ref (ad (175))), (1, .int (nI j))] → W pp l ee { frames := 1, cells := 0, slots := 0, locals := 25 } ss mm ([.ref (ad (175)), .int (s)] : List Value).toArray below meth cc H locs 0 0 (MQ below (va_Qi (fun r F' => r = keepA x s ∧ MX g ad F' (keepN x s) ∧ Same 175 196 F F') (fun F' t => Wd g lo 196 ad F' t) (fun q => lo ≤ q)) ([.ref (ad (175)), .int (s)] : List Value).toArray ss 0 0 (fun q => lo ≤ q)) (F0 mm 21 ls []) := by
      intro k
      induction k with
      | zero =>
        intro t qb G htk hM1 hS1 hK H locs ls hC hl
        refine lv_iload_n B.1 B.2.1 dX9_keep_21 rfl (lv_at hl 0 rfl) ?_
        refine lv_bipush (v := nI 10) B.1 B.2.1 dX9_keep_22 (by decide) ?_
        refine lv_icmp_ge (tgt := 90) B.1 B.2.1 dX9_keep_24 (by decide) (fun _ => ?_) (fun z => absurd (nI_le (by omega) (by omega)) z)
        refine lv_aload_n B.1 B.2.1 dX9_keep_90 rfl (lv_at hl 1 rfl) ?_
        refine r_cg B hC (i := 175) (by decide) hM1.1 (C := RX9) (T := TX9) (n := 35) rfl iwX9_keep_X9 33 (by decide) (index := 66) flX9_keep_66 rfl (v := .ref (ad (194))) rfl dX9_keep_91 ?_
        refine lv_iload_n B.1 B.2.1 dX9_keep_94 rfl (lv_at hl 2 rfl) ?_
        refine lv_aload_n B.1 B.2.1 dX9_keep_95 rfl (lv_at hl 1 rfl) ?_
        refine r_cg B hC (i := 175) (by decide) hM1.1 (C := RX9) (T := TX9) (n := 35) rfl iwX9_keep_X9 22 (by decide) (index := 120) flX9_keep_120 rfl (v := .int (c 22)) rfl dX9_keep_96 ?_
        refine r_tI (y := nI (wa (xw x))) (hwa) ?_
        refine r_cast B hC (i := 194) (by decide) hM1.c194 (j := j) (by omega) (by decide) dX9_keep_99 ?_
        intro H locs hC
        obtain ⟨F31, eF31⟩ : ∃ f : Nat → va_E, f = va_up G 194 (.inl (g.2.2 0, 2, .inl (upd (qb 194) (j) (nI (wa (xw x)))))) := ⟨_, rfl⟩
        have hC : Cu g lo 196 ad F31 ss ss.heap H locs := by rw [eF31]; exact hC
        obtain ⟨q31, eq31⟩ : ∃ f, f = va_up qb 194 (upd (qb 194) (j) (nI (wa (xw x)))) := ⟨_, rfl⟩
        have hM_F31 : MC g ad F31 c q31 sm := by rw [eq31]; exact hM1.arr (by decide) (by decide) (by decide) (by decide) (by decide) eF31
        have hS_F31 : Same 175 196 F F31 := by rw [eF31]; exact hS1.up (by decide) (by decide)
        refine lv_aload_n B.1 B.2.1 dX9_keep_100 rfl (lv_at hl 1 rfl) ?_
        refine r_cg B hC (i := 175) (by decide) hM_F31.1 (C := RX9) (T := TX9) (n := 35) rfl iwX9_keep_X9 34 (by decide) (index := 69) flX9_keep_69 rfl (v := .ref (ad (195))) rfl dX9_keep_101 ?_
        refine lv_iload_n B.1 B.2.1 dX9_keep_104 rfl (lv_at hl 2 rfl) ?_
        refine lv_aload_n B.1 B.2.1 dX9_keep_105 rfl (lv_at hl 1 rfl) ?_
        refine r_cg B hC (i := 175) (by decide) hM_F31.1 (C := RX9) (T := TX9) (n := 35) rfl iwX9_keep_X9 23 (by decide) (index := 123) flX9_keep_123 rfl (v := .int (c 23)) rfl dX9_keep_106 ?_
        refine r_tI (y := bI (su (xw x))) (hsu) ?_
        refine r_czast B hC (i := 195) (by decide) hM_F31.c195 (j := j) (by omega) (by decide) dX9_keep_109 ?_
        intro H locs hC
        rw [vnar_b] at hC
        obtain ⟨F32, eF32⟩ : ∃ f : Nat → va_E, f = va_up F31 195 (.inl (g.2.2 3, 2, .inl (upd (q31 195) (j) (bI (su (xw x)))))) := ⟨_, rfl⟩
        have hC : Cu g lo 196 ad F32 ss ss.heap H locs := by rw [eF32]; exact hC
        obtain ⟨q32, eq32⟩ : ∃ f, f = va_up q31 195 (upd (q31 195) (j) (bI (su (xw x)))) := ⟨_, rfl⟩
        have hM_F32 : MC g ad F32 c q32 sm := by rw [eq32]; exact hM_F31.arr (by decide) (by decide) (by decide) (by decide) (by decide) eF32
        have hS_F32 : Same 175 196 F F32 := by rw [eF32]; exact hS_F31.up (by decide) (by decide)
        refine lv_aload_n B.1 B.2.1 dX9_keep_110 rfl (lv_at hl 1 rfl) ?_
        refine r_cg B hC (i := 175) (by decide) hM_F32.1 (C := RX9) (T := TX9) (n := 35) rfl iwX9_keep_X9 22 (by decide) (index := 120) flX9_keep_120 rfl (v := .int (c 22)) rfl dX9_keep_111 ?_
        refine r_tI (y := nI (wa (xw x))) (hwa) ?_
        exact r_eI B hC (v := nI (wa (xw x))) (⟨by rw [keepA, if_pos q_7], by rw [keepN, if_pos q_7, ej, ix_n (by omega)]; exact ⟨_, _, _, hM_F32, hTx.cq (((CQ.of (A := []) (B := [192, 193, 194, 195]) (c := c) (c' := c) (q := q) (q' := qb) (fun _ _ => rfl) (fun i hi => (hK.1 i (fun z => hi (by rw [z]; decide))).trans (by rw [eq1, va_up_ne _ _ (fun z => hi (by rw [z]; decide))]))).uq eq31 (by decide)).uq eq32 (by decide)) (by decide) (by decide), hR.cq (((CQ.of (A := []) (B := [192, 193, 194, 195]) (c := c) (c' := c) (q := q) (q' := qb) (fun _ _ => rfl) (fun i hi => (hK.1 i (fun z => hi (by rw [z]; decide))).trans (by rw [eq1, va_up_ne _ _ (fun z => hi (by rw [z]; decide))]))).uq eq31 (by decide)).uq eq32 (by decide)) (by decide) (by decide) (by decide) (by decide) (by decide) (by decide) (by decide), ⟨hB.cq (((CQ.of (A := []) (B := [192, 193, 194, 195]) (c := c) (c' := c) (q := q) (q' := qb) (fun _ _ => rfl) (fun i hi => (hK.1 i (fun z => hi (by rw [z]; decide))).trans (by rw [eq1, va_up_ne _ _ (fun z => hi (by rw [z]; decide))]))).uq eq31 (by decide)).uq eq32 (by decide)) (by decide) (by decide) (by decide), hwa, hsu⟩, hAx.cq (((CQ.of (A := []) (B := [192, 193, 194, 195]) (c := c) (c' := c) (q := q) (q' := qb) (fun _ _ => rfl) (fun i hi => (hK.1 i (fun z => hi (by rw [z]; decide))).trans (by rw [eq1, va_up_ne _ _ (fun z => hi (by rw [z]; decide))]))).uq eq31 (by decide)).uq eq32 (by decide)) (by decide) (by decide) (by decide), kept_in hKx hB okn hj eq1 (show KR 193 (30 * j) 10 q1 qb from (show t = 10 by omega) ▸ hK) eq31 eq32 rfl rfl⟩, hS_F32⟩) dX9_keep_114
      | succ k ih21 =>
        intro t qb G htk hM1 hS1 hK H locs ls hC hl
        refine lv_iload_n B.1 B.2.1 dX9_keep_21 rfl (lv_at hl 0 rfl) ?_
        refine lv_bipush (v := nI 10) B.1 B.2.1 dX9_keep_22 (by decide) ?_
        refine lv_icmp_ge (tgt := 90) B.1 B.2.1 dX9_keep_24 (by decide) (fun z => absurd z (nI_ge (by omega) (by omega))) (fun _ => ?_)
        refine lv_aload_n B.1 B.2.1 dX9_keep_27 rfl (lv_at hl 1 rfl) ?_
        refine r_cg B hC (i := 175) (by decide) hM1.1 (C := RX9) (T := TX9) (n := 35) rfl iwX9_keep_X9 32 (by decide) (index := 63) flX9_keep_63 rfl (v := .ref (ad (193))) rfl dX9_keep_28 ?_
        refine lv_bipush (v := nI 30) B.1 B.2.1 dX9_keep_31 (by decide) ?_
        refine lv_iload_n B.1 B.2.1 dX9_keep_33 rfl (lv_at hl 2 rfl) ?_
        refine lv_imul B.1 B.2.1 dX9_keep_34 ?_
        refine r_tI (y := nI (30 * j)) (pk_mul _ _) ?_
        refine lv_iload_n B.1 B.2.1 dX9_keep_35 rfl (lv_at hl 0 rfl) ?_
        refine lv_iadd B.1 B.2.1 dX9_keep_36 ?_
        refine r_tI (y := nI ((30 * j) + t)) (nI_add _ _) ?_
        refine lv_aload_n B.1 B.2.1 dX9_keep_37 rfl (lv_at hl 1 rfl) ?_
        refine r_cg B hC (i := 175) (by decide) hM1.1 (C := RX9) (T := TX9) (n := 35) rfl iwX9_keep_X9 19 (by decide) (index := 40) flX9_keep_40 rfl (v := .ref (ad (186))) rfl dX9_keep_38 ?_
        refine lv_iload_n B.1 B.2.1 dX9_keep_41 rfl (lv_at hl 0 rfl) ?_
        refine r_cald B hC (i := 186) (by decide) hM1.c186 (j := t) (by omega) (by decide) dX9_keep_42 ?_
        refine r_tI (y := qb 186 t) rfl ?_
        refine r_cast B hC (i := 193) (by decide) hM1.c193 (j := ((30 * j) + t)) (by omega) (by decide) dX9_keep_43 ?_
        intro H locs hC
        obtain ⟨F31, eF31⟩ : ∃ f : Nat → va_E, f = va_up G 193 (.inl (g.2.2 0, 60, .inl (upd (qb 193) (((30 * j) + t)) (qb 186 t)))) := ⟨_, rfl⟩
        have hC : Cu g lo 196 ad F31 ss ss.heap H locs := by rw [eF31]; exact hC
        obtain ⟨q31, eq31⟩ : ∃ f, f = va_up qb 193 (upd (qb 193) (((30 * j) + t)) (qb 186 t)) := ⟨_, rfl⟩
        have hM_F31 : MC g ad F31 c q31 sm := by rw [eq31]; exact hM1.arr (by decide) (by decide) (by decide) (by decide) (by decide) eF31
        have hS_F31 : Same 175 196 F F31 := by rw [eF31]; exact hS1.up (by decide) (by decide)
        refine lv_aload_n B.1 B.2.1 dX9_keep_44 rfl (lv_at hl 1 rfl) ?_
        refine r_cg B hC (i := 175) (by decide) hM_F31.1 (C := RX9) (T := TX9) (n := 35) rfl iwX9_keep_X9 32 (by decide) (index := 63) flX9_keep_63 rfl (v := .ref (ad (193))) rfl dX9_keep_45 ?_
        refine lv_bipush (v := nI 30) B.1 B.2.1 dX9_keep_48 (by decide) ?_
        refine lv_iload_n B.1 B.2.1 dX9_keep_50 rfl (lv_at hl 2 rfl) ?_
        refine lv_imul B.1 B.2.1 dX9_keep_51 ?_
        refine r_tI (y := nI (30 * j)) (pk_mul _ _) ?_
        refine lv_bipush (v := nI 10) B.1 B.2.1 dX9_keep_52 (by decide) ?_
        refine lv_iadd B.1 B.2.1 dX9_keep_54 ?_
        refine r_tI (y := nI ((30 * j) + 10)) (nI_add _ _) ?_
        refine lv_iload_n B.1 B.2.1 dX9_keep_55 rfl (lv_at hl 0 rfl) ?_
        refine lv_iadd B.1 B.2.1 dX9_keep_56 ?_
        refine r_tI (y := nI (((30 * j) + 10) + t)) (nI_add _ _) ?_
        refine lv_aload_n B.1 B.2.1 dX9_keep_57 rfl (lv_at hl 1 rfl) ?_
        refine r_cg B hC (i := 175) (by decide) hM_F31.1 (C := RX9) (T := TX9) (n := 35) rfl iwX9_keep_X9 20 (by decide) (index := 43) flX9_keep_43 rfl (v := .ref (ad (187))) rfl dX9_keep_58 ?_
        refine lv_iload_n B.1 B.2.1 dX9_keep_61 rfl (lv_at hl 0 rfl) ?_
        refine r_cald B hC (i := 187) (by decide) hM_F31.c187 (j := t) (by omega) (by decide) dX9_keep_62 ?_
        refine r_tI (y := q31 187 t) rfl ?_
        refine r_cast B hC (i := 193) (by decide) hM_F31.c193 (j := (((30 * j) + 10) + t)) (by omega) (by decide) dX9_keep_63 ?_
        intro H locs hC
        obtain ⟨F32, eF32⟩ : ∃ f : Nat → va_E, f = va_up F31 193 (.inl (g.2.2 0, 60, .inl (upd (q31 193) ((((30 * j) + 10) + t)) (q31 187 t)))) := ⟨_, rfl⟩
        have hC : Cu g lo 196 ad F32 ss ss.heap H locs := by rw [eF32]; exact hC
        obtain ⟨q32, eq32⟩ : ∃ f, f = va_up q31 193 (upd (q31 193) ((((30 * j) + 10) + t)) (q31 187 t)) := ⟨_, rfl⟩
        have hM_F32 : MC g ad F32 c q32 sm := by rw [eq32]; exact hM_F31.arr (by decide) (by decide) (by decide) (by decide) (by decide) eF32
        have hS_F32 : Same 175 196 F F32 := by rw [eF32]; exact hS_F31.up (by decide) (by decide)
        refine lv_aload_n B.1 B.2.1 dX9_keep_64 rfl (lv_at hl 1 rfl) ?_
        refine r_cg B hC (i := 175) (by decide) hM_F32.1 (C := RX9) (T := TX9) (n := 35) rfl iwX9_keep_X9 32 (by decide) (index := 63) flX9_keep_63 rfl (v := .ref (ad (193))) rfl dX9_keep_65 ?_
        refine lv_bipush (v := nI 30) B.1 B.2.1 dX9_keep_68 (by decide) ?_
        refine lv_iload_n B.1 B.2.1 dX9_keep_70 rfl (lv_at hl 2 rfl) ?_
        refine lv_imul B.1 B.2.1 dX9_keep_71 ?_
        refine r_tI (y := nI (30 * j)) (pk_mul _ _) ?_
        refine lv_bipush (v := nI 20) B.1 B.2.1 dX9_keep_72 (by decide) ?_
        refine lv_iadd B.1 B.2.1 dX9_keep_74 ?_
        refine r_tI (y := nI ((30 * j) + 20)) (nI_add _ _) ?_
        refine lv_iload_n B.1 B.2.1 dX9_keep_75 rfl (lv_at hl 0 rfl) ?_
        refine lv_iadd B.1 B.2.1 dX9_keep_76 ?_
        refine r_tI (y := nI (((30 * j) + 20) + t)) (nI_add _ _) ?_
        refine lv_aload_n B.1 B.2.1 dX9_keep_77 rfl (lv_at hl 1 rfl) ?_
        refine r_cg B hC (i := 175) (by decide) hM_F32.1 (C := RX9) (T := TX9) (n := 35) rfl iwX9_keep_X9 21 (by decide) (index := 46) flX9_keep_46 rfl (v := .ref (ad (188))) rfl dX9_keep_78 ?_
        refine lv_iload_n B.1 B.2.1 dX9_keep_81 rfl (lv_at hl 0 rfl) ?_
        refine r_cald B hC (i := 188) (by decide) hM_F32.c188 (j := t) (by omega) (by decide) dX9_keep_82 ?_
        refine r_tI (y := q32 188 t) rfl ?_
        refine r_cast B hC (i := 193) (by decide) hM_F32.c193 (j := (((30 * j) + 20) + t)) (by omega) (by decide) dX9_keep_83 ?_
        intro H locs hC
        obtain ⟨F33, eF33⟩ : ∃ f : Nat → va_E, f = va_up F32 193 (.inl (g.2.2 0, 60, .inl (upd (q32 193) ((((30 * j) + 20) + t)) (q32 188 t)))) := ⟨_, rfl⟩
        have hC : Cu g lo 196 ad F33 ss ss.heap H locs := by rw [eF33]; exact hC
        obtain ⟨q33, eq33⟩ : ∃ f, f = va_up q32 193 (upd (q32 193) ((((30 * j) + 20) + t)) (q32 188 t)) := ⟨_, rfl⟩
        have hM_F33 : MC g ad F33 c q33 sm := by rw [eq33]; exact hM_F32.arr (by decide) (by decide) (by decide) (by decide) (by decide) eF33
        have hS_F33 : Same 175 196 F F33 := by rw [eF33]; exact hS_F32.up (by decide) (by decide)
        refine lv_iinc (v := nI (t + 1)) (lv' := [(2, .int (nI (t + 1))), (0, .ref (ad (175))), (1, .int (nI j))]) B.1 B.2.1 dX9_keep_84 hl (k := 0) rfl (nI_1 _) (by decide) rfl (fun ls hl => ?_)
        refine lv_goto (tgt := 21) B.1 B.2.1 dX9_keep_87 (by decide) ?_
        exact ih21 (t + 1) q33 F33 (by omega) hM_F33 hS_F33 (kr_step hK (by omega) (by decide) eq31 eq32 eq33) _ _ ls hC (lv_sub hl [0, 1, 2] rfl)
    exact loop21 10 0 q1 F1 (by omega) hM_F1 hS_F1 KR.z _ _ ls hC (lv_sub hl [0, 1, 2] rfl)
  · have q_7 : ¬ isS s = true := by rw [← inB_01, bI_f.mp c_7]; decide
    refine lv_iconst (v := (-1)) B.1 B.2.1 dX9_keep_10 (by decide) ?_
    exact r_eI B hC (v := (-1)) (⟨by rw [keepA, if_neg q_7], by rw [keepN, if_neg q_7]; exact ⟨_, _, _, hM, hX⟩, hS⟩) dX9_keep_11
theorem iwX9_again_X9 : ∀ w ∈ u_ws RX9 TX9 35, w ∈ wsX9_again := by decide +kernel
theorem flX9_again_40 : Cond.fieldLink RX9 40 RX9 (TX9 19).2.1 (TX9 19).2.2.1 ∈ wsX9_again := by decide +kernel
theorem flX9_again_43 : Cond.fieldLink RX9 43 RX9 (TX9 20).2.1 (TX9 20).2.2.1 ∈ wsX9_again := by decide +kernel
theorem flX9_again_46 : Cond.fieldLink RX9 46 RX9 (TX9 21).2.1 (TX9 21).2.2.1 ∈ wsX9_again := by decide +kernel
theorem flX9_again_59 : Cond.fieldLink RX9 59 RX9 (TX9 31).2.1 (TX9 31).2.2.1 ∈ wsX9_again := by decide +kernel
theorem flX9_again_63 : Cond.fieldLink RX9 63 RX9 (TX9 32).2.1 (TX9 32).2.2.1 ∈ wsX9_again := by decide +kernel
theorem flX9_again_66 : Cond.fieldLink RX9 66 RX9 (TX9 33).2.1 (TX9 33).2.2.1 ∈ wsX9_again := by decide +kernel
theorem flX9_again_69 : Cond.fieldLink RX9 69 RX9 (TX9 34).2.1 (TX9 34).2.2.1 ∈ wsX9_again := by decide +kernel
theorem flX9_again_120 : Cond.fieldLink RX9 120 RX9 (TX9 22).2.1 (TX9 22).2.2.1 ∈ wsX9_again := by decide +kernel
theorem flX9_again_123 : Cond.fieldLink RX9 123 RX9 (TX9 23).2.1 (TX9 23).2.2.1 ∈ wsX9_again := by decide +kernel
theorem flX9_again_127 : Cond.fieldLink RX9 127 RX9 (TX9 24).2.1 (TX9 24).2.2.1 ∈ wsX9_again := by decide +kernel
set_option maxHeartbeats 4000000 in
set_option maxRecDepth 100000 in
theorem ctX9_again (l : Launch) (g : Gx) (lo : Nat) (ad : Nat → Nat) {F : Nat → va_E} {c : Nat → Int32} {q : Nat → Nat → Int32} {sm : Nat → Int64} {x : XV} (hM : MC g ad F c q sm) (hX : XR x c q) (okx : XOK x) {s : Int32} : MI l g lo 196 ad yX9_again wsX9_again 1 25 [.ref (ad (175)), .int (s)] F (fun r F' => r = againA x s ∧ MX g ad F' (againN x s) ∧ Same 175 196 F F') := by
  obtain ⟨hTx, hR, ⟨hB, hwa, hsu⟩, hAx, hKx⟩ := id hX
  obtain ⟨okT, ok, hw, okA, okS, okAu, okSu⟩ := id okx
  have okn := ok.1
  have okp := ok.2.1
  have okh := ok.2.2.1
  have okt := okT.1
  have hS : Same 175 196 F F := Same.rf
  have hb : 0 ≤ 50 := by decide
  have hwa3 := hw.2.1
  obtain ⟨nx, hnx, ha24, ha25, hac⟩ := id hAx
  have oka := okA.2.1
  have okf := okA.1
  refine enter (cc := cX9_again) (maxL := 3) (ret := some .int) (own := RX9) (by decide +kernel) rfl rfl (Nat.le_of_ble_eq_true rfl) ?_
  intro pp ee ss mm below meth cc B hini hC ls hl
  have hl : lv_has ls 3 [(0, .ref (ad (175))), (1, .int (s))] := hl
  refine lv_iload_n B.1 B.2.1 dX9_again_0 rfl (lv_at hl 1 rfl) ?_
  refine lv_i2l (v := Int32.toInt64 (s)) B.1 B.2.1 dX9_again_1 (rfl) ?_
  refine lv_lconst (v := lN 0) B.1 B.2.1 dX9_again_2 (by decide) ?_
  refine lv_lconst (v := lN 1) B.1 B.2.1 dX9_again_3 (by decide) ?_
  refine r_scalli B hC hl.1 (As := [.long (Int32.toInt64 (s)), .long (lN 0), .long (lN 1)]) (ctX9_in l g lo ad (v := Int32.toInt64 s) (a := lN 0) (b := lN 1)) gX9_again_X9_in rfl (n := 3) rfl (by decide +kernel) ⟨Nat.le_of_ble_eq_true rfl, Nat.le_of_ble_eq_true rfl⟩ ⟨Nat.zero_le _, Nat.zero_le _⟩ rfl (Nat.le_of_ble_eq_true rfl) dX9_again_4 (fun r4 F1 H locs hp4 hC => ?_)
  obtain ⟨er, eF⟩ := hp4
  subst er
  rw [eF] at hC
  refine lv_if_ne (tgt := 12) B.1 B.2.1 dX9_again_7 (by decide) (fun c_7 => ?_) (fun c_7 => ?_)
  · have q_7 : isS s = true := by rw [← inB_01]; exact bI_t.mp c_7
    obtain ⟨j, hj, ej⟩ := isS_t q_7
    rw [ej] at hl
    refine lv_aload_n B.1 B.2.1 dX9_again_12 rfl (lv_at hl 0 rfl) ?_
    refine r_cg B hC (i := 175) (by decide) hM.1 (C := RX9) (T := TX9) (n := 35) rfl iwX9_again_X9 31 (by decide) (index := 59) flX9_again_59 rfl (v := .ref (ad (192))) rfl dX9_again_13 ?_
    refine lv_iload_n B.1 B.2.1 dX9_again_16 rfl (lv_at hl 1 rfl) ?_
    refine r_czald B hC (i := 192) (by decide) hM.c192 (j := j) (by omega) (by decide) dX9_again_17 ?_
    refine r_tI (y := q 192 j) rfl ?_
    refine r_tI (y := bI (sfl (xs x) j)) ((hKx j hj).1) ?_
    refine lv_if_ne (tgt := 24) B.1 B.2.1 dX9_again_18 (by decide) (fun c_18 => ?_) (fun c_18 => ?_)
    · have q_18 : (sfl (xs x) j) = true := bI_t.mp c_18
      refine lv_iconst (v := nI 0) B.1 B.2.1 dX9_again_24 (by decide) ?_
      refine lv_istore_n (lv' := [(2, .int (nI 0)), (0, .ref (ad (175))), (1, .int (nI j))]) B.1 B.2.1 dX9_again_25 rfl hl (by decide) rfl (fun ls hl => ?_)
      have loop26 : ∀ (k : Nat) (t : Nat) (q1 : Nat → Nat → Int32) (G : Nat → va_E), (t + k = 10) → (MC g ad G c q1 sm) → (Same 175 196 F G) → (CR 193 (30 * j) t q q1) → ∀ (H : Heap) (locs : List Loc) (ls : Array Slot), Cu g lo 196 ad G ss ss.heap H locs → lv_has ls 3 [(2, .int (nI t)), (0, .ref (ad (175))), (1, .int (nI j))] → W pp l ee { frames := 1, cells := 0, slots := 0, locals := 25 } ss mm ([.ref (ad (175)), .int (s)] : List Value).toArray below meth cc H locs 0 0 (MQ below (va_Qi (fun r F' => r = againA x s ∧ MX g ad F' (againN x s) ∧ Same 175 196 F F') (fun F' t => Wd g lo 196 ad F' t) (fun q => lo ≤ q)) ([.ref (ad (175)), .int (s)] : List Value).toArray ss 0 0 (fun q => lo ≤ q)) (F0 mm 26 ls []) := by
        intro k
        induction k with
        | zero =>
          intro t q1 G htk hM1 hS1 hC1 H locs ls hC hl
          refine lv_iload_n B.1 B.2.1 dX9_again_26 rfl (lv_at hl 0 rfl) ?_
          refine lv_bipush (v := nI 10) B.1 B.2.1 dX9_again_27 (by decide) ?_
          refine lv_icmp_ge (tgt := 95) B.1 B.2.1 dX9_again_29 (by decide) (fun _ => ?_) (fun z => absurd (nI_le (by omega) (by omega)) z)
          have et : t = 10 := by omega
          have hkj := (hKx j hj).2 q_18
          refine lv_aload_n B.1 B.2.1 dX9_again_95 rfl (lv_at hl 1 rfl) ?_
          refine lv_aload_n B.1 B.2.1 dX9_again_96 rfl (lv_at hl 1 rfl) ?_
          refine r_cg B hC (i := 175) (by decide) hM1.1 (C := RX9) (T := TX9) (n := 35) rfl iwX9_again_X9 33 (by decide) (index := 66) flX9_again_66 rfl (v := .ref (ad (194))) rfl dX9_again_97 ?_
          refine lv_iload_n B.1 B.2.1 dX9_again_100 rfl (lv_at hl 2 rfl) ?_
          refine r_cald B hC (i := 194) (by decide) hM1.c194 (j := j) (by omega) (by decide) dX9_again_101 ?_
          refine r_tI (y := q1 194 j) rfl ?_
          refine r_tI (y := nI (wa (slo (xs x) j))) (by rw [hC1.1 194 (by decide)]; exact hkj.2.1) ?_
          obtain ⟨c31, ec31⟩ : ∃ f, f = va_up c 22 (nI (wa (slo (xs x) j))) := ⟨_, rfl⟩
          refine r_cp B hC (i := 175) (by decide) hM1.1 tyX9 tyX9_ok nmX9 (C := RX9) (T := TX9) rfl iwX9_again_X9 22 (by decide) (index := 120) flX9_again_120 rfl rfl (v := .int (nI (wa (slo (xs x) j)))) (rfl) (rfl) (Nat.le_of_ble_eq_true rfl) dX9_again_102 ?_
          intro H locs hC
          obtain ⟨F31, eF31⟩ : ∃ f, f = va_up G 175 (mObj ad c31) := ⟨_, rfl⟩
          have hC : Cu g lo 196 ad F31 ss ss.heap H locs := by rw [eF31, ec31]; exact hC
          have hM_F31 : MC g ad F31 c31 q1 sm := hM1.fld eF31
          have cv12_F31 : c31 12 = nI (hn (xh x)) := by rw [ec31, va_up_ne _ _ (by decide)]; exact hR.1
          have cv13_F31 : c31 13 = nI (hpu (xh x)) := by rw [ec31, va_up_ne _ _ (by decide)]; exact hR.2.1
          have cv14_F31 : c31 14 = nI (hho (xh x)) := by rw [ec31, va_up_ne _ _ (by decide)]; exact hR.2.2.1
          have cv16_F31 : c31 16 = nI (tn (xt x)) := by rw [ec31, va_up_ne _ _ (by decide)]; exact hTx.1
          have cv23_F31 : c31 23 = bI (su (xw x)) := by rw [ec31, va_up_ne _ _ (by decide)]; exact hsu
          have cv24_F31 : c31 24 = nI (asz (xa x)) := by rw [ec31, va_up_ne _ _ (by decide)]; exact ha24
          have cv25_F31 : c31 25 = nI nx := by rw [ec31, va_up_ne _ _ (by decide)]; exact ha25
          have cv22_F31 : c31 22 = nI (wa (slo (xs x) j)) := by rw [ec31, va_up_self]
          have hS_F31 : Same 175 196 F F31 := by rw [eF31]; exact hS1.up (by decide) (by decide)
          refine lv_aload_n B.1 B.2.1 dX9_again_105 rfl (lv_at hl 1 rfl) ?_
          refine lv_aload_n B.1 B.2.1 dX9_again_106 rfl (lv_at hl 1 rfl) ?_
          refine r_cg B hC (i := 175) (by decide) hM_F31.1 (C := RX9) (T := TX9) (n := 35) rfl iwX9_again_X9 34 (by decide) (index := 69) flX9_again_69 rfl (v := .ref (ad (195))) rfl dX9_again_107 ?_
          refine lv_iload_n B.1 B.2.1 dX9_again_110 rfl (lv_at hl 2 rfl) ?_
          refine r_czald B hC (i := 195) (by decide) hM_F31.c195 (j := j) (by omega) (by decide) dX9_again_111 ?_
          refine r_tI (y := q1 195 j) rfl ?_
          refine r_tI (y := bI (su (slo (xs x) j))) (by rw [hC1.1 195 (by decide)]; exact hkj.2.2) ?_
          obtain ⟨c32, ec32⟩ : ∃ f, f = va_up c31 23 (bI (su (slo (xs x) j))) := ⟨_, rfl⟩
          refine r_cp B hC (i := 175) (by decide) hM_F31.1 tyX9 tyX9_ok nmX9 (C := RX9) (T := TX9) rfl iwX9_again_X9 23 (by decide) (index := 123) flX9_again_123 rfl rfl (v := .int (bI (su (slo (xs x) j)))) (nar_b _) (fit_b _) (Nat.le_of_ble_eq_true rfl) dX9_again_112 ?_
          intro H locs hC
          obtain ⟨F32, eF32⟩ : ∃ f, f = va_up F31 175 (mObj ad c32) := ⟨_, rfl⟩
          have hC : Cu g lo 196 ad F32 ss ss.heap H locs := by rw [eF32, ec32]; exact hC
          have hM_F32 : MC g ad F32 c32 q1 sm := hM_F31.fld eF32
          have cv12_F32 : c32 12 = nI (hn (xh x)) := by rw [ec32, va_up_ne _ _ (by decide)]; exact cv12_F31
          have cv13_F32 : c32 13 = nI (hpu (xh x)) := by rw [ec32, va_up_ne _ _ (by decide)]; exact cv13_F31
          have cv14_F32 : c32 14 = nI (hho (xh x)) := by rw [ec32, va_up_ne _ _ (by decide)]; exact cv14_F31
          have cv16_F32 : c32 16 = nI (tn (xt x)) := by rw [ec32, va_up_ne _ _ (by decide)]; exact cv16_F31
          have cv24_F32 : c32 24 = nI (asz (xa x)) := by rw [ec32, va_up_ne _ _ (by decide)]; exact cv24_F31
          have cv25_F32 : c32 25 = nI nx := by rw [ec32, va_up_ne _ _ (by decide)]; exact cv25_F31
          have cv22_F32 : c32 22 = nI (wa (slo (xs x) j)) := by rw [ec32, va_up_ne _ _ (by decide)]; exact cv22_F31
          have cv23_F32 : c32 23 = bI (su (slo (xs x) j)) := by rw [ec32, va_up_self]
          have hS_F32 : Same 175 196 F F32 := by rw [eF32]; exact hS_F31.up (by decide) (by decide)
          refine lv_aload_n B.1 B.2.1 dX9_again_115 rfl (lv_at hl 1 rfl) ?_
          refine lv_iconst (v := nI 0) B.1 B.2.1 dX9_again_116 (by decide) ?_
          obtain ⟨c33, ec33⟩ : ∃ f, f = va_up c32 24 (nI 0) := ⟨_, rfl⟩
          refine r_cp B hC (i := 175) (by decide) hM_F32.1 tyX9 tyX9_ok nmX9 (C := RX9) (T := TX9) rfl iwX9_again_X9 24 (by decide) (index := 127) flX9_again_127 rfl rfl (v := .int (nI 0)) (rfl) (rfl) (Nat.le_of_ble_eq_true rfl) dX9_again_117 ?_
          intro H locs hC
          obtain ⟨F33, eF33⟩ : ∃ f, f = va_up F32 175 (mObj ad c33) := ⟨_, rfl⟩
          have hC : Cu g lo 196 ad F33 ss ss.heap H locs := by rw [eF33, ec33]; exact hC
          have hM_F33 : MC g ad F33 c33 q1 sm := hM_F32.fld eF33
          have cv12_F33 : c33 12 = nI (hn (xh x)) := by rw [ec33, va_up_ne _ _ (by decide)]; exact cv12_F32
          have cv13_F33 : c33 13 = nI (hpu (xh x)) := by rw [ec33, va_up_ne _ _ (by decide)]; exact cv13_F32
          have cv14_F33 : c33 14 = nI (hho (xh x)) := by rw [ec33, va_up_ne _ _ (by decide)]; exact cv14_F32
          have cv16_F33 : c33 16 = nI (tn (xt x)) := by rw [ec33, va_up_ne _ _ (by decide)]; exact cv16_F32
          have cv25_F33 : c33 25 = nI nx := by rw [ec33, va_up_ne _ _ (by decide)]; exact cv25_F32
          have cv22_F33 : c33 22 = nI (wa (slo (xs x) j)) := by rw [ec33, va_up_ne _ _ (by decide)]; exact cv22_F32
          have cv23_F33 : c33 23 = bI (su (slo (xs x) j)) := by rw [ec33, va_up_ne _ _ (by decide)]; exact cv23_F32
          have cv24_F33 : c33 24 = nI 0 := by rw [ec33, va_up_self]
          have hS_F33 : Same 175 196 F F33 := by rw [eF33]; exact hS_F32.up (by decide) (by decide)
          refine lv_aload_n B.1 B.2.1 dX9_again_120 rfl (lv_at hl 1 rfl) ?_
          refine r_cg B hC (i := 175) (by decide) hM_F33.1 (C := RX9) (T := TX9) (n := 35) rfl iwX9_again_X9 22 (by decide) (index := 120) flX9_again_120 rfl (v := .int (c33 22)) rfl dX9_again_121 ?_
          refine r_tI (y := nI (wa (slo (xs x) j))) (cv22_F33) ?_
          exact r_eI B hC (v := nI (wa (slo (xs x) j))) (⟨by rw [againA, if_pos q_7, ej, ix_n (by omega), if_pos q_18], by rw [againN, if_pos ⟨q_7, by rw [ej, ix_n (by omega)]; exact q_18⟩, ej, ix_n (by omega)]; exact ⟨_, _, _, hM_F33, hTx.cq ((((CQ.of (A := [22, 23, 24]) (B := [186, 187, 188]) (c := c) (c' := c) (q := q) (q' := q1) (fun _ _ => rfl) (fun i hi => hC1.1 i (out_3 hi))).uc ec31 (by decide)).uc ec32 (by decide)).uc ec33 (by decide)) (by decide) (by decide), hR.cq ((((CQ.of (A := [22, 23, 24]) (B := [186, 187, 188]) (c := c) (c' := c) (q := q) (q' := q1) (fun _ _ => rfl) (fun i hi => hC1.1 i (out_3 hi))).uc ec31 (by decide)).uc ec32 (by decide)).uc ec33 (by decide)) (by decide) (by decide) (by decide) (by decide) (by decide) (by decide) (by decide), ⟨kept_bank okn (et ▸ hC1) hkj.1, cv22_F33, cv23_F33⟩, ⟨nx, hnx, cv24_F33, cv25_F33, fun k hk => absurd hk (Nat.not_lt_zero k)⟩, hKx.cq ((((CQ.of (A := [22, 23, 24]) (B := [186, 187, 188]) (c := c) (c' := c) (q := q) (q' := q1) (fun _ _ => rfl) (fun i hi => hC1.1 i (out_3 hi))).uc ec31 (by decide)).uc ec32 (by decide)).uc ec33 (by decide)) (by decide) (by decide) (by decide) (by decide)⟩, hS_F33⟩) dX9_again_124
        | succ k ih26 =>
          intro t q1 G htk hM1 hS1 hC1 H locs ls hC hl
          refine lv_iload_n B.1 B.2.1 dX9_again_26 rfl (lv_at hl 0 rfl) ?_
          refine lv_bipush (v := nI 10) B.1 B.2.1 dX9_again_27 (by decide) ?_
          refine lv_icmp_ge (tgt := 95) B.1 B.2.1 dX9_again_29 (by decide) (fun z => absurd z (nI_ge (by omega) (by omega))) (fun _ => ?_)
          refine lv_aload_n B.1 B.2.1 dX9_again_32 rfl (lv_at hl 1 rfl) ?_
          refine r_cg B hC (i := 175) (by decide) hM1.1 (C := RX9) (T := TX9) (n := 35) rfl iwX9_again_X9 19 (by decide) (index := 40) flX9_again_40 rfl (v := .ref (ad (186))) rfl dX9_again_33 ?_
          refine lv_iload_n B.1 B.2.1 dX9_again_36 rfl (lv_at hl 0 rfl) ?_
          refine lv_aload_n B.1 B.2.1 dX9_again_37 rfl (lv_at hl 1 rfl) ?_
          refine r_cg B hC (i := 175) (by decide) hM1.1 (C := RX9) (T := TX9) (n := 35) rfl iwX9_again_X9 32 (by decide) (index := 63) flX9_again_63 rfl (v := .ref (ad (193))) rfl dX9_again_38 ?_
          refine lv_bipush (v := nI 30) B.1 B.2.1 dX9_again_41 (by decide) ?_
          refine lv_iload_n B.1 B.2.1 dX9_again_43 rfl (lv_at hl 2 rfl) ?_
          refine lv_imul B.1 B.2.1 dX9_again_44 ?_
          refine r_tI (y := nI (30 * j)) (pk_mul _ _) ?_
          refine lv_iload_n B.1 B.2.1 dX9_again_45 rfl (lv_at hl 0 rfl) ?_
          refine lv_iadd B.1 B.2.1 dX9_again_46 ?_
          refine r_tI (y := nI ((30 * j) + t)) (nI_add _ _) ?_
          refine r_cald B hC (i := 193) (by decide) hM1.c193 (j := ((30 * j) + t)) (by omega) (by decide) dX9_again_47 ?_
          refine r_tI (y := q1 193 ((30 * j) + t)) rfl ?_
          refine r_cast B hC (i := 186) (by decide) hM1.c186 (j := t) (by omega) (by decide) dX9_again_48 ?_
          intro H locs hC
          obtain ⟨F31, eF31⟩ : ∃ f : Nat → va_E, f = va_up G 186 (.inl (g.2.2 0, 60, .inl (upd (q1 186) (t) (q1 193 ((30 * j) + t))))) := ⟨_, rfl⟩
          have hC : Cu g lo 196 ad F31 ss ss.heap H locs := by rw [eF31]; exact hC
          obtain ⟨q31, eq31⟩ : ∃ f, f = va_up q1 186 (upd (q1 186) (t) (q1 193 ((30 * j) + t))) := ⟨_, rfl⟩
          have hM_F31 : MC g ad F31 c q31 sm := by rw [eq31]; exact hM1.arr (by decide) (by decide) (by decide) (by decide) (by decide) eF31
          have hS_F31 : Same 175 196 F F31 := by rw [eF31]; exact hS1.up (by decide) (by decide)
          refine lv_aload_n B.1 B.2.1 dX9_again_49 rfl (lv_at hl 1 rfl) ?_
          refine r_cg B hC (i := 175) (by decide) hM_F31.1 (C := RX9) (T := TX9) (n := 35) rfl iwX9_again_X9 20 (by decide) (index := 43) flX9_again_43 rfl (v := .ref (ad (187))) rfl dX9_again_50 ?_
          refine lv_iload_n B.1 B.2.1 dX9_again_53 rfl (lv_at hl 0 rfl) ?_
          refine lv_aload_n B.1 B.2.1 dX9_again_54 rfl (lv_at hl 1 rfl) ?_
          refine r_cg B hC (i := 175) (by decide) hM_F31.1 (C := RX9) (T := TX9) (n := 35) rfl iwX9_again_X9 32 (by decide) (index := 63) flX9_again_63 rfl (v := .ref (ad (193))) rfl dX9_again_55 ?_
          refine lv_bipush (v := nI 30) B.1 B.2.1 dX9_again_58 (by decide) ?_
          refine lv_iload_n B.1 B.2.1 dX9_again_60 rfl (lv_at hl 2 rfl) ?_
          refine lv_imul B.1 B.2.1 dX9_again_61 ?_
          refine r_tI (y := nI (30 * j)) (pk_mul _ _) ?_
          refine lv_bipush (v := nI 10) B.1 B.2.1 dX9_again_62 (by decide) ?_
          refine lv_iadd B.1 B.2.1 dX9_again_64 ?_
          refine r_tI (y := nI ((30 * j) + 10)) (nI_add _ _) ?_
          refine lv_iload_n B.1 B.2.1 dX9_again_65 rfl (lv_at hl 0 rfl) ?_
          refine lv_iadd B.1 B.2.1 dX9_again_66 ?_
          refine r_tI (y := nI (((30 * j) + 10) + t)) (nI_add _ _) ?_
          refine r_cald B hC (i := 193) (by decide) hM_F31.c193 (j := (((30 * j) + 10) + t)) (by omega) (by decide) dX9_again_67 ?_
          refine r_tI (y := q31 193 (((30 * j) + 10) + t)) rfl ?_
          refine r_cast B hC (i := 187) (by decide) hM_F31.c187 (j := t) (by omega) (by decide) dX9_again_68 ?_
          intro H locs hC
          obtain ⟨F32, eF32⟩ : ∃ f : Nat → va_E, f = va_up F31 187 (.inl (g.2.2 0, 60, .inl (upd (q31 187) (t) (q31 193 (((30 * j) + 10) + t))))) := ⟨_, rfl⟩
          have hC : Cu g lo 196 ad F32 ss ss.heap H locs := by rw [eF32]; exact hC
          obtain ⟨q32, eq32⟩ : ∃ f, f = va_up q31 187 (upd (q31 187) (t) (q31 193 (((30 * j) + 10) + t))) := ⟨_, rfl⟩
          have hM_F32 : MC g ad F32 c q32 sm := by rw [eq32]; exact hM_F31.arr (by decide) (by decide) (by decide) (by decide) (by decide) eF32
          have hS_F32 : Same 175 196 F F32 := by rw [eF32]; exact hS_F31.up (by decide) (by decide)
          refine lv_aload_n B.1 B.2.1 dX9_again_69 rfl (lv_at hl 1 rfl) ?_
          refine r_cg B hC (i := 175) (by decide) hM_F32.1 (C := RX9) (T := TX9) (n := 35) rfl iwX9_again_X9 21 (by decide) (index := 46) flX9_again_46 rfl (v := .ref (ad (188))) rfl dX9_again_70 ?_
          refine lv_iload_n B.1 B.2.1 dX9_again_73 rfl (lv_at hl 0 rfl) ?_
          refine lv_aload_n B.1 B.2.1 dX9_again_74 rfl (lv_at hl 1 rfl) ?_
          refine r_cg B hC (i := 175) (by decide) hM_F32.1 (C := RX9) (T := TX9) (n := 35) rfl iwX9_again_X9 32 (by decide) (index := 63) flX9_again_63 rfl (v := .ref (ad (193))) rfl dX9_again_75 ?_
          refine lv_bipush (v := nI 30) B.1 B.2.1 dX9_again_78 (by decide) ?_
          refine lv_iload_n B.1 B.2.1 dX9_again_80 rfl (lv_at hl 2 rfl) ?_
          refine lv_imul B.1 B.2.1 dX9_again_81 ?_
          refine r_tI (y := nI (30 * j)) (pk_mul _ _) ?_
          refine lv_bipush (v := nI 20) B.1 B.2.1 dX9_again_82 (by decide) ?_
          refine lv_iadd B.1 B.2.1 dX9_again_84 ?_
          refine r_tI (y := nI ((30 * j) + 20)) (nI_add _ _) ?_
          refine lv_iload_n B.1 B.2.1 dX9_again_85 rfl (lv_at hl 0 rfl) ?_
          refine lv_iadd B.1 B.2.1 dX9_again_86 ?_
          refine r_tI (y := nI (((30 * j) + 20) + t)) (nI_add _ _) ?_
          refine r_cald B hC (i := 193) (by decide) hM_F32.c193 (j := (((30 * j) + 20) + t)) (by omega) (by decide) dX9_again_87 ?_
          refine r_tI (y := q32 193 (((30 * j) + 20) + t)) rfl ?_
          refine r_cast B hC (i := 188) (by decide) hM_F32.c188 (j := t) (by omega) (by decide) dX9_again_88 ?_
          intro H locs hC
          obtain ⟨F33, eF33⟩ : ∃ f : Nat → va_E, f = va_up F32 188 (.inl (g.2.2 0, 60, .inl (upd (q32 188) (t) (q32 193 (((30 * j) + 20) + t))))) := ⟨_, rfl⟩
          have hC : Cu g lo 196 ad F33 ss ss.heap H locs := by rw [eF33]; exact hC
          obtain ⟨q33, eq33⟩ : ∃ f, f = va_up q32 188 (upd (q32 188) (t) (q32 193 (((30 * j) + 20) + t))) := ⟨_, rfl⟩
          have hM_F33 : MC g ad F33 c q33 sm := by rw [eq33]; exact hM_F32.arr (by decide) (by decide) (by decide) (by decide) (by decide) eF33
          have hS_F33 : Same 175 196 F F33 := by rw [eF33]; exact hS_F32.up (by decide) (by decide)
          refine lv_iinc (v := nI (t + 1)) (lv' := [(2, .int (nI (t + 1))), (0, .ref (ad (175))), (1, .int (nI j))]) B.1 B.2.1 dX9_again_89 hl (k := 0) rfl (nI_1 _) (by decide) rfl (fun ls hl => ?_)
          refine lv_goto (tgt := 26) B.1 B.2.1 dX9_again_92 (by decide) ?_
          exact ih26 (t + 1) q33 F33 (by omega) hM_F33 hS_F33 (cr_step hC1 (by decide) eq31 eq32 eq33) _ _ ls hC (lv_sub hl [0, 1, 2] rfl)
      exact loop26 10 0 q F (by omega) hM hS CR.z _ _ ls hC (lv_sub hl [0, 1, 2] rfl)
    · have q_18 : (sfl (xs x) j) = false := bI_f.mp c_18
      refine lv_bipush (v := (-3)) B.1 B.2.1 dX9_again_21 (by decide) ?_
      exact r_eI B hC (v := (-3)) (⟨by rw [againA, if_pos q_7, ej, ix_n (by omega), if_neg (by rw [q_18]; decide)], by rw [againN, if_neg (fun z => by rw [ej, ix_n (by omega), q_18] at z; cases z.2)]; exact ⟨_, _, _, hM, hX⟩, hS⟩) dX9_again_23
  · have q_7 : ¬ isS s = true := by rw [← inB_01, bI_f.mp c_7]; decide
    refine lv_iconst (v := (-1)) B.1 B.2.1 dX9_again_10 (by decide) ?_
    exact r_eI B hC (v := (-1)) (⟨by rw [againA, if_neg q_7], by rw [againN, if_neg (fun z => q_7 z.1)]; exact ⟨_, _, _, hM, hX⟩, hS⟩) dX9_again_11
