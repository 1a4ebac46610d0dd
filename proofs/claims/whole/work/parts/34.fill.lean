/-! Load.fill: the timbers as THE TEXT tells them -/
def inT (v : TV) (h : HV) (i p : Nat) : Bool := decide (p < hn h) && decide (tat v i = some 80)
def fstep (v : TV) (h : HV) (u : LV) (i p : Nat) : LV := (va_up (wh u) p (if inT v h i p = true then p else 200), va_up (ln u) p (if inT v h i p = true then hle h p else 0), va_up (wo u) p (if inT v h i p = true then fig v (i + 5) else 0), va_up (ti u) p (if inT v h i p = true then some p else none), wa u, su u)
def fillF (v : TV) (h : HV) : Nat → Nat → Nat → LV → LV
  | 0, _, _, u => u
  | k + 1, p, i, u => fillF v h k (p + 1) (i + bop v i) (fstep v h u i p)
def off (v : TV) : Nat → Nat
  | 0 => 4
  | p + 1 => off v p + bop v (off v p)
theorem off_le (v : TV) : ∀ p, off v p ≤ 4 + 6 * p
  | 0 => Nat.le_refl _
  | p + 1 => by
    have q := off_le v p
    have r := (bop_le v (off v p)).2
    show off v p + bop v (off v p) ≤ 4 + 6 * (p + 1)
    omega
def fillOf (v : TV) (h : HV) (w : LV) : LV := (wh (fillF v h 10 0 4 w), ln (fillF v h 10 0 4 w), wo (fillF v h 10 0 4 w), ti (fillF v h 10 0 4 w), 0, false)
theorem iwX3_fill_X3 : ∀ w ∈ u_ws RX3 TX3 6, w ∈ wsX3_fill := by decide +kernel
theorem flX3_fill_9 : Cond.fieldLink RX3 9 RX3 (TX3 0).2.1 (TX3 0).2.2.1 ∈ wsX3_fill := by decide +kernel
theorem flX3_fill_15 : Cond.fieldLink RX3 15 RX3 (TX3 1).2.1 (TX3 1).2.2.1 ∈ wsX3_fill := by decide +kernel
theorem flX3_fill_18 : Cond.fieldLink RX3 18 RX3 (TX3 2).2.1 (TX3 2).2.2.1 ∈ wsX3_fill := by decide +kernel
theorem flX3_fill_21 : Cond.fieldLink RX3 21 RX3 (TX3 3).2.1 (TX3 3).2.2.1 ∈ wsX3_fill := by decide +kernel
theorem flX3_fill_24 : Cond.fieldLink RX3 24 RX3 (TX3 4).2.1 (TX3 4).2.2.1 ∈ wsX3_fill := by decide +kernel
theorem flX3_fill_28 : Cond.fieldLink RX3 28 RX3 (TX3 5).2.1 (TX3 5).2.2.1 ∈ wsX3_fill := by decide +kernel
set_option maxHeartbeats 4000000 in
set_option maxRecDepth 100000 in
theorem ctX3_fill (l : Launch) (g : Gx) (lo : Nat) (ad : Nat → Nat) {F : Nat → va_E} {h : HV} (hH : HullC g ad F h) (ok : HOK h) {w : LV} (hL : LoadC g ad F 8 w) {v : TV} (hT : TextC g ad F v) (okT : TOK v) (hv : ∀ p, p < hn h → tat v (off v p) = some 80 → isFig v (off v p + 5) 0 10 = true) : MV l g lo 196 ad yX3_fill wsX3_fill 3 63 [.ref (ad (8)), .ref (ad (3)), .ref (ad (1))] F (fun F' => LoadC g ad F' 8 (fillOf v h w) ∧ Same 8 13 F F') := by
  obtain ⟨g0, g1, g2, g3, g4⟩ := id hH
  have okn := ok.1
  have okp := ok.2.1
  have okh := ok.2.2.1
  obtain ⟨h0, h1, h2, h3, h4⟩ := id hL
  obtain ⟨x0, x1⟩ := id hT
  have okn1 := okT.1
  refine enter (cc := cX3_fill) (maxL := 6) (ret := none) (own := RX3) (by decide +kernel) rfl rfl (Nat.le_of_ble_eq_true rfl) ?_
  intro pp ee ss mm below meth cc B hini hC ls hl
  have hl : lv_has ls 6 [(0, .ref (ad (8))), (1, .ref (ad (3))), (2, .ref (ad (1)))] := hl
  refine lv_iconst (v := nI 4) B.1 B.2.1 dX3_fill_0 (by decide) ?_
  refine lv_istore_n (lv' := [(3, .int (nI 4)), (0, .ref (ad (8))), (1, .ref (ad (3))), (2, .ref (ad (1)))]) B.1 B.2.1 dX3_fill_1 rfl hl (by decide) rfl (fun ls hl => ?_)
  refine lv_iconst (v := nI 0) B.1 B.2.1 dX3_fill_2 (by decide) ?_
  refine lv_istore (lv' := [(4, .int (nI 0)), (3, .int (nI 4)), (0, .ref (ad (8))), (1, .ref (ad (3))), (2, .ref (ad (1)))]) B.1 B.2.1 dX3_fill_3 hl (by decide) rfl (fun ls hl => ?_)
  have loop5 : ∀ (k : Nat) (p i : Nat) (u : LV) (G : Nat → va_E), (p + k = 10) → (i = off v p) → (LoadC g ad G 8 u) → (fillF v h 10 0 4 w = fillF v h k p i u) → (Same 8 13 F G) → ∀ (H : Heap) (locs : List Loc) (ls : Array Slot), Cu g lo 196 ad G ss ss.heap H locs → lv_has ls 6 [(4, .int (nI p)), (3, .int (nI i)), (0, .ref (ad (8))), (1, .ref (ad (3))), (2, .ref (ad (1)))] → W pp l ee { frames := 3, cells := 0, slots := 0, locals := 63 } ss mm ([.ref (ad (8)), .ref (ad (3)), .ref (ad (1))] : List Value).toArray below meth cc H locs 0 0 (MQ below (va_Qv (fun F' => LoadC g ad F' 8 (fillOf v h w) ∧ Same 8 13 F F') (fun F' t => Wd g lo 196 ad F' t) (fun q => lo ≤ q)) ([.ref (ad (8)), .ref (ad (3)), .ref (ad (1))] : List Value).toArray ss 0 0 (fun q => lo ≤ q)) (F0 mm 5 ls []) := by
    intro k
    induction k with
    | zero =>
      intro p i u G hpk ho hLG he hs H locs ls hC hl
      obtain ⟨h0, h1, h2, h3, h4⟩ := id hLG
      have hol := off_le v p
      have x0G : G 1 = .inr (7, [.ref (ad (2)), .int (nI (tn v))]) := (hs 1 (by omega)).trans x0
      have g0G : G 3 = .inr (2, [.ref (ad (4)), .ref (ad (5)), .ref (ad (6)), .ref (ad (7)), .int (nI (hn h)), .int (nI (hpu h)), .int (nI (hho h))]) := (hs 3 (by omega)).trans g0
      refine lv_iload B.1 B.2.1 dX3_fill_5 (lv_at hl 0 rfl) ?_
      refine lv_bipush (v := nI 10) B.1 B.2.1 dX3_fill_7 (by decide) ?_
      refine lv_icmp_ge (tgt := 134) B.1 B.2.1 dX3_fill_9 (by decide) (fun _ => ?_) (fun z => absurd (nI_le (by omega) (by omega)) z)
      refine lv_aload_n B.1 B.2.1 dX3_fill_134 rfl (lv_at hl 2 rfl) ?_
      refine lv_iconst (v := nI 0) B.1 B.2.1 dX3_fill_135 (by decide) ?_
      refine r_cp B hC (i := 8) (by decide) h0 tyX3 tyX3_ok nmX3 (C := RX3) (T := TX3) rfl iwX3_fill_X3 4 (by decide) (index := 24) flX3_fill_24 rfl rfl (v := .int (nI 0)) (rfl) (rfl) (Nat.le_of_ble_eq_true rfl) dX3_fill_136 ?_
      intro H locs hC
      obtain ⟨F21, eF21⟩ : ∃ f : Nat → va_E, f = va_up G (8) (.inr (3, [.ref (ad (9)), .ref (ad (10)), .ref (ad (11)), .ref (ad (12)), .int (nI 0), .int (bI (su u))])) := ⟨_, rfl⟩
      have hC : Cu g lo 196 ad F21 ss ss.heap H locs := by rw [eF21]; exact hC
      have k8_F21 : F21 8 = .inr (3, [.ref (ad (9)), .ref (ad (10)), .ref (ad (11)), .ref (ad (12)), .int (nI 0), .int (bI (su u))]) := by rw [eF21]; exact va_up_self _ _ _
      have h1_F21 : F21 9 = .inl (g.2.2 0, 10, .inl (fun j => nI (wh u j))) := by rw [eF21, va_up_ne _ _ (by decide)]; exact h1
      have h2_F21 : F21 10 = .inl (g.2.2 0, 10, .inl (fun j => nI (ln u j))) := by rw [eF21, va_up_ne _ _ (by decide)]; exact h2
      have h3_F21 : F21 11 = .inl (g.2.2 0, 10, .inl (fun j => nI (wo u j))) := by rw [eF21, va_up_ne _ _ (by decide)]; exact h3
      have h4_F21 : F21 12 = .inl (g.2.2 0, 10, .inl (fun j => oI (ti u j))) := by rw [eF21, va_up_ne _ _ (by decide)]; exact h4
      have x0G_F21 : F21 1 = .inr (7, [.ref (ad (2)), .int (nI (tn v))]) := by rw [eF21, va_up_ne _ _ (by decide)]; exact x0G
      have g0G_F21 : F21 3 = .inr (2, [.ref (ad (4)), .ref (ad (5)), .ref (ad (6)), .ref (ad (7)), .int (nI (hn h)), .int (nI (hpu h)), .int (nI (hho h))]) := by rw [eF21, va_up_ne _ _ (by decide)]; exact g0G
      refine lv_aload_n B.1 B.2.1 dX3_fill_139 rfl (lv_at hl 2 rfl) ?_
      refine lv_iconst (v := nI 0) B.1 B.2.1 dX3_fill_140 (by decide) ?_
      refine r_cp B hC (i := 8) (by decide) k8_F21 tyX3 tyX3_ok nmX3 (C := RX3) (T := TX3) rfl iwX3_fill_X3 5 (by decide) (index := 28) flX3_fill_28 rfl rfl (v := .int (nI 0)) (rfl) (rfl) (Nat.le_of_ble_eq_true rfl) dX3_fill_141 ?_
      intro H locs hC
      obtain ⟨F22, eF22⟩ : ∃ f : Nat → va_E, f = va_up F21 (8) (.inr (3, [.ref (ad (9)), .ref (ad (10)), .ref (ad (11)), .ref (ad (12)), .int (nI 0), .int (nI 0)])) := ⟨_, rfl⟩
      have hC : Cu g lo 196 ad F22 ss ss.heap H locs := by rw [eF22]; exact hC
      have k8_F22 : F22 8 = .inr (3, [.ref (ad (9)), .ref (ad (10)), .ref (ad (11)), .ref (ad (12)), .int (nI 0), .int (nI 0)]) := by rw [eF22]; exact va_up_self _ _ _
      have h1_F22 : F22 9 = .inl (g.2.2 0, 10, .inl (fun j => nI (wh u j))) := by rw [eF22, va_up_ne _ _ (by decide)]; exact h1_F21
      have h2_F22 : F22 10 = .inl (g.2.2 0, 10, .inl (fun j => nI (ln u j))) := by rw [eF22, va_up_ne _ _ (by decide)]; exact h2_F21
      have h3_F22 : F22 11 = .inl (g.2.2 0, 10, .inl (fun j => nI (wo u j))) := by rw [eF22, va_up_ne _ _ (by decide)]; exact h3_F21
      have h4_F22 : F22 12 = .inl (g.2.2 0, 10, .inl (fun j => oI (ti u j))) := by rw [eF22, va_up_ne _ _ (by decide)]; exact h4_F21
      have x0G_F22 : F22 1 = .inr (7, [.ref (ad (2)), .int (nI (tn v))]) := by rw [eF22, va_up_ne _ _ (by decide)]; exact x0G_F21
      have g0G_F22 : F22 3 = .inr (2, [.ref (ad (4)), .ref (ad (5)), .ref (ad (6)), .ref (ad (7)), .int (nI (hn h)), .int (nI (hpu h)), .int (nI (hho h))]) := by rw [eF22, va_up_ne _ _ (by decide)]; exact g0G_F21
      exact r_eV B hC (⟨by rw [fillOf, he]; exact ⟨k8_F22, h1_F22, h2_F22, h3_F22, h4_F22⟩, (by rw [eF22]; exact Same.up (by rw [eF21]; exact Same.up (Same.wide hs (by omega) (by omega)) (by omega) (by omega)) (by omega) (by omega))⟩) dX3_fill_144
    | succ k ih5 =>
      intro p i u G hpk ho hLG he hs H locs ls hC hl
      obtain ⟨h0, h1, h2, h3, h4⟩ := id hLG
      have hol := off_le v p
      have x0G : G 1 = .inr (7, [.ref (ad (2)), .int (nI (tn v))]) := (hs 1 (by omega)).trans x0
      have g0G : G 3 = .inr (2, [.ref (ad (4)), .ref (ad (5)), .ref (ad (6)), .ref (ad (7)), .int (nI (hn h)), .int (nI (hpu h)), .int (nI (hho h))]) := (hs 3 (by omega)).trans g0
      refine lv_iload B.1 B.2.1 dX3_fill_5 (lv_at hl 0 rfl) ?_
      refine lv_bipush (v := nI 10) B.1 B.2.1 dX3_fill_7 (by decide) ?_
      refine lv_icmp_ge (tgt := 134) B.1 B.2.1 dX3_fill_9 (by decide) (fun z => absurd z (nI_ge (by omega) (by omega))) (fun _ => ?_)
      refine lv_aload_n B.1 B.2.1 dX3_fill_12 rfl (lv_at hl 3 rfl) ?_
      refine lv_iload B.1 B.2.1 dX3_fill_13 (lv_at hl 0 rfl) ?_
      refine r_calli B hC hl.1 (3) 2 rfl rfl (by decide) g0G (As := [.int (nI p)]) (ctX2_isPlace l g lo ad (HullC.keep hH (x := 8) (y := 13) (fun i hi => by rw [hs i (by omega)]) (by decide)) ok (p := p) (by omega)) gX3_fill_X2_isPlace rfl (n := 1) rfl (by decide +kernel) ⟨Nat.le_of_ble_eq_true rfl, Nat.le_of_ble_eq_true rfl⟩ ⟨Nat.zero_le _, Nat.zero_le _⟩ rfl (Nat.le_of_ble_eq_true rfl) dX3_fill_15 (fun r15 F21 H locs hp15 hC => ?_)
      obtain ⟨er, eF⟩ := hp15
      subst er
      rw [eF] at hC
      refine lv_if_eq (tgt := 33) B.1 B.2.1 dX3_fill_18 (by decide) (fun c_18 => ?_) (fun c_18 => ?_)
      · have q_18 : ¬ p < hn h := of_decide_eq_false (bI_f.mp c_18)
        have hin : inT v h i p = false := by simp [inT, q_18]
        refine lv_iconst (v := nI 0) B.1 B.2.1 dX3_fill_33 (by decide) ?_
        refine lv_istore (lv' := [(5, .int (nI 0)), (4, .int (nI p)), (3, .int (nI i)), (0, .ref (ad (8))), (1, .ref (ad (3))), (2, .ref (ad (1)))]) B.1 B.2.1 dX3_fill_34 hl (by decide) rfl (fun ls hl => ?_)
        refine lv_aload_n B.1 B.2.1 dX3_fill_36 rfl (lv_at hl 3 rfl) ?_
        refine r_cg B hC (i := 8) (by decide) h0 (C := RX3) (T := TX3) (n := 6) rfl iwX3_fill_X3 0 (by decide) (index := 9) flX3_fill_9 rfl (v := .ref (ad (9))) rfl dX3_fill_37 ?_
        refine lv_iload B.1 B.2.1 dX3_fill_40 (lv_at hl 1 rfl) ?_
        refine lv_iload B.1 B.2.1 dX3_fill_42 (lv_at hl 0 rfl) ?_
        refine lv_if_eq (tgt := 52) B.1 B.2.1 dX3_fill_44 (by decide) (fun _ => ?_) (fun z => absurd (by decide) z)
        refine lv_sipush (v := nI 200) B.1 B.2.1 dX3_fill_52 (by decide) ?_
        refine r_cast B hC (i := 9) (by decide) h1 (j := p) (by omega) (by decide) dX3_fill_55 ?_
        intro H locs hC
        obtain ⟨F21, eF21⟩ : ∃ f : Nat → va_E, f = va_up G (9) (.inl (g.2.2 0, 10, .inl (fun j => nI (va_up (wh u) p 200 j)))) := ⟨_, rfl⟩
        have hC : Cu g lo 196 ad F21 ss ss.heap H locs := by rw [eF21]; exact (by rw [← upd_nI (wh u) p 200]; exact hC)
        have k9_F21 : F21 9 = .inl (g.2.2 0, 10, .inl (fun j => nI (va_up (wh u) p 200 j))) := by rw [eF21]; exact va_up_self _ _ _
        have h0_F21 : F21 8 = .inr (3, [.ref (ad (9)), .ref (ad (10)), .ref (ad (11)), .ref (ad (12)), .int (nI (wa u)), .int (bI (su u))]) := by rw [eF21, va_up_ne _ _ (by decide)]; exact h0
        have h2_F21 : F21 10 = .inl (g.2.2 0, 10, .inl (fun j => nI (ln u j))) := by rw [eF21, va_up_ne _ _ (by decide)]; exact h2
        have h3_F21 : F21 11 = .inl (g.2.2 0, 10, .inl (fun j => nI (wo u j))) := by rw [eF21, va_up_ne _ _ (by decide)]; exact h3
        have h4_F21 : F21 12 = .inl (g.2.2 0, 10, .inl (fun j => oI (ti u j))) := by rw [eF21, va_up_ne _ _ (by decide)]; exact h4
        have x0G_F21 : F21 1 = .inr (7, [.ref (ad (2)), .int (nI (tn v))]) := by rw [eF21, va_up_ne _ _ (by decide)]; exact x0G
        have g0G_F21 : F21 3 = .inr (2, [.ref (ad (4)), .ref (ad (5)), .ref (ad (6)), .ref (ad (7)), .int (nI (hn h)), .int (nI (hpu h)), .int (nI (hho h))]) := by rw [eF21, va_up_ne _ _ (by decide)]; exact g0G
        refine lv_aload_n B.1 B.2.1 dX3_fill_56 rfl (lv_at hl 3 rfl) ?_
        refine r_cg B hC (i := 8) (by decide) h0_F21 (C := RX3) (T := TX3) (n := 6) rfl iwX3_fill_X3 3 (by decide) (index := 21) flX3_fill_21 rfl (v := .ref (ad (12))) rfl dX3_fill_57 ?_
        refine lv_iload B.1 B.2.1 dX3_fill_60 (lv_at hl 1 rfl) ?_
        refine lv_iload B.1 B.2.1 dX3_fill_62 (lv_at hl 0 rfl) ?_
        refine lv_if_eq (tgt := 72) B.1 B.2.1 dX3_fill_64 (by decide) (fun _ => ?_) (fun z => absurd (by decide) z)
        refine lv_bipush (v := (-9)) B.1 B.2.1 dX3_fill_72 (by decide) ?_
        refine r_cast B hC (i := 12) (by decide) h4_F21 (j := p) (by omega) (by decide) dX3_fill_74 ?_
        intro H locs hC
        obtain ⟨F22, eF22⟩ : ∃ f : Nat → va_E, f = va_up F21 (12) (.inl (g.2.2 0, 10, .inl (fun j => oI (va_up (ti u) p none j)))) := ⟨_, rfl⟩
        have hC : Cu g lo 196 ad F22 ss ss.heap H locs := by rw [eF22]; exact (by rw [← upd_oI (ti u) p none]; exact hC)
        have k12_F22 : F22 12 = .inl (g.2.2 0, 10, .inl (fun j => oI (va_up (ti u) p none j))) := by rw [eF22]; exact va_up_self _ _ _
        have h0_F22 : F22 8 = .inr (3, [.ref (ad (9)), .ref (ad (10)), .ref (ad (11)), .ref (ad (12)), .int (nI (wa u)), .int (bI (su u))]) := by rw [eF22, va_up_ne _ _ (by decide)]; exact h0_F21
        have h2_F22 : F22 10 = .inl (g.2.2 0, 10, .inl (fun j => nI (ln u j))) := by rw [eF22, va_up_ne _ _ (by decide)]; exact h2_F21
        have h3_F22 : F22 11 = .inl (g.2.2 0, 10, .inl (fun j => nI (wo u j))) := by rw [eF22, va_up_ne _ _ (by decide)]; exact h3_F21
        have x0G_F22 : F22 1 = .inr (7, [.ref (ad (2)), .int (nI (tn v))]) := by rw [eF22, va_up_ne _ _ (by decide)]; exact x0G_F21
        have g0G_F22 : F22 3 = .inr (2, [.ref (ad (4)), .ref (ad (5)), .ref (ad (6)), .ref (ad (7)), .int (nI (hn h)), .int (nI (hpu h)), .int (nI (hho h))]) := by rw [eF22, va_up_ne _ _ (by decide)]; exact g0G_F21
        have k9_F22 : F22 9 = .inl (g.2.2 0, 10, .inl (fun j => nI (va_up (wh u) p 200 j))) := by rw [eF22, va_up_ne _ _ (by decide)]; exact k9_F21
        refine lv_aload_n B.1 B.2.1 dX3_fill_75 rfl (lv_at hl 3 rfl) ?_
        refine r_cg B hC (i := 8) (by decide) h0_F22 (C := RX3) (T := TX3) (n := 6) rfl iwX3_fill_X3 1 (by decide) (index := 15) flX3_fill_15 rfl (v := .ref (ad (10))) rfl dX3_fill_76 ?_
        refine lv_iload B.1 B.2.1 dX3_fill_79 (lv_at hl 1 rfl) ?_
        refine lv_iload B.1 B.2.1 dX3_fill_81 (lv_at hl 0 rfl) ?_
        refine lv_if_eq (tgt := 95) B.1 B.2.1 dX3_fill_83 (by decide) (fun _ => ?_) (fun z => absurd (by decide) z)
        refine lv_iconst (v := nI 0) B.1 B.2.1 dX3_fill_95 (by decide) ?_
        refine r_cast B hC (i := 10) (by decide) h2_F22 (j := p) (by omega) (by decide) dX3_fill_96 ?_
        intro H locs hC
        obtain ⟨F23, eF23⟩ : ∃ f : Nat → va_E, f = va_up F22 (10) (.inl (g.2.2 0, 10, .inl (fun j => nI (va_up (ln u) p 0 j)))) := ⟨_, rfl⟩
        have hC : Cu g lo 196 ad F23 ss ss.heap H locs := by rw [eF23]; exact (by rw [← upd_nI (ln u) p 0]; exact hC)
        have k10_F23 : F23 10 = .inl (g.2.2 0, 10, .inl (fun j => nI (va_up (ln u) p 0 j))) := by rw [eF23]; exact va_up_self _ _ _
        have h0_F23 : F23 8 = .inr (3, [.ref (ad (9)), .ref (ad (10)), .ref (ad (11)), .ref (ad (12)), .int (nI (wa u)), .int (bI (su u))]) := by rw [eF23, va_up_ne _ _ (by decide)]; exact h0_F22
        have h3_F23 : F23 11 = .inl (g.2.2 0, 10, .inl (fun j => nI (wo u j))) := by rw [eF23, va_up_ne _ _ (by decide)]; exact h3_F22
        have x0G_F23 : F23 1 = .inr (7, [.ref (ad (2)), .int (nI (tn v))]) := by rw [eF23, va_up_ne _ _ (by decide)]; exact x0G_F22
        have g0G_F23 : F23 3 = .inr (2, [.ref (ad (4)), .ref (ad (5)), .ref (ad (6)), .ref (ad (7)), .int (nI (hn h)), .int (nI (hpu h)), .int (nI (hho h))]) := by rw [eF23, va_up_ne _ _ (by decide)]; exact g0G_F22
        have k9_F23 : F23 9 = .inl (g.2.2 0, 10, .inl (fun j => nI (va_up (wh u) p 200 j))) := by rw [eF23, va_up_ne _ _ (by decide)]; exact k9_F22
        have k12_F23 : F23 12 = .inl (g.2.2 0, 10, .inl (fun j => oI (va_up (ti u) p none j))) := by rw [eF23, va_up_ne _ _ (by decide)]; exact k12_F22
        refine lv_aload_n B.1 B.2.1 dX3_fill_97 rfl (lv_at hl 3 rfl) ?_
        refine r_cg B hC (i := 8) (by decide) h0_F23 (C := RX3) (T := TX3) (n := 6) rfl iwX3_fill_X3 2 (by decide) (index := 18) flX3_fill_18 rfl (v := .ref (ad (11))) rfl dX3_fill_98 ?_
        refine lv_iload B.1 B.2.1 dX3_fill_101 (lv_at hl 1 rfl) ?_
        refine lv_iload B.1 B.2.1 dX3_fill_103 (lv_at hl 0 rfl) ?_
        refine lv_if_eq (tgt := 118) B.1 B.2.1 dX3_fill_105 (by decide) (fun _ => ?_) (fun z => absurd (by decide) z)
        refine lv_iconst (v := nI 0) B.1 B.2.1 dX3_fill_118 (by decide) ?_
        refine r_cast B hC (i := 11) (by decide) h3_F23 (j := p) (by omega) (by decide) dX3_fill_119 ?_
        intro H locs hC
        obtain ⟨F24, eF24⟩ : ∃ f : Nat → va_E, f = va_up F23 (11) (.inl (g.2.2 0, 10, .inl (fun j => nI (va_up (wo u) p 0 j)))) := ⟨_, rfl⟩
        have hC : Cu g lo 196 ad F24 ss ss.heap H locs := by rw [eF24]; exact (by rw [← upd_nI (wo u) p 0]; exact hC)
        have k11_F24 : F24 11 = .inl (g.2.2 0, 10, .inl (fun j => nI (va_up (wo u) p 0 j))) := by rw [eF24]; exact va_up_self _ _ _
        have h0_F24 : F24 8 = .inr (3, [.ref (ad (9)), .ref (ad (10)), .ref (ad (11)), .ref (ad (12)), .int (nI (wa u)), .int (bI (su u))]) := by rw [eF24, va_up_ne _ _ (by decide)]; exact h0_F23
        have x0G_F24 : F24 1 = .inr (7, [.ref (ad (2)), .int (nI (tn v))]) := by rw [eF24, va_up_ne _ _ (by decide)]; exact x0G_F23
        have g0G_F24 : F24 3 = .inr (2, [.ref (ad (4)), .ref (ad (5)), .ref (ad (6)), .ref (ad (7)), .int (nI (hn h)), .int (nI (hpu h)), .int (nI (hho h))]) := by rw [eF24, va_up_ne _ _ (by decide)]; exact g0G_F23
        have k9_F24 : F24 9 = .inl (g.2.2 0, 10, .inl (fun j => nI (va_up (wh u) p 200 j))) := by rw [eF24, va_up_ne _ _ (by decide)]; exact k9_F23
        have k12_F24 : F24 12 = .inl (g.2.2 0, 10, .inl (fun j => oI (va_up (ti u) p none j))) := by rw [eF24, va_up_ne _ _ (by decide)]; exact k12_F23
        have k10_F24 : F24 10 = .inl (g.2.2 0, 10, .inl (fun j => nI (va_up (ln u) p 0 j))) := by rw [eF24, va_up_ne _ _ (by decide)]; exact k10_F23
        refine lv_iload_n B.1 B.2.1 dX3_fill_120 rfl (lv_at hl 2 rfl) ?_
        refine lv_aload_n B.1 B.2.1 dX3_fill_121 rfl (lv_at hl 5 rfl) ?_
        refine lv_iload_n B.1 B.2.1 dX3_fill_122 rfl (lv_at hl 2 rfl) ?_
        refine r_calli B hC hl.1 (1) 7 rfl rfl (by decide) x0G_F24 (As := [.int (nI i)]) (ctX7_bytesOfPlace l g lo ad (TextC.keep hT (x := 8) (y := 13) (fun i hi => by rw [eF24, va_up_ne _ _ (by omega)]; rw [eF23, va_up_ne _ _ (by omega)]; rw [eF22, va_up_ne _ _ (by omega)]; rw [eF21, va_up_ne _ _ (by omega)]; rw [hs i (by omega)]) (by decide)) okT (i := i) (by omega)) gX3_fill_X7_bytesOfPlace rfl (n := 1) rfl (by decide +kernel) ⟨Nat.le_of_ble_eq_true rfl, Nat.le_of_ble_eq_true rfl⟩ ⟨Nat.zero_le _, Nat.zero_le _⟩ rfl (Nat.le_of_ble_eq_true rfl) dX3_fill_123 (fun r123 F25 H locs hp123 hC => ?_)
        obtain ⟨er, eF⟩ := hp123
        subst er
        rw [eF] at hC
        refine lv_iadd B.1 B.2.1 dX3_fill_126 ?_
        refine r_tI (y := nI (i + (bop v i))) (nI_add _ _) ?_
        refine lv_istore_n (lv' := [(3, .int (nI (i + (bop v i)))), (5, .int (nI 0)), (4, .int (nI p)), (0, .ref (ad (8))), (1, .ref (ad (3))), (2, .ref (ad (1)))]) B.1 B.2.1 dX3_fill_127 rfl hl (by decide) rfl (fun ls hl => ?_)
        refine lv_iinc (v := nI (p + 1)) (lv' := [(4, .int (nI (p + 1))), (3, .int (nI (i + (bop v i)))), (5, .int (nI 0)), (0, .ref (ad (8))), (1, .ref (ad (3))), (2, .ref (ad (1)))]) B.1 B.2.1 dX3_fill_128 hl (k := 2) rfl (nI_1 _) (by decide) rfl (fun ls hl => ?_)
        refine lv_goto (tgt := 5) B.1 B.2.1 dX3_fill_131 (by decide) ?_
        exact ih5 (p + 1) (i + bop v i) (fstep v h u i p) F24 (by omega) (by rw [off, ← ho]) ⟨h0_F24, (show F24 9 = (.inl (g.2.2 0, 10, .inl (fun j => nI (va_up (wh u) p (if inT v h i p = true then p else 200) j))) : va_E) by rw [hin]; exact k9_F24), (show F24 10 = (.inl (g.2.2 0, 10, .inl (fun j => nI (va_up (ln u) p (if inT v h i p = true then hle h p else 0) j))) : va_E) by rw [hin]; exact k10_F24), (show F24 11 = (.inl (g.2.2 0, 10, .inl (fun j => nI (va_up (wo u) p (if inT v h i p = true then fig v (i + 5) else 0) j))) : va_E) by rw [hin]; exact k11_F24), (show F24 12 = (.inl (g.2.2 0, 10, .inl (fun j => oI (va_up (ti u) p (if inT v h i p = true then some p else none) j))) : va_E) by rw [hin]; exact k12_F24)⟩ (by rw [he, fillF]) (by rw [eF24]; exact Same.up (by rw [eF23]; exact Same.up (by rw [eF22]; exact Same.up (by rw [eF21]; exact Same.up (Same.wide hs (by omega) (by omega)) (by omega) (by omega)) (by omega) (by omega)) (by omega) (by omega)) (by omega) (by omega)) _ _ ls hC (lv_sub hl [0, 1, 3, 4, 5] rfl)
      · have hin1 : p < hn h := of_decide_eq_true (bI_t.mp c_18)
        refine lv_aload_n B.1 B.2.1 dX3_fill_21 rfl (lv_at hl 4 rfl) ?_
        refine lv_iload_n B.1 B.2.1 dX3_fill_22 rfl (lv_at hl 1 rfl) ?_
        refine r_calli B hC hl.1 (1) 7 rfl rfl (by decide) x0G (As := [.int (nI i)]) (ctX7_isFilledPlace l g lo ad (TextC.keep hT (x := 8) (y := 13) (fun i hi => by rw [hs i (by omega)]) (by decide)) okT (i := i) (by omega)) gX3_fill_X7_isFilledPlace rfl (n := 1) rfl (by decide +kernel) ⟨Nat.le_of_ble_eq_true rfl, Nat.le_of_ble_eq_true rfl⟩ ⟨Nat.zero_le _, Nat.zero_le _⟩ rfl (Nat.le_of_ble_eq_true rfl) dX3_fill_23 (fun r23 F21 H locs hp23 hC => ?_)
        obtain ⟨er, eF⟩ := hp23
        subst er
        rw [eF] at hC
        refine lv_if_eq (tgt := 33) B.1 B.2.1 dX3_fill_26 (by decide) (fun c_26 => ?_) (fun c_26 => ?_)
        · have q_26 : ¬ tat v i = some 80 := of_decide_eq_false (bI_f.mp c_26)
          have hin : inT v h i p = false := by simp [inT, q_26]
          refine lv_iconst (v := nI 0) B.1 B.2.1 dX3_fill_33 (by decide) ?_
          refine lv_istore (lv' := [(5, .int (nI 0)), (4, .int (nI p)), (3, .int (nI i)), (0, .ref (ad (8))), (1, .ref (ad (3))), (2, .ref (ad (1)))]) B.1 B.2.1 dX3_fill_34 hl (by decide) rfl (fun ls hl => ?_)
          refine lv_aload_n B.1 B.2.1 dX3_fill_36 rfl (lv_at hl 3 rfl) ?_
          refine r_cg B hC (i := 8) (by decide) h0 (C := RX3) (T := TX3) (n := 6) rfl iwX3_fill_X3 0 (by decide) (index := 9) flX3_fill_9 rfl (v := .ref (ad (9))) rfl dX3_fill_37 ?_
          refine lv_iload B.1 B.2.1 dX3_fill_40 (lv_at hl 1 rfl) ?_
          refine lv_iload B.1 B.2.1 dX3_fill_42 (lv_at hl 0 rfl) ?_
          refine lv_if_eq (tgt := 52) B.1 B.2.1 dX3_fill_44 (by decide) (fun _ => ?_) (fun z => absurd (by decide) z)
          refine lv_sipush (v := nI 200) B.1 B.2.1 dX3_fill_52 (by decide) ?_
          refine r_cast B hC (i := 9) (by decide) h1 (j := p) (by omega) (by decide) dX3_fill_55 ?_
          intro H locs hC
          obtain ⟨F21, eF21⟩ : ∃ f : Nat → va_E, f = va_up G (9) (.inl (g.2.2 0, 10, .inl (fun j => nI (va_up (wh u) p 200 j)))) := ⟨_, rfl⟩
          have hC : Cu g lo 196 ad F21 ss ss.heap H locs := by rw [eF21]; exact (by rw [← upd_nI (wh u) p 200]; exact hC)
          have k9_F21 : F21 9 = .inl (g.2.2 0, 10, .inl (fun j => nI (va_up (wh u) p 200 j))) := by rw [eF21]; exact va_up_self _ _ _
          have h0_F21 : F21 8 = .inr (3, [.ref (ad (9)), .ref (ad (10)), .ref (ad (11)), .ref (ad (12)), .int (nI (wa u)), .int (bI (su u))]) := by rw [eF21, va_up_ne _ _ (by decide)]; exact h0
          have h2_F21 : F21 10 = .inl (g.2.2 0, 10, .inl (fun j => nI (ln u j))) := by rw [eF21, va_up_ne _ _ (by decide)]; exact h2
          have h3_F21 : F21 11 = .inl (g.2.2 0, 10, .inl (fun j => nI (wo u j))) := by rw [eF21, va_up_ne _ _ (by decide)]; exact h3
          have h4_F21 : F21 12 = .inl (g.2.2 0, 10, .inl (fun j => oI (ti u j))) := by rw [eF21, va_up_ne _ _ (by decide)]; exact h4
          have x0G_F21 : F21 1 = .inr (7, [.ref (ad (2)), .int (nI (tn v))]) := by rw [eF21, va_up_ne _ _ (by decide)]; exact x0G
          have g0G_F21 : F21 3 = .inr (2, [.ref (ad (4)), .ref (ad (5)), .ref (ad (6)), .ref (ad (7)), .int (nI (hn h)), .int (nI (hpu h)), .int (nI (hho h))]) := by rw [eF21, va_up_ne _ _ (by decide)]; exact g0G
          refine lv_aload_n B.1 B.2.1 dX3_fill_56 rfl (lv_at hl 3 rfl) ?_
          refine r_cg B hC (i := 8) (by decide) h0_F21 (C := RX3) (T := TX3) (n := 6) rfl iwX3_fill_X3 3 (by decide) (index := 21) flX3_fill_21 rfl (v := .ref (ad (12))) rfl dX3_fill_57 ?_
          refine lv_iload B.1 B.2.1 dX3_fill_60 (lv_at hl 1 rfl) ?_
          refine lv_iload B.1 B.2.1 dX3_fill_62 (lv_at hl 0 rfl) ?_
          refine lv_if_eq (tgt := 72) B.1 B.2.1 dX3_fill_64 (by decide) (fun _ => ?_) (fun z => absurd (by decide) z)
          refine lv_bipush (v := (-9)) B.1 B.2.1 dX3_fill_72 (by decide) ?_
          refine r_cast B hC (i := 12) (by decide) h4_F21 (j := p) (by omega) (by decide) dX3_fill_74 ?_
          intro H locs hC
          obtain ⟨F22, eF22⟩ : ∃ f : Nat → va_E, f = va_up F21 (12) (.inl (g.2.2 0, 10, .inl (fun j => oI (va_up (ti u) p none j)))) := ⟨_, rfl⟩
          have hC : Cu g lo 196 ad F22 ss ss.heap H locs := by rw [eF22]; exact (by rw [← upd_oI (ti u) p none]; exact hC)
          have k12_F22 : F22 12 = .inl (g.2.2 0, 10, .inl (fun j => oI (va_up (ti u) p none j))) := by rw [eF22]; exact va_up_self _ _ _
          have h0_F22 : F22 8 = .inr (3, [.ref (ad (9)), .ref (ad (10)), .ref (ad (11)), .ref (ad (12)), .int (nI (wa u)), .int (bI (su u))]) := by rw [eF22, va_up_ne _ _ (by decide)]; exact h0_F21
          have h2_F22 : F22 10 = .inl (g.2.2 0, 10, .inl (fun j => nI (ln u j))) := by rw [eF22, va_up_ne _ _ (by decide)]; exact h2_F21
          have h3_F22 : F22 11 = .inl (g.2.2 0, 10, .inl (fun j => nI (wo u j))) := by rw [eF22, va_up_ne _ _ (by decide)]; exact h3_F21
          have x0G_F22 : F22 1 = .inr (7, [.ref (ad (2)), .int (nI (tn v))]) := by rw [eF22, va_up_ne _ _ (by decide)]; exact x0G_F21
          have g0G_F22 : F22 3 = .inr (2, [.ref (ad (4)), .ref (ad (5)), .ref (ad (6)), .ref (ad (7)), .int (nI (hn h)), .int (nI (hpu h)), .int (nI (hho h))]) := by rw [eF22, va_up_ne _ _ (by decide)]; exact g0G_F21
          have k9_F22 : F22 9 = .inl (g.2.2 0, 10, .inl (fun j => nI (va_up (wh u) p 200 j))) := by rw [eF22, va_up_ne _ _ (by decide)]; exact k9_F21
          refine lv_aload_n B.1 B.2.1 dX3_fill_75 rfl (lv_at hl 3 rfl) ?_
          refine r_cg B hC (i := 8) (by decide) h0_F22 (C := RX3) (T := TX3) (n := 6) rfl iwX3_fill_X3 1 (by decide) (index := 15) flX3_fill_15 rfl (v := .ref (ad (10))) rfl dX3_fill_76 ?_
          refine lv_iload B.1 B.2.1 dX3_fill_79 (lv_at hl 1 rfl) ?_
          refine lv_iload B.1 B.2.1 dX3_fill_81 (lv_at hl 0 rfl) ?_
          refine lv_if_eq (tgt := 95) B.1 B.2.1 dX3_fill_83 (by decide) (fun _ => ?_) (fun z => absurd (by decide) z)
          refine lv_iconst (v := nI 0) B.1 B.2.1 dX3_fill_95 (by decide) ?_
          refine r_cast B hC (i := 10) (by decide) h2_F22 (j := p) (by omega) (by decide) dX3_fill_96 ?_
          intro H locs hC
          obtain ⟨F23, eF23⟩ : ∃ f : Nat → va_E, f = va_up F22 (10) (.inl (g.2.2 0, 10, .inl (fun j => nI (va_up (ln u) p 0 j)))) := ⟨_, rfl⟩
          have hC : Cu g lo 196 ad F23 ss ss.heap H locs := by rw [eF23]; exact (by rw [← upd_nI (ln u) p 0]; exact hC)
          have k10_F23 : F23 10 = .inl (g.2.2 0, 10, .inl (fun j => nI (va_up (ln u) p 0 j))) := by rw [eF23]; exact va_up_self _ _ _
          have h0_F23 : F23 8 = .inr (3, [.ref (ad (9)), .ref (ad (10)), .ref (ad (11)), .ref (ad (12)), .int (nI (wa u)), .int (bI (su u))]) := by rw [eF23, va_up_ne _ _ (by decide)]; exact h0_F22
          have h3_F23 : F23 11 = .inl (g.2.2 0, 10, .inl (fun j => nI (wo u j))) := by rw [eF23, va_up_ne _ _ (by decide)]; exact h3_F22
          have x0G_F23 : F23 1 = .inr (7, [.ref (ad (2)), .int (nI (tn v))]) := by rw [eF23, va_up_ne _ _ (by decide)]; exact x0G_F22
          have g0G_F23 : F23 3 = .inr (2, [.ref (ad (4)), .ref (ad (5)), .ref (ad (6)), .ref (ad (7)), .int (nI (hn h)), .int (nI (hpu h)), .int (nI (hho h))]) := by rw [eF23, va_up_ne _ _ (by decide)]; exact g0G_F22
          have k9_F23 : F23 9 = .inl (g.2.2 0, 10, .inl (fun j => nI (va_up (wh u) p 200 j))) := by rw [eF23, va_up_ne _ _ (by decide)]; exact k9_F22
          have k12_F23 : F23 12 = .inl (g.2.2 0, 10, .inl (fun j => oI (va_up (ti u) p none j))) := by rw [eF23, va_up_ne _ _ (by decide)]; exact k12_F22
          refine lv_aload_n B.1 B.2.1 dX3_fill_97 rfl (lv_at hl 3 rfl) ?_
          refine r_cg B hC (i := 8) (by decide) h0_F23 (C := RX3) (T := TX3) (n := 6) rfl iwX3_fill_X3 2 (by decide) (index := 18) flX3_fill_18 rfl (v := .ref (ad (11))) rfl dX3_fill_98 ?_
          refine lv_iload B.1 B.2.1 dX3_fill_101 (lv_at hl 1 rfl) ?_
          refine lv_iload B.1 B.2.1 dX3_fill_103 (lv_at hl 0 rfl) ?_
          refine lv_if_eq (tgt := 118) B.1 B.2.1 dX3_fill_105 (by decide) (fun _ => ?_) (fun z => absurd (by decide) z)
          refine lv_iconst (v := nI 0) B.1 B.2.1 dX3_fill_118 (by decide) ?_
          refine r_cast B hC (i := 11) (by decide) h3_F23 (j := p) (by omega) (by decide) dX3_fill_119 ?_
          intro H locs hC
          obtain ⟨F24, eF24⟩ : ∃ f : Nat → va_E, f = va_up F23 (11) (.inl (g.2.2 0, 10, .inl (fun j => nI (va_up (wo u) p 0 j)))) := ⟨_, rfl⟩
          have hC : Cu g lo 196 ad F24 ss ss.heap H locs := by rw [eF24]; exact (by rw [← upd_nI (wo u) p 0]; exact hC)
          have k11_F24 : F24 11 = .inl (g.2.2 0, 10, .inl (fun j => nI (va_up (wo u) p 0 j))) := by rw [eF24]; exact va_up_self _ _ _
          have h0_F24 : F24 8 = .inr (3, [.ref (ad (9)), .ref (ad (10)), .ref (ad (11)), .ref (ad (12)), .int (nI (wa u)), .int (bI (su u))]) := by rw [eF24, va_up_ne _ _ (by decide)]; exact h0_F23
          have x0G_F24 : F24 1 = .inr (7, [.ref (ad (2)), .int (nI (tn v))]) := by rw [eF24, va_up_ne _ _ (by decide)]; exact x0G_F23
          have g0G_F24 : F24 3 = .inr (2, [.ref (ad (4)), .ref (ad (5)), .ref (ad (6)), .ref (ad (7)), .int (nI (hn h)), .int (nI (hpu h)), .int (nI (hho h))]) := by rw [eF24, va_up_ne _ _ (by decide)]; exact g0G_F23
          have k9_F24 : F24 9 = .inl (g.2.2 0, 10, .inl (fun j => nI (va_up (wh u) p 200 j))) := by rw [eF24, va_up_ne _ _ (by decide)]; exact k9_F23
          have k12_F24 : F24 12 = .inl (g.2.2 0, 10, .inl (fun j => oI (va_up (ti u) p none j))) := by rw [eF24, va_up_ne _ _ (by decide)]; exact k12_F23
          have k10_F24 : F24 10 = .inl (g.2.2 0, 10, .inl (fun j => nI (va_up (ln u) p 0 j))) := by rw [eF24, va_up_ne _ _ (by decide)]; exact k10_F23
          refine lv_iload_n B.1 B.2.1 dX3_fill_120 rfl (lv_at hl 2 rfl) ?_
          refine lv_aload_n B.1 B.2.1 dX3_fill_121 rfl (lv_at hl 5 rfl) ?_
          refine lv_iload_n B.1 B.2.1 dX3_fill_122 rfl (lv_at hl 2 rfl) ?_
          refine r_calli B hC hl.1 (1) 7 rfl rfl (by decide) x0G_F24 (As := [.int (nI i)]) (ctX7_bytesOfPlace l g lo ad (TextC.keep hT (x := 8) (y := 13) (fun i hi => by rw [eF24, va_up_ne _ _ (by omega)]; rw [eF23, va_up_ne _ _ (by omega)]; rw [eF22, va_up_ne _ _ (by omega)]; rw [eF21, va_up_ne _ _ (by omega)]; rw [hs i (by omega)]) (by decide)) okT (i := i) (by omega)) gX3_fill_X7_bytesOfPlace rfl (n := 1) rfl (by decide +kernel) ⟨Nat.le_of_ble_eq_true rfl, Nat.le_of_ble_eq_true rfl⟩ ⟨Nat.zero_le _, Nat.zero_le _⟩ rfl (Nat.le_of_ble_eq_true rfl) dX3_fill_123 (fun r123 F25 H locs hp123 hC => ?_)
          obtain ⟨er, eF⟩ := hp123
          subst er
          rw [eF] at hC
          refine lv_iadd B.1 B.2.1 dX3_fill_126 ?_
          refine r_tI (y := nI (i + (bop v i))) (nI_add _ _) ?_
          refine lv_istore_n (lv' := [(3, .int (nI (i + (bop v i)))), (5, .int (nI 0)), (4, .int (nI p)), (0, .ref (ad (8))), (1, .ref (ad (3))), (2, .ref (ad (1)))]) B.1 B.2.1 dX3_fill_127 rfl hl (by decide) rfl (fun ls hl => ?_)
          refine lv_iinc (v := nI (p + 1)) (lv' := [(4, .int (nI (p + 1))), (3, .int (nI (i + (bop v i)))), (5, .int (nI 0)), (0, .ref (ad (8))), (1, .ref (ad (3))), (2, .ref (ad (1)))]) B.1 B.2.1 dX3_fill_128 hl (k := 2) rfl (nI_1 _) (by decide) rfl (fun ls hl => ?_)
          refine lv_goto (tgt := 5) B.1 B.2.1 dX3_fill_131 (by decide) ?_
          exact ih5 (p + 1) (i + bop v i) (fstep v h u i p) F24 (by omega) (by rw [off, ← ho]) ⟨h0_F24, (show F24 9 = (.inl (g.2.2 0, 10, .inl (fun j => nI (va_up (wh u) p (if inT v h i p = true then p else 200) j))) : va_E) by rw [hin]; exact k9_F24), (show F24 10 = (.inl (g.2.2 0, 10, .inl (fun j => nI (va_up (ln u) p (if inT v h i p = true then hle h p else 0) j))) : va_E) by rw [hin]; exact k10_F24), (show F24 11 = (.inl (g.2.2 0, 10, .inl (fun j => nI (va_up (wo u) p (if inT v h i p = true then fig v (i + 5) else 0) j))) : va_E) by rw [hin]; exact k11_F24), (show F24 12 = (.inl (g.2.2 0, 10, .inl (fun j => oI (va_up (ti u) p (if inT v h i p = true then some p else none) j))) : va_E) by rw [hin]; exact k12_F24)⟩ (by rw [he, fillF]) (by rw [eF24]; exact Same.up (by rw [eF23]; exact Same.up (by rw [eF22]; exact Same.up (by rw [eF21]; exact Same.up (Same.wide hs (by omega) (by omega)) (by omega) (by omega)) (by omega) (by omega)) (by omega) (by omega)) (by omega) (by omega)) _ _ ls hC (lv_sub hl [0, 1, 3, 4, 5] rfl)
        · have q_26 : tat v i = some 80 := of_decide_eq_true (bI_t.mp c_26)
          have hin : inT v h i p = true := by simp [inT, hin1, q_26]
          have hf5 := fig_ok (by have z := hv p hin1; rw [← ho] at z; exact z q_26)
          refine lv_iconst (v := nI 1) B.1 B.2.1 dX3_fill_29 (by decide) ?_
          refine lv_goto (tgt := 34) B.1 B.2.1 dX3_fill_30 (by decide) ?_
          refine lv_istore (lv' := [(5, .int (nI 1)), (4, .int (nI p)), (3, .int (nI i)), (0, .ref (ad (8))), (1, .ref (ad (3))), (2, .ref (ad (1)))]) B.1 B.2.1 dX3_fill_34 hl (by decide) rfl (fun ls hl => ?_)
          refine lv_aload_n B.1 B.2.1 dX3_fill_36 rfl (lv_at hl 3 rfl) ?_
          refine r_cg B hC (i := 8) (by decide) h0 (C := RX3) (T := TX3) (n := 6) rfl iwX3_fill_X3 0 (by decide) (index := 9) flX3_fill_9 rfl (v := .ref (ad (9))) rfl dX3_fill_37 ?_
          refine lv_iload B.1 B.2.1 dX3_fill_40 (lv_at hl 1 rfl) ?_
          refine lv_iload B.1 B.2.1 dX3_fill_42 (lv_at hl 0 rfl) ?_
          refine lv_if_eq (tgt := 52) B.1 B.2.1 dX3_fill_44 (by decide) (fun z => absurd z (by decide)) (fun _ => ?_)
          refine lv_iload B.1 B.2.1 dX3_fill_47 (lv_at hl 1 rfl) ?_
          refine lv_goto (tgt := 55) B.1 B.2.1 dX3_fill_49 (by decide) ?_
          refine r_cast B hC (i := 9) (by decide) h1 (j := p) (by omega) (by decide) dX3_fill_55 ?_
          intro H locs hC
          obtain ⟨F21, eF21⟩ : ∃ f : Nat → va_E, f = va_up G (9) (.inl (g.2.2 0, 10, .inl (fun j => nI (va_up (wh u) p p j)))) := ⟨_, rfl⟩
          have hC : Cu g lo 196 ad F21 ss ss.heap H locs := by rw [eF21]; exact (by rw [← upd_nI (wh u) p p]; exact hC)
          have k9_F21 : F21 9 = .inl (g.2.2 0, 10, .inl (fun j => nI (va_up (wh u) p p j))) := by rw [eF21]; exact va_up_self _ _ _
          have h0_F21 : F21 8 = .inr (3, [.ref (ad (9)), .ref (ad (10)), .ref (ad (11)), .ref (ad (12)), .int (nI (wa u)), .int (bI (su u))]) := by rw [eF21, va_up_ne _ _ (by decide)]; exact h0
          have h2_F21 : F21 10 = .inl (g.2.2 0, 10, .inl (fun j => nI (ln u j))) := by rw [eF21, va_up_ne _ _ (by decide)]; exact h2
          have h3_F21 : F21 11 = .inl (g.2.2 0, 10, .inl (fun j => nI (wo u j))) := by rw [eF21, va_up_ne _ _ (by decide)]; exact h3
          have h4_F21 : F21 12 = .inl (g.2.2 0, 10, .inl (fun j => oI (ti u j))) := by rw [eF21, va_up_ne _ _ (by decide)]; exact h4
          have x0G_F21 : F21 1 = .inr (7, [.ref (ad (2)), .int (nI (tn v))]) := by rw [eF21, va_up_ne _ _ (by decide)]; exact x0G
          have g0G_F21 : F21 3 = .inr (2, [.ref (ad (4)), .ref (ad (5)), .ref (ad (6)), .ref (ad (7)), .int (nI (hn h)), .int (nI (hpu h)), .int (nI (hho h))]) := by rw [eF21, va_up_ne _ _ (by decide)]; exact g0G
          refine lv_aload_n B.1 B.2.1 dX3_fill_56 rfl (lv_at hl 3 rfl) ?_
          refine r_cg B hC (i := 8) (by decide) h0_F21 (C := RX3) (T := TX3) (n := 6) rfl iwX3_fill_X3 3 (by decide) (index := 21) flX3_fill_21 rfl (v := .ref (ad (12))) rfl dX3_fill_57 ?_
          refine lv_iload B.1 B.2.1 dX3_fill_60 (lv_at hl 1 rfl) ?_
          refine lv_iload B.1 B.2.1 dX3_fill_62 (lv_at hl 0 rfl) ?_
          refine lv_if_eq (tgt := 72) B.1 B.2.1 dX3_fill_64 (by decide) (fun z => absurd z (by decide)) (fun _ => ?_)
          refine lv_iload B.1 B.2.1 dX3_fill_67 (lv_at hl 1 rfl) ?_
          refine lv_goto (tgt := 74) B.1 B.2.1 dX3_fill_69 (by decide) ?_
          refine r_cast B hC (i := 12) (by decide) h4_F21 (j := p) (by omega) (by decide) dX3_fill_74 ?_
          intro H locs hC
          obtain ⟨F22, eF22⟩ : ∃ f : Nat → va_E, f = va_up F21 (12) (.inl (g.2.2 0, 10, .inl (fun j => oI (va_up (ti u) p (some p) j)))) := ⟨_, rfl⟩
          have hC : Cu g lo 196 ad F22 ss ss.heap H locs := by rw [eF22]; exact (by rw [← upd_oI (ti u) p (some p)]; exact hC)
          have k12_F22 : F22 12 = .inl (g.2.2 0, 10, .inl (fun j => oI (va_up (ti u) p (some p) j))) := by rw [eF22]; exact va_up_self _ _ _
          have h0_F22 : F22 8 = .inr (3, [.ref (ad (9)), .ref (ad (10)), .ref (ad (11)), .ref (ad (12)), .int (nI (wa u)), .int (bI (su u))]) := by rw [eF22, va_up_ne _ _ (by decide)]; exact h0_F21
          have h2_F22 : F22 10 = .inl (g.2.2 0, 10, .inl (fun j => nI (ln u j))) := by rw [eF22, va_up_ne _ _ (by decide)]; exact h2_F21
          have h3_F22 : F22 11 = .inl (g.2.2 0, 10, .inl (fun j => nI (wo u j))) := by rw [eF22, va_up_ne _ _ (by decide)]; exact h3_F21
          have x0G_F22 : F22 1 = .inr (7, [.ref (ad (2)), .int (nI (tn v))]) := by rw [eF22, va_up_ne _ _ (by decide)]; exact x0G_F21
          have g0G_F22 : F22 3 = .inr (2, [.ref (ad (4)), .ref (ad (5)), .ref (ad (6)), .ref (ad (7)), .int (nI (hn h)), .int (nI (hpu h)), .int (nI (hho h))]) := by rw [eF22, va_up_ne _ _ (by decide)]; exact g0G_F21
          have k9_F22 : F22 9 = .inl (g.2.2 0, 10, .inl (fun j => nI (va_up (wh u) p p j))) := by rw [eF22, va_up_ne _ _ (by decide)]; exact k9_F21
          refine lv_aload_n B.1 B.2.1 dX3_fill_75 rfl (lv_at hl 3 rfl) ?_
          refine r_cg B hC (i := 8) (by decide) h0_F22 (C := RX3) (T := TX3) (n := 6) rfl iwX3_fill_X3 1 (by decide) (index := 15) flX3_fill_15 rfl (v := .ref (ad (10))) rfl dX3_fill_76 ?_
          refine lv_iload B.1 B.2.1 dX3_fill_79 (lv_at hl 1 rfl) ?_
          refine lv_iload B.1 B.2.1 dX3_fill_81 (lv_at hl 0 rfl) ?_
          refine lv_if_eq (tgt := 95) B.1 B.2.1 dX3_fill_83 (by decide) (fun z => absurd z (by decide)) (fun _ => ?_)
          refine lv_aload_n B.1 B.2.1 dX3_fill_86 rfl (lv_at hl 4 rfl) ?_
          refine lv_iload B.1 B.2.1 dX3_fill_87 (lv_at hl 1 rfl) ?_
          refine r_calli B hC hl.1 (3) 2 rfl rfl (by decide) g0G_F22 (As := [.int (nI p)]) (ctX2_lengthOf l g lo ad (HullC.keep hH (x := 8) (y := 13) (fun i hi => by rw [eF22, va_up_ne _ _ (by omega)]; rw [eF21, va_up_ne _ _ (by omega)]; rw [hs i (by omega)]) (by decide)) ok (p := p) hin1) gX3_fill_X2_lengthOf rfl (n := 1) rfl (by decide +kernel) ⟨Nat.le_of_ble_eq_true rfl, Nat.le_of_ble_eq_true rfl⟩ ⟨Nat.zero_le _, Nat.zero_le _⟩ rfl (Nat.le_of_ble_eq_true rfl) dX3_fill_89 (fun r89 F23 H locs hp89 hC => ?_)
          obtain ⟨er, eF⟩ := hp89
          subst er
          rw [eF] at hC
          refine lv_goto (tgt := 96) B.1 B.2.1 dX3_fill_92 (by decide) ?_
          refine r_cast B hC (i := 10) (by decide) h2_F22 (j := p) (by omega) (by decide) dX3_fill_96 ?_
          intro H locs hC
          obtain ⟨F23, eF23⟩ : ∃ f : Nat → va_E, f = va_up F22 (10) (.inl (g.2.2 0, 10, .inl (fun j => nI (va_up (ln u) p (hle h p) j)))) := ⟨_, rfl⟩
          have hC : Cu g lo 196 ad F23 ss ss.heap H locs := by rw [eF23]; exact (by rw [← upd_nI (ln u) p (hle h p)]; exact hC)
          have k10_F23 : F23 10 = .inl (g.2.2 0, 10, .inl (fun j => nI (va_up (ln u) p (hle h p) j))) := by rw [eF23]; exact va_up_self _ _ _
          have h0_F23 : F23 8 = .inr (3, [.ref (ad (9)), .ref (ad (10)), .ref (ad (11)), .ref (ad (12)), .int (nI (wa u)), .int (bI (su u))]) := by rw [eF23, va_up_ne _ _ (by decide)]; exact h0_F22
          have h3_F23 : F23 11 = .inl (g.2.2 0, 10, .inl (fun j => nI (wo u j))) := by rw [eF23, va_up_ne _ _ (by decide)]; exact h3_F22
          have x0G_F23 : F23 1 = .inr (7, [.ref (ad (2)), .int (nI (tn v))]) := by rw [eF23, va_up_ne _ _ (by decide)]; exact x0G_F22
          have g0G_F23 : F23 3 = .inr (2, [.ref (ad (4)), .ref (ad (5)), .ref (ad (6)), .ref (ad (7)), .int (nI (hn h)), .int (nI (hpu h)), .int (nI (hho h))]) := by rw [eF23, va_up_ne _ _ (by decide)]; exact g0G_F22
          have k9_F23 : F23 9 = .inl (g.2.2 0, 10, .inl (fun j => nI (va_up (wh u) p p j))) := by rw [eF23, va_up_ne _ _ (by decide)]; exact k9_F22
          have k12_F23 : F23 12 = .inl (g.2.2 0, 10, .inl (fun j => oI (va_up (ti u) p (some p) j))) := by rw [eF23, va_up_ne _ _ (by decide)]; exact k12_F22
          refine lv_aload_n B.1 B.2.1 dX3_fill_97 rfl (lv_at hl 3 rfl) ?_
          refine r_cg B hC (i := 8) (by decide) h0_F23 (C := RX3) (T := TX3) (n := 6) rfl iwX3_fill_X3 2 (by decide) (index := 18) flX3_fill_18 rfl (v := .ref (ad (11))) rfl dX3_fill_98 ?_
          refine lv_iload B.1 B.2.1 dX3_fill_101 (lv_at hl 1 rfl) ?_
          refine lv_iload B.1 B.2.1 dX3_fill_103 (lv_at hl 0 rfl) ?_
          refine lv_if_eq (tgt := 118) B.1 B.2.1 dX3_fill_105 (by decide) (fun z => absurd z (by decide)) (fun _ => ?_)
          refine lv_aload_n B.1 B.2.1 dX3_fill_108 rfl (lv_at hl 5 rfl) ?_
          refine lv_iload_n B.1 B.2.1 dX3_fill_109 rfl (lv_at hl 2 rfl) ?_
          refine lv_iconst (v := nI 5) B.1 B.2.1 dX3_fill_110 (by decide) ?_
          refine lv_iadd B.1 B.2.1 dX3_fill_111 ?_
          refine r_tI (y := nI (i + 5)) (nI_add _ _) ?_
          refine r_calli B hC hl.1 (1) 7 rfl rfl (by decide) x0G_F23 (As := [.int (nI (i + 5))]) (ctX7_figureAt l g lo ad (TextC.keep hT (x := 8) (y := 13) (fun i hi => by rw [eF23, va_up_ne _ _ (by omega)]; rw [eF22, va_up_ne _ _ (by omega)]; rw [eF21, va_up_ne _ _ (by omega)]; rw [hs i (by omega)]) (by decide)) okT (i := (i + 5)) (by omega)) gX3_fill_X7_figureAt rfl (n := 1) rfl (by decide +kernel) ⟨Nat.le_of_ble_eq_true rfl, Nat.le_of_ble_eq_true rfl⟩ ⟨Nat.zero_le _, Nat.zero_le _⟩ rfl (Nat.le_of_ble_eq_true rfl) dX3_fill_112 (fun r112 F24 H locs hp112 hC => ?_)
          obtain ⟨er, eF⟩ := hp112
          subst er
          rw [eF] at hC
          refine r_tI (y := nI (fig v (i + 5))) (hf5.1) ?_
          refine lv_goto (tgt := 119) B.1 B.2.1 dX3_fill_115 (by decide) ?_
          refine r_cast B hC (i := 11) (by decide) h3_F23 (j := p) (by omega) (by decide) dX3_fill_119 ?_
          intro H locs hC
          obtain ⟨F24, eF24⟩ : ∃ f : Nat → va_E, f = va_up F23 (11) (.inl (g.2.2 0, 10, .inl (fun j => nI (va_up (wo u) p (fig v (i + 5)) j)))) := ⟨_, rfl⟩
          have hC : Cu g lo 196 ad F24 ss ss.heap H locs := by rw [eF24]; exact (by rw [← upd_nI (wo u) p (fig v (i + 5))]; exact hC)
          have k11_F24 : F24 11 = .inl (g.2.2 0, 10, .inl (fun j => nI (va_up (wo u) p (fig v (i + 5)) j))) := by rw [eF24]; exact va_up_self _ _ _
          have h0_F24 : F24 8 = .inr (3, [.ref (ad (9)), .ref (ad (10)), .ref (ad (11)), .ref (ad (12)), .int (nI (wa u)), .int (bI (su u))]) := by rw [eF24, va_up_ne _ _ (by decide)]; exact h0_F23
          have x0G_F24 : F24 1 = .inr (7, [.ref (ad (2)), .int (nI (tn v))]) := by rw [eF24, va_up_ne _ _ (by decide)]; exact x0G_F23
          have g0G_F24 : F24 3 = .inr (2, [.ref (ad (4)), .ref (ad (5)), .ref (ad (6)), .ref (ad (7)), .int (nI (hn h)), .int (nI (hpu h)), .int (nI (hho h))]) := by rw [eF24, va_up_ne _ _ (by decide)]; exact g0G_F23
          have k9_F24 : F24 9 = .inl (g.2.2 0, 10, .inl (fun j => nI (va_up (wh u) p p j))) := by rw [eF24, va_up_ne _ _ (by decide)]; exact k9_F23
          have k12_F24 : F24 12 = .inl (g.2.2 0, 10, .inl (fun j => oI (va_up (ti u) p (some p) j))) := by rw [eF24, va_up_ne _ _ (by decide)]; exact k12_F23
          have k10_F24 : F24 10 = .inl (g.2.2 0, 10, .inl (fun j => nI (va_up (ln u) p (hle h p) j))) := by rw [eF24, va_up_ne _ _ (by decide)]; exact k10_F23
          refine lv_iload_n B.1 B.2.1 dX3_fill_120 rfl (lv_at hl 2 rfl) ?_
          refine lv_aload_n B.1 B.2.1 dX3_fill_121 rfl (lv_at hl 5 rfl) ?_
          refine lv_iload_n B.1 B.2.1 dX3_fill_122 rfl (lv_at hl 2 rfl) ?_
          refine r_calli B hC hl.1 (1) 7 rfl rfl (by decide) x0G_F24 (As := [.int (nI i)]) (ctX7_bytesOfPlace l g lo ad (TextC.keep hT (x := 8) (y := 13) (fun i hi => by rw [eF24, va_up_ne _ _ (by omega)]; rw [eF23, va_up_ne _ _ (by omega)]; rw [eF22, va_up_ne _ _ (by omega)]; rw [eF21, va_up_ne _ _ (by omega)]; rw [hs i (by omega)]) (by decide)) okT (i := i) (by omega)) gX3_fill_X7_bytesOfPlace rfl (n := 1) rfl (by decide +kernel) ⟨Nat.le_of_ble_eq_true rfl, Nat.le_of_ble_eq_true rfl⟩ ⟨Nat.zero_le _, Nat.zero_le _⟩ rfl (Nat.le_of_ble_eq_true rfl) dX3_fill_123 (fun r123 F25 H locs hp123 hC => ?_)
          obtain ⟨er, eF⟩ := hp123
          subst er
          rw [eF] at hC
          refine lv_iadd B.1 B.2.1 dX3_fill_126 ?_
          refine r_tI (y := nI (i + (bop v i))) (nI_add _ _) ?_
          refine lv_istore_n (lv' := [(3, .int (nI (i + (bop v i)))), (5, .int (nI 1)), (4, .int (nI p)), (0, .ref (ad (8))), (1, .ref (ad (3))), (2, .ref (ad (1)))]) B.1 B.2.1 dX3_fill_127 rfl hl (by decide) rfl (fun ls hl => ?_)
          refine lv_iinc (v := nI (p + 1)) (lv' := [(4, .int (nI (p + 1))), (3, .int (nI (i + (bop v i)))), (5, .int (nI 1)), (0, .ref (ad (8))), (1, .ref (ad (3))), (2, .ref (ad (1)))]) B.1 B.2.1 dX3_fill_128 hl (k := 2) rfl (nI_1 _) (by decide) rfl (fun ls hl => ?_)
          refine lv_goto (tgt := 5) B.1 B.2.1 dX3_fill_131 (by decide) ?_
          exact ih5 (p + 1) (i + bop v i) (fstep v h u i p) F24 (by omega) (by rw [off, ← ho]) ⟨h0_F24, (show F24 9 = (.inl (g.2.2 0, 10, .inl (fun j => nI (va_up (wh u) p (if inT v h i p = true then p else 200) j))) : va_E) by rw [hin]; exact k9_F24), (show F24 10 = (.inl (g.2.2 0, 10, .inl (fun j => nI (va_up (ln u) p (if inT v h i p = true then hle h p else 0) j))) : va_E) by rw [hin]; exact k10_F24), (show F24 11 = (.inl (g.2.2 0, 10, .inl (fun j => nI (va_up (wo u) p (if inT v h i p = true then fig v (i + 5) else 0) j))) : va_E) by rw [hin]; exact k11_F24), (show F24 12 = (.inl (g.2.2 0, 10, .inl (fun j => oI (va_up (ti u) p (if inT v h i p = true then some p else none) j))) : va_E) by rw [hin]; exact k12_F24)⟩ (by rw [he, fillF]) (by rw [eF24]; exact Same.up (by rw [eF23]; exact Same.up (by rw [eF22]; exact Same.up (by rw [eF21]; exact Same.up (Same.wide hs (by omega) (by omega)) (by omega) (by omega)) (by omega) (by omega)) (by omega) (by omega)) (by omega) (by omega)) _ _ ls hC (lv_sub hl [0, 1, 3, 4, 5] rfl)
  exact loop5 10 0 4 w F (by decide) rfl hL rfl Same.rf _ _ ls hC (lv_sub hl [0, 1, 2, 3, 4] rfl)
