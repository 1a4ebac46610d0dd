/-! THE TEXT is made the SHIP: Hull.build, Load.fill -/
def fig (v : TV) (i : Nat) : Nat := match tat v i with
  | none => 0
  | some c => c - 48
theorem fig_ok {v : TV} {i a m : Nat} (q : isFig v i a m = true) : y1 (tat v i) - nI 48 = nI (fig v i) ∧ a ≤ fig v i ∧ fig v i < m := by
  unfold isFig at q
  unfold fig
  cases hh : tat v i with
  | none => rw [hh] at q; cases q
  | some c =>
    rw [hh] at q
    simp only [Bool.and_eq_true, decide_eq_true_eq] at q
    exact ⟨pk_sub (by omega), by show a ≤ c - 48; omega, by show c - 48 < m; omega⟩
def reT (v : TV) (i : Nat) : Option Nat := if tat v (i + 3) = some 45 then none else some (fig v (i + 3))
def shT (v : TV) (i : Nat) : Option Nat := if tat v i = some 80 then some (fig v (i + 4)) else none
def bstep (v : TV) (u : HV) (i p : Nat) : HV := (p + 1, hpu u, hho u, va_up (hle u) p (fig v (i + 1)), va_up (hin_ u) p (fig v (i + 2)), va_up (hre u) p (reT v i), va_up (hsh u) p (shT v i))
def buildF (v : TV) : Nat → Nat → Nat → HV → HV
  | 0, _, _, u => u
  | k + 1, p, i, u => if i < tn v then buildF v k (p + 1) (i + bop v i) (bstep v u i p) else u
def hullOf (v : TV) (h : HV) : HV := buildF v 10 0 4 (0, fig v 1, 10 * fig v 2 + fig v 3, hle h, hin_ h, hre h, hsh h)
theorem fPlace_none {v : TV} {i p : Nat} (q : fPlace v i p = none) : isFig v (i + 1) 1 10 = true ∧ isFig v (i + 2) 0 10 = true ∧ (tat v (i + 3) = some 45 ∨ isFig v (i + 3) 0 p = true) ∧ (tat v i = some 80 → isFig v (i + 4) 0 3 = true ∧ isFig v (i + 5) 0 10 = true) := by
  unfold fPlace at q
  split at q
  · split at q
    · next h1 =>
      split at q
      · next h2 =>
        split at q
        · next h3 =>
          refine ⟨h1, h2, h3, fun e => ?_⟩
          rw [if_pos e] at q
          unfold fTimber at q
          split at q
          · next h4 =>
            split at q
            · next h5 => exact ⟨h4, h5⟩
            · cases q
          · cases q
        · cases q
      · cases q
    · cases q
  · cases q
theorem fRest_none {v : TV} {k p i : Nat} (q : fRest v (k + 1) p i = none) (hi : i < tn v) : fPlace v i p = none ∧ fRest v k (p + 1) (i + bop v i) = none := by
  rw [fRest, if_pos hi] at q
  split at q
  · next e => exact ⟨e, q⟩
  · next e => exact absurd q e
theorem fAll_none {v : TV} (q : fAll v = none) : fRest v 10 0 4 = none ∧ isFig v 1 0 10 = true ∧ isFig v 2 0 10 = true ∧ isFig v 3 0 10 = true ∧ (fig v 2 = 0 → 1 ≤ fig v 3) := by
  unfold fAll at q
  split at q
  · next e =>
    refine ⟨q, ?_⟩
    unfold fHead at e
    generalize hlu : (if tat v 2 = some 48 then 1 else 0) = lu at e
    split at e
    · split at e
      · next h1 =>
        split at e
        · next h2 =>
          split at e
          · next h3 =>
            have e3 := fig_ok h3
            refine ⟨h1, h2, ?_, fun z => ?_⟩
            · unfold isFig at h3 ⊢
              cases hh : tat v 3 with
              | none => rw [hh] at h3; cases h3
              | some c => rw [hh] at h3; simp only [Bool.and_eq_true, decide_eq_true_eq] at h3 ⊢; omega
            · have e2 : tat v 2 = some 48 := by
                unfold isFig at h2
                unfold fig at z
                cases hh : tat v 2 with
                | none => rw [hh] at h2; cases h2
                | some c =>
                  rw [hh] at h2 z
                  simp only [Bool.and_eq_true, decide_eq_true_eq] at h2
                  have z : c - 48 = 0 := z
                  rw [show c = 48 by omega]
              rw [if_pos e2] at hlu
              omega
          · cases e
        · cases e
      · cases e
    · cases e
  · next e => exact absurd q e
theorem iwX2_build_X2 : ∀ w ∈ u_ws RX2 TX2 7, w ∈ wsX2_build := by decide +kernel
theorem flX2_build_9 : Cond.fieldLink RX2 9 RX2 (TX2 0).2.1 (TX2 0).2.2.1 ∈ wsX2_build := by decide +kernel
theorem flX2_build_15 : Cond.fieldLink RX2 15 RX2 (TX2 1).2.1 (TX2 1).2.2.1 ∈ wsX2_build := by decide +kernel
theorem flX2_build_18 : Cond.fieldLink RX2 18 RX2 (TX2 2).2.1 (TX2 2).2.2.1 ∈ wsX2_build := by decide +kernel
theorem flX2_build_21 : Cond.fieldLink RX2 21 RX2 (TX2 3).2.1 (TX2 3).2.2.1 ∈ wsX2_build := by decide +kernel
theorem flX2_build_24 : Cond.fieldLink RX2 24 RX2 (TX2 4).2.1 (TX2 4).2.2.1 ∈ wsX2_build := by decide +kernel
theorem flX2_build_28 : Cond.fieldLink RX2 28 RX2 (TX2 5).2.1 (TX2 5).2.2.1 ∈ wsX2_build := by decide +kernel
theorem flX2_build_31 : Cond.fieldLink RX2 31 RX2 (TX2 6).2.1 (TX2 6).2.2.1 ∈ wsX2_build := by decide +kernel
set_option maxHeartbeats 4000000 in
set_option maxRecDepth 100000 in
theorem ctX2_build (l : Launch) (g : Gx) (lo : Nat) (ad : Nat → Nat) {F : Nat → va_E} {h : HV} (hH : HullC g ad F h) {v : TV} (hT : TextC g ad F v) (ok : TOK v) (hfa : fAll v = none) : MV l g lo 196 ad yX2_build wsX2_build 3 63 [.ref (ad (3)), .ref (ad (1))] F (fun F' => HullC g ad F' (hullOf v h) ∧ Same 3 8 F F') := by
  obtain ⟨g0, g1, g2, g3, g4⟩ := id hH
  obtain ⟨x0, x1⟩ := id hT
  have okn := ok.1
  have hfa0 := fAll_none hfa
  have hg1 := fig_ok hfa0.2.1
  have hg2 := fig_ok hfa0.2.2.1
  have hg3 := fig_ok hfa0.2.2.2.1
  refine enter (cc := cX2_build) (maxL := 4) (ret := none) (own := RX2) (by decide +kernel) rfl rfl (Nat.le_of_ble_eq_true rfl) ?_
  intro pp ee ss mm below meth cc B hini hC ls hl
  have hl : lv_has ls 4 [(0, .ref (ad (3))), (1, .ref (ad (1)))] := hl
  refine lv_aload_n B.1 B.2.1 dX2_build_0 rfl (lv_at hl 0 rfl) ?_
  refine lv_aload_n B.1 B.2.1 dX2_build_1 rfl (lv_at hl 1 rfl) ?_
  refine lv_iconst (v := nI 1) B.1 B.2.1 dX2_build_2 (by decide) ?_
  refine r_calli B hC hl.1 (1) 7 rfl rfl (by decide) x0 (As := [.int (nI 1)]) (ctX7_figureAt l g lo ad (TextC.keep hT (x := 3) (y := 8) (fun i hi => by rfl) (by decide)) ok (i := 1) (by omega)) gX2_build_X7_figureAt rfl (n := 1) rfl (by decide +kernel) ⟨Nat.le_of_ble_eq_true rfl, Nat.le_of_ble_eq_true rfl⟩ ⟨Nat.zero_le _, Nat.zero_le _⟩ rfl (Nat.le_of_ble_eq_true rfl) dX2_build_3 (fun r3 F1 H locs hp3 hC => ?_)
  obtain ⟨er, eF⟩ := hp3
  subst er
  rw [eF] at hC
  refine r_tI (y := nI (fig v 1)) (hg1.1) ?_
  refine r_cp B hC (i := 3) (by decide) g0 tyX2 tyX2_ok nmX2 (C := RX2) (T := TX2) rfl iwX2_build_X2 5 (by decide) (index := 28) flX2_build_28 rfl rfl (v := .int (nI (fig v 1))) (rfl) (rfl) (Nat.le_of_ble_eq_true rfl) dX2_build_6 ?_
  intro H locs hC
  obtain ⟨F1, eF1⟩ : ∃ f : Nat → va_E, f = va_up F (3) (.inr (2, [.ref (ad (4)), .ref (ad (5)), .ref (ad (6)), .ref (ad (7)), .int (nI (hn h)), .int (nI (fig v 1)), .int (nI (hho h))])) := ⟨_, rfl⟩
  have hC : Cu g lo 196 ad F1 ss ss.heap H locs := by rw [eF1]; exact hC
  have k3_F1 : F1 3 = .inr (2, [.ref (ad (4)), .ref (ad (5)), .ref (ad (6)), .ref (ad (7)), .int (nI (hn h)), .int (nI (fig v 1)), .int (nI (hho h))]) := by rw [eF1]; exact va_up_self _ _ _
  have g1_F1 : F1 4 = .inl (g.2.2 0, 10, .inl (fun j => nI (hle h j))) := by rw [eF1, va_up_ne _ _ (by decide)]; exact g1
  have g2_F1 : F1 5 = .inl (g.2.2 0, 10, .inl (fun j => nI (hin_ h j))) := by rw [eF1, va_up_ne _ _ (by decide)]; exact g2
  have g3_F1 : F1 6 = .inl (g.2.2 0, 10, .inl (fun j => oI (hre h j))) := by rw [eF1, va_up_ne _ _ (by decide)]; exact g3
  have g4_F1 : F1 7 = .inl (g.2.2 0, 10, .inl (fun j => oI (hsh h j))) := by rw [eF1, va_up_ne _ _ (by decide)]; exact g4
  have x0_F1 : F1 1 = .inr (7, [.ref (ad (2)), .int (nI (tn v))]) := by rw [eF1, va_up_ne _ _ (by decide)]; exact x0
  have x1_F1 : F1 2 = .inl (g.2.2 1, 72, .inl (fun j => sB (tb v j))) := by rw [eF1, va_up_ne _ _ (by decide)]; exact x1
  refine lv_aload_n B.1 B.2.1 dX2_build_9 rfl (lv_at hl 0 rfl) ?_
  refine lv_bipush (v := nI 10) B.1 B.2.1 dX2_build_10 (by decide) ?_
  refine lv_aload_n B.1 B.2.1 dX2_build_12 rfl (lv_at hl 1 rfl) ?_
  refine lv_iconst (v := nI 2) B.1 B.2.1 dX2_build_13 (by decide) ?_
  refine r_calli B hC hl.1 (1) 7 rfl rfl (by decide) x0_F1 (As := [.int (nI 2)]) (ctX7_figureAt l g lo ad (TextC.keep hT (x := 3) (y := 8) (fun i hi => by rw [eF1, va_up_ne _ _ (by omega)]) (by decide)) ok (i := 2) (by omega)) gX2_build_X7_figureAt rfl (n := 1) rfl (by decide +kernel) ⟨Nat.le_of_ble_eq_true rfl, Nat.le_of_ble_eq_true rfl⟩ ⟨Nat.zero_le _, Nat.zero_le _⟩ rfl (Nat.le_of_ble_eq_true rfl) dX2_build_14 (fun r14 F2 H locs hp14 hC => ?_)
  obtain ⟨er, eF⟩ := hp14
  subst er
  rw [eF] at hC
  refine r_tI (y := nI (fig v 2)) (hg2.1) ?_
  refine lv_imul B.1 B.2.1 dX2_build_17 ?_
  refine r_tI (y := nI (10 * (fig v 2))) (pk_mul _ _) ?_
  refine lv_aload_n B.1 B.2.1 dX2_build_18 rfl (lv_at hl 1 rfl) ?_
  refine lv_iconst (v := nI 3) B.1 B.2.1 dX2_build_19 (by decide) ?_
  refine r_calli B hC hl.1 (1) 7 rfl rfl (by decide) x0_F1 (As := [.int (nI 3)]) (ctX7_figureAt l g lo ad (TextC.keep hT (x := 3) (y := 8) (fun i hi => by rw [eF1, va_up_ne _ _ (by omega)]) (by decide)) ok (i := 3) (by omega)) gX2_build_X7_figureAt rfl (n := 1) rfl (by decide +kernel) ⟨Nat.le_of_ble_eq_true rfl, Nat.le_of_ble_eq_true rfl⟩ ⟨Nat.zero_le _, Nat.zero_le _⟩ rfl (Nat.le_of_ble_eq_true rfl) dX2_build_20 (fun r20 F2 H locs hp20 hC => ?_)
  obtain ⟨er, eF⟩ := hp20
  subst er
  rw [eF] at hC
  refine r_tI (y := nI (fig v 3)) (hg3.1) ?_
  refine lv_iadd B.1 B.2.1 dX2_build_23 ?_
  refine r_tI (y := nI ((10 * (fig v 2)) + (fig v 3))) (nI_add _ _) ?_
  refine r_cp B hC (i := 3) (by decide) k3_F1 tyX2 tyX2_ok nmX2 (C := RX2) (T := TX2) rfl iwX2_build_X2 6 (by decide) (index := 31) flX2_build_31 rfl rfl (v := .int (nI ((10 * (fig v 2)) + (fig v 3)))) (rfl) (rfl) (Nat.le_of_ble_eq_true rfl) dX2_build_24 ?_
  intro H locs hC
  obtain ⟨F2, eF2⟩ : ∃ f : Nat → va_E, f = va_up F1 (3) (.inr (2, [.ref (ad (4)), .ref (ad (5)), .ref (ad (6)), .ref (ad (7)), .int (nI (hn h)), .int (nI (fig v 1)), .int (nI ((10 * (fig v 2)) + (fig v 3)))])) := ⟨_, rfl⟩
  have hC : Cu g lo 196 ad F2 ss ss.heap H locs := by rw [eF2]; exact hC
  have k3_F2 : F2 3 = .inr (2, [.ref (ad (4)), .ref (ad (5)), .ref (ad (6)), .ref (ad (7)), .int (nI (hn h)), .int (nI (fig v 1)), .int (nI ((10 * (fig v 2)) + (fig v 3)))]) := by rw [eF2]; exact va_up_self _ _ _
  have g1_F2 : F2 4 = .inl (g.2.2 0, 10, .inl (fun j => nI (hle h j))) := by rw [eF2, va_up_ne _ _ (by decide)]; exact g1_F1
  have g2_F2 : F2 5 = .inl (g.2.2 0, 10, .inl (fun j => nI (hin_ h j))) := by rw [eF2, va_up_ne _ _ (by decide)]; exact g2_F1
  have g3_F2 : F2 6 = .inl (g.2.2 0, 10, .inl (fun j => oI (hre h j))) := by rw [eF2, va_up_ne _ _ (by decide)]; exact g3_F1
  have g4_F2 : F2 7 = .inl (g.2.2 0, 10, .inl (fun j => oI (hsh h j))) := by rw [eF2, va_up_ne _ _ (by decide)]; exact g4_F1
  have x0_F2 : F2 1 = .inr (7, [.ref (ad (2)), .int (nI (tn v))]) := by rw [eF2, va_up_ne _ _ (by decide)]; exact x0_F1
  have x1_F2 : F2 2 = .inl (g.2.2 1, 72, .inl (fun j => sB (tb v j))) := by rw [eF2, va_up_ne _ _ (by decide)]; exact x1_F1
  refine lv_aload_n B.1 B.2.1 dX2_build_27 rfl (lv_at hl 0 rfl) ?_
  refine lv_iconst (v := nI 0) B.1 B.2.1 dX2_build_28 (by decide) ?_
  refine r_cp B hC (i := 3) (by decide) k3_F2 tyX2 tyX2_ok nmX2 (C := RX2) (T := TX2) rfl iwX2_build_X2 4 (by decide) (index := 24) flX2_build_24 rfl rfl (v := .int (nI 0)) (rfl) (rfl) (Nat.le_of_ble_eq_true rfl) dX2_build_29 ?_
  intro H locs hC
  obtain ⟨F3, eF3⟩ : ∃ f : Nat → va_E, f = va_up F2 (3) (.inr (2, [.ref (ad (4)), .ref (ad (5)), .ref (ad (6)), .ref (ad (7)), .int (nI 0), .int (nI (fig v 1)), .int (nI ((10 * (fig v 2)) + (fig v 3)))])) := ⟨_, rfl⟩
  have hC : Cu g lo 196 ad F3 ss ss.heap H locs := by rw [eF3]; exact hC
  have k3_F3 : F3 3 = .inr (2, [.ref (ad (4)), .ref (ad (5)), .ref (ad (6)), .ref (ad (7)), .int (nI 0), .int (nI (fig v 1)), .int (nI ((10 * (fig v 2)) + (fig v 3)))]) := by rw [eF3]; exact va_up_self _ _ _
  have g1_F3 : F3 4 = .inl (g.2.2 0, 10, .inl (fun j => nI (hle h j))) := by rw [eF3, va_up_ne _ _ (by decide)]; exact g1_F2
  have g2_F3 : F3 5 = .inl (g.2.2 0, 10, .inl (fun j => nI (hin_ h j))) := by rw [eF3, va_up_ne _ _ (by decide)]; exact g2_F2
  have g3_F3 : F3 6 = .inl (g.2.2 0, 10, .inl (fun j => oI (hre h j))) := by rw [eF3, va_up_ne _ _ (by decide)]; exact g3_F2
  have g4_F3 : F3 7 = .inl (g.2.2 0, 10, .inl (fun j => oI (hsh h j))) := by rw [eF3, va_up_ne _ _ (by decide)]; exact g4_F2
  have x0_F3 : F3 1 = .inr (7, [.ref (ad (2)), .int (nI (tn v))]) := by rw [eF3, va_up_ne _ _ (by decide)]; exact x0_F2
  have x1_F3 : F3 2 = .inl (g.2.2 1, 72, .inl (fun j => sB (tb v j))) := by rw [eF3, va_up_ne _ _ (by decide)]; exact x1_F2
  refine lv_iconst (v := nI 4) B.1 B.2.1 dX2_build_32 (by decide) ?_
  refine lv_istore_n (lv' := [(2, .int (nI 4)), (0, .ref (ad (3))), (1, .ref (ad (1)))]) B.1 B.2.1 dX2_build_33 rfl hl (by decide) rfl (fun ls hl => ?_)
  refine lv_iconst (v := nI 0) B.1 B.2.1 dX2_build_34 (by decide) ?_
  refine lv_istore_n (lv' := [(3, .int (nI 0)), (2, .int (nI 4)), (0, .ref (ad (3))), (1, .ref (ad (1)))]) B.1 B.2.1 dX2_build_35 rfl hl (by decide) rfl (fun ls hl => ?_)
  have loop36 : ∀ (k : Nat) (p i : Nat) (u : HV) (G : Nat → va_E), (p + k = 10) → (i ≤ 4 + 6 * p) → (HullC g ad G u) → (fRest v k p i = none) → (hullOf v h = buildF v k p i u) → (Same 3 8 F G) → ∀ (H : Heap) (locs : List Loc) (ls : Array Slot), Cu g lo 196 ad G ss ss.heap H locs → lv_has ls 4 [(3, .int (nI p)), (2, .int (nI i)), (0, .ref (ad (3))), (1, .ref (ad (1)))] → W pp l ee { frames := 3, cells := 0, slots := 0, locals := 63 } ss mm ([.ref (ad (3)), .ref (ad (1))] : List Value).toArray below meth cc H locs 0 0 (MQ below (va_Qv (fun F' => HullC g ad F' (hullOf v h) ∧ Same 3 8 F F') (fun F' t => Wd g lo 196 ad F' t) (fun q => lo ≤ q)) ([.ref (ad (3)), .ref (ad (1))] : List Value).toArray ss 0 0 (fun q => lo ≤ q)) (F0 mm 36 ls []) := by
    intro k
    induction k with
    | zero =>
      intro p i u G hpk hi hHG hf he hs H locs ls hC hl
      obtain ⟨g0, g1, g2, g3, g4⟩ := id hHG
      have hbo := bop_le v i
      have x0G : G 1 = .inr (7, [.ref (ad (2)), .int (nI (tn v))]) := (hs 1 (by omega)).trans x0
      refine lv_iload_n B.1 B.2.1 dX2_build_36 rfl (lv_at hl 0 rfl) ?_
      refine lv_bipush (v := nI 10) B.1 B.2.1 dX2_build_37 (by decide) ?_
      refine lv_icmp_ge (tgt := 153) B.1 B.2.1 dX2_build_39 (by decide) (fun _ => ?_) (fun z => absurd (nI_le (by omega) (by omega)) z)
      exact r_eV B hC (⟨by rw [he]; exact hHG, hs⟩) dX2_build_153
    | succ k ih36 =>
      intro p i u G hpk hi hHG hf he hs H locs ls hC hl
      obtain ⟨g0, g1, g2, g3, g4⟩ := id hHG
      have hbo := bop_le v i
      have x0G : G 1 = .inr (7, [.ref (ad (2)), .int (nI (tn v))]) := (hs 1 (by omega)).trans x0
      refine lv_iload_n B.1 B.2.1 dX2_build_36 rfl (lv_at hl 0 rfl) ?_
      refine lv_bipush (v := nI 10) B.1 B.2.1 dX2_build_37 (by decide) ?_
      refine lv_icmp_ge (tgt := 153) B.1 B.2.1 dX2_build_39 (by decide) (fun z => absurd z (nI_ge (by omega) (by omega))) (fun _ => ?_)
      refine lv_iload_n B.1 B.2.1 dX2_build_42 rfl (lv_at hl 1 rfl) ?_
      refine lv_aload_n B.1 B.2.1 dX2_build_43 rfl (lv_at hl 3 rfl) ?_
      refine r_calli B hC hl.1 (1) 7 rfl rfl (by decide) x0G (As := []) (ctX7_size l g lo ad (TextC.keep hT (x := 3) (y := 8) (fun i hi => by rw [hs i (by omega)]) (by decide)) ok) gX2_build_X7_size rfl (n := 0) rfl (by decide +kernel) ⟨Nat.le_of_ble_eq_true rfl, Nat.le_of_ble_eq_true rfl⟩ ⟨Nat.zero_le _, Nat.zero_le _⟩ rfl (Nat.le_of_ble_eq_true rfl) dX2_build_44 (fun r44 F21 H locs hp44 hC => ?_)
      obtain ⟨er, eF⟩ := hp44
      subst er
      rw [eF] at hC
      refine lv_icmp_ge (tgt := 153) B.1 B.2.1 dX2_build_47 (by decide) (fun c_47 => ?_) (fun c_47 => ?_)
      · have q_47 : (tn v) ≤ i := (nI_leI (by omega) (by omega)).mp c_47
        exact r_eV B hC (⟨by rw [he, buildF, if_neg (by omega)]; exact hHG, hs⟩) dX2_build_153
      · have q_47 : ¬ (tn v) ≤ i := fun z => c_47 ((nI_leI (by omega) (by omega)).mpr z)
        have hfr := fRest_none hf (by omega)
        have hfp := fPlace_none hfr.1
        have hf1 := fig_ok hfp.1
        have hf2 := fig_ok hfp.2.1
        refine lv_aload_n B.1 B.2.1 dX2_build_50 rfl (lv_at hl 2 rfl) ?_
        refine r_cg B hC (i := 3) (by decide) g0 (C := RX2) (T := TX2) (n := 7) rfl iwX2_build_X2 0 (by decide) (index := 9) flX2_build_9 rfl (v := .ref (ad (4))) rfl dX2_build_51 ?_
        refine lv_iload_n B.1 B.2.1 dX2_build_54 rfl (lv_at hl 0 rfl) ?_
        refine lv_aload_n B.1 B.2.1 dX2_build_55 rfl (lv_at hl 3 rfl) ?_
        refine lv_iload_n B.1 B.2.1 dX2_build_56 rfl (lv_at hl 1 rfl) ?_
        refine lv_iconst (v := nI 1) B.1 B.2.1 dX2_build_57 (by decide) ?_
        refine lv_iadd B.1 B.2.1 dX2_build_58 ?_
        refine r_tI (y := nI (i + 1)) (nI_add _ _) ?_
        refine r_calli B hC hl.1 (1) 7 rfl rfl (by decide) x0G (As := [.int (nI (i + 1))]) (ctX7_figureAt l g lo ad (TextC.keep hT (x := 3) (y := 8) (fun i hi => by rw [hs i (by omega)]) (by decide)) ok (i := (i + 1)) (by omega)) gX2_build_X7_figureAt rfl (n := 1) rfl (by decide +kernel) ⟨Nat.le_of_ble_eq_true rfl, Nat.le_of_ble_eq_true rfl⟩ ⟨Nat.zero_le _, Nat.zero_le _⟩ rfl (Nat.le_of_ble_eq_true rfl) dX2_build_59 (fun r59 F21 H locs hp59 hC => ?_)
        obtain ⟨er, eF⟩ := hp59
        subst er
        rw [eF] at hC
        refine r_tI (y := nI (fig v (i + 1))) (hf1.1) ?_
        refine r_cast B hC (i := 4) (by decide) g1 (j := p) (by omega) (by decide) dX2_build_62 ?_
        intro H locs hC
        obtain ⟨F21, eF21⟩ : ∃ f : Nat → va_E, f = va_up G (4) (.inl (g.2.2 0, 10, .inl (fun j => nI (va_up (hle u) p (fig v (i + 1)) j)))) := ⟨_, rfl⟩
        have hC : Cu g lo 196 ad F21 ss ss.heap H locs := by rw [eF21]; exact (by rw [← upd_nI (hle u) p (fig v (i + 1))]; exact hC)
        have k4_F21 : F21 4 = .inl (g.2.2 0, 10, .inl (fun j => nI (va_up (hle u) p (fig v (i + 1)) j))) := by rw [eF21]; exact va_up_self _ _ _
        have g0_F21 : F21 3 = .inr (2, [.ref (ad (4)), .ref (ad (5)), .ref (ad (6)), .ref (ad (7)), .int (nI (hn u)), .int (nI (hpu u)), .int (nI (hho u))]) := by rw [eF21, va_up_ne _ _ (by decide)]; exact g0
        have g2_F21 : F21 5 = .inl (g.2.2 0, 10, .inl (fun j => nI (hin_ u j))) := by rw [eF21, va_up_ne _ _ (by decide)]; exact g2
        have g3_F21 : F21 6 = .inl (g.2.2 0, 10, .inl (fun j => oI (hre u j))) := by rw [eF21, va_up_ne _ _ (by decide)]; exact g3
        have g4_F21 : F21 7 = .inl (g.2.2 0, 10, .inl (fun j => oI (hsh u j))) := by rw [eF21, va_up_ne _ _ (by decide)]; exact g4
        have x0G_F21 : F21 1 = .inr (7, [.ref (ad (2)), .int (nI (tn v))]) := by rw [eF21, va_up_ne _ _ (by decide)]; exact x0G
        refine lv_aload_n B.1 B.2.1 dX2_build_63 rfl (lv_at hl 2 rfl) ?_
        refine r_cg B hC (i := 3) (by decide) g0_F21 (C := RX2) (T := TX2) (n := 7) rfl iwX2_build_X2 1 (by decide) (index := 15) flX2_build_15 rfl (v := .ref (ad (5))) rfl dX2_build_64 ?_
        refine lv_iload_n B.1 B.2.1 dX2_build_67 rfl (lv_at hl 0 rfl) ?_
        refine lv_aload_n B.1 B.2.1 dX2_build_68 rfl (lv_at hl 3 rfl) ?_
        refine lv_iload_n B.1 B.2.1 dX2_build_69 rfl (lv_at hl 1 rfl) ?_
        refine lv_iconst (v := nI 2) B.1 B.2.1 dX2_build_70 (by decide) ?_
        refine lv_iadd B.1 B.2.1 dX2_build_71 ?_
        refine r_tI (y := nI (i + 2)) (nI_add _ _) ?_
        refine r_calli B hC hl.1 (1) 7 rfl rfl (by decide) x0G_F21 (As := [.int (nI (i + 2))]) (ctX7_figureAt l g lo ad (TextC.keep hT (x := 3) (y := 8) (fun i hi => by rw [eF21, va_up_ne _ _ (by omega)]; rw [hs i (by omega)]) (by decide)) ok (i := (i + 2)) (by omega)) gX2_build_X7_figureAt rfl (n := 1) rfl (by decide +kernel) ⟨Nat.le_of_ble_eq_true rfl, Nat.le_of_ble_eq_true rfl⟩ ⟨Nat.zero_le _, Nat.zero_le _⟩ rfl (Nat.le_of_ble_eq_true rfl) dX2_build_72 (fun r72 F22 H locs hp72 hC => ?_)
        obtain ⟨er, eF⟩ := hp72
        subst er
        rw [eF] at hC
        refine r_tI (y := nI (fig v (i + 2))) (hf2.1) ?_
        refine r_cast B hC (i := 5) (by decide) g2_F21 (j := p) (by omega) (by decide) dX2_build_75 ?_
        intro H locs hC
        obtain ⟨F22, eF22⟩ : ∃ f : Nat → va_E, f = va_up F21 (5) (.inl (g.2.2 0, 10, .inl (fun j => nI (va_up (hin_ u) p (fig v (i + 2)) j)))) := ⟨_, rfl⟩
        have hC : Cu g lo 196 ad F22 ss ss.heap H locs := by rw [eF22]; exact (by rw [← upd_nI (hin_ u) p (fig v (i + 2))]; exact hC)
        have k5_F22 : F22 5 = .inl (g.2.2 0, 10, .inl (fun j => nI (va_up (hin_ u) p (fig v (i + 2)) j))) := by rw [eF22]; exact va_up_self _ _ _
        have g0_F22 : F22 3 = .inr (2, [.ref (ad (4)), .ref (ad (5)), .ref (ad (6)), .ref (ad (7)), .int (nI (hn u)), .int (nI (hpu u)), .int (nI (hho u))]) := by rw [eF22, va_up_ne _ _ (by decide)]; exact g0_F21
        have g3_F22 : F22 6 = .inl (g.2.2 0, 10, .inl (fun j => oI (hre u j))) := by rw [eF22, va_up_ne _ _ (by decide)]; exact g3_F21
        have g4_F22 : F22 7 = .inl (g.2.2 0, 10, .inl (fun j => oI (hsh u j))) := by rw [eF22, va_up_ne _ _ (by decide)]; exact g4_F21
        have x0G_F22 : F22 1 = .inr (7, [.ref (ad (2)), .int (nI (tn v))]) := by rw [eF22, va_up_ne _ _ (by decide)]; exact x0G_F21
        have k4_F22 : F22 4 = .inl (g.2.2 0, 10, .inl (fun j => nI (va_up (hle u) p (fig v (i + 1)) j))) := by rw [eF22, va_up_ne _ _ (by decide)]; exact k4_F21
        refine lv_aload_n B.1 B.2.1 dX2_build_76 rfl (lv_at hl 2 rfl) ?_
        refine r_cg B hC (i := 3) (by decide) g0_F22 (C := RX2) (T := TX2) (n := 7) rfl iwX2_build_X2 2 (by decide) (index := 18) flX2_build_18 rfl (v := .ref (ad (6))) rfl dX2_build_77 ?_
        refine lv_iload_n B.1 B.2.1 dX2_build_80 rfl (lv_at hl 0 rfl) ?_
        refine lv_aload_n B.1 B.2.1 dX2_build_81 rfl (lv_at hl 3 rfl) ?_
        refine lv_iload_n B.1 B.2.1 dX2_build_82 rfl (lv_at hl 1 rfl) ?_
        refine lv_iconst (v := nI 3) B.1 B.2.1 dX2_build_83 (by decide) ?_
        refine lv_iadd B.1 B.2.1 dX2_build_84 ?_
        refine r_tI (y := nI (i + 3)) (nI_add _ _) ?_
        refine r_calli B hC hl.1 (1) 7 rfl rfl (by decide) x0G_F22 (As := [.int (nI (i + 3))]) (ctX7_byteAt l g lo ad (TextC.keep hT (x := 3) (y := 8) (fun i hi => by rw [eF22, va_up_ne _ _ (by omega)]; rw [eF21, va_up_ne _ _ (by omega)]; rw [hs i (by omega)]) (by decide)) ok (i := (i + 3)) (by omega)) gX2_build_X7_byteAt rfl (n := 1) rfl (by decide +kernel) ⟨Nat.le_of_ble_eq_true rfl, Nat.le_of_ble_eq_true rfl⟩ ⟨Nat.zero_le _, Nat.zero_le _⟩ rfl (Nat.le_of_ble_eq_true rfl) dX2_build_85 (fun r85 F23 H locs hp85 hC => ?_)
        obtain ⟨er, eF⟩ := hp85
        subst er
        rw [eF] at hC
        refine lv_bipush (v := nI 45) B.1 B.2.1 dX2_build_88 (by decide) ?_
        refine lv_icmp_ne (tgt := 98) B.1 B.2.1 dX2_build_90 (by decide) (fun c_90 => ?_) (fun c_90 => ?_)
        · have q_90 : ¬ tat v (i + 3) = some 45 := fun z => c_90 ((y1_eq ok (by decide)).mpr z)
          have hf3 := fig_ok (hfp.2.2.1.resolve_left q_90)
          refine lv_aload_n B.1 B.2.1 dX2_build_98 rfl (lv_at hl 3 rfl) ?_
          refine lv_iload_n B.1 B.2.1 dX2_build_99 rfl (lv_at hl 1 rfl) ?_
          refine lv_iconst (v := nI 3) B.1 B.2.1 dX2_build_100 (by decide) ?_
          refine lv_iadd B.1 B.2.1 dX2_build_101 ?_
          refine r_tI (y := nI (i + 3)) (nI_add _ _) ?_
          refine r_calli B hC hl.1 (1) 7 rfl rfl (by decide) x0G_F22 (As := [.int (nI (i + 3))]) (ctX7_figureAt l g lo ad (TextC.keep hT (x := 3) (y := 8) (fun i hi => by rw [eF22, va_up_ne _ _ (by omega)]; rw [eF21, va_up_ne _ _ (by omega)]; rw [hs i (by omega)]) (by decide)) ok (i := (i + 3)) (by omega)) gX2_build_X7_figureAt rfl (n := 1) rfl (by decide +kernel) ⟨Nat.le_of_ble_eq_true rfl, Nat.le_of_ble_eq_true rfl⟩ ⟨Nat.zero_le _, Nat.zero_le _⟩ rfl (Nat.le_of_ble_eq_true rfl) dX2_build_102 (fun r102 F23 H locs hp102 hC => ?_)
          obtain ⟨er, eF⟩ := hp102
          subst er
          rw [eF] at hC
          refine r_tI (y := nI (fig v (i + 3))) (hf3.1) ?_
          refine r_cast B hC (i := 6) (by decide) g3_F22 (j := p) (by omega) (by decide) dX2_build_105 ?_
          intro H locs hC
          obtain ⟨F23, eF23⟩ : ∃ f : Nat → va_E, f = va_up F22 (6) (.inl (g.2.2 0, 10, .inl (fun j => oI (va_up (hre u) p (some (fig v (i + 3))) j)))) := ⟨_, rfl⟩
          have hC : Cu g lo 196 ad F23 ss ss.heap H locs := by rw [eF23]; exact (by rw [← upd_oI (hre u) p (some (fig v (i + 3)))]; exact hC)
          have k6_F23 : F23 6 = .inl (g.2.2 0, 10, .inl (fun j => oI (va_up (hre u) p (some (fig v (i + 3))) j))) := by rw [eF23]; exact va_up_self _ _ _
          have g0_F23 : F23 3 = .inr (2, [.ref (ad (4)), .ref (ad (5)), .ref (ad (6)), .ref (ad (7)), .int (nI (hn u)), .int (nI (hpu u)), .int (nI (hho u))]) := by rw [eF23, va_up_ne _ _ (by decide)]; exact g0_F22
          have g4_F23 : F23 7 = .inl (g.2.2 0, 10, .inl (fun j => oI (hsh u j))) := by rw [eF23, va_up_ne _ _ (by decide)]; exact g4_F22
          have x0G_F23 : F23 1 = .inr (7, [.ref (ad (2)), .int (nI (tn v))]) := by rw [eF23, va_up_ne _ _ (by decide)]; exact x0G_F22
          have k4_F23 : F23 4 = .inl (g.2.2 0, 10, .inl (fun j => nI (va_up (hle u) p (fig v (i + 1)) j))) := by rw [eF23, va_up_ne _ _ (by decide)]; exact k4_F22
          have k5_F23 : F23 5 = .inl (g.2.2 0, 10, .inl (fun j => nI (va_up (hin_ u) p (fig v (i + 2)) j))) := by rw [eF23, va_up_ne _ _ (by decide)]; exact k5_F22
          refine lv_aload_n B.1 B.2.1 dX2_build_106 rfl (lv_at hl 2 rfl) ?_
          refine r_cg B hC (i := 3) (by decide) g0_F23 (C := RX2) (T := TX2) (n := 7) rfl iwX2_build_X2 3 (by decide) (index := 21) flX2_build_21 rfl (v := .ref (ad (7))) rfl dX2_build_107 ?_
          refine lv_iload_n B.1 B.2.1 dX2_build_110 rfl (lv_at hl 0 rfl) ?_
          refine lv_aload_n B.1 B.2.1 dX2_build_111 rfl (lv_at hl 3 rfl) ?_
          refine lv_iload_n B.1 B.2.1 dX2_build_112 rfl (lv_at hl 1 rfl) ?_
          refine r_calli B hC hl.1 (1) 7 rfl rfl (by decide) x0G_F23 (As := [.int (nI i)]) (ctX7_isFilledPlace l g lo ad (TextC.keep hT (x := 3) (y := 8) (fun i hi => by rw [eF23, va_up_ne _ _ (by omega)]; rw [eF22, va_up_ne _ _ (by omega)]; rw [eF21, va_up_ne _ _ (by omega)]; rw [hs i (by omega)]) (by decide)) ok (i := i) (by omega)) gX2_build_X7_isFilledPlace rfl (n := 1) rfl (by decide +kernel) ⟨Nat.le_of_ble_eq_true rfl, Nat.le_of_ble_eq_true rfl⟩ ⟨Nat.zero_le _, Nat.zero_le _⟩ rfl (Nat.le_of_ble_eq_true rfl) dX2_build_113 (fun r113 F24 H locs hp113 hC => ?_)
          obtain ⟨er, eF⟩ := hp113
          subst er
          rw [eF] at hC
          refine lv_if_eq (tgt := 129) B.1 B.2.1 dX2_build_116 (by decide) (fun c_116 => ?_) (fun c_116 => ?_)
          · have q_116 : ¬ tat v i = some 80 := of_decide_eq_false (bI_f.mp c_116)
            refine lv_bipush (v := (-9)) B.1 B.2.1 dX2_build_129 (by decide) ?_
            refine r_cast B hC (i := 7) (by decide) g4_F23 (j := p) (by omega) (by decide) dX2_build_131 ?_
            intro H locs hC
            obtain ⟨F24, eF24⟩ : ∃ f : Nat → va_E, f = va_up F23 (7) (.inl (g.2.2 0, 10, .inl (fun j => oI (va_up (hsh u) p none j)))) := ⟨_, rfl⟩
            have hC : Cu g lo 196 ad F24 ss ss.heap H locs := by rw [eF24]; exact (by rw [← upd_oI (hsh u) p none]; exact hC)
            have k7_F24 : F24 7 = .inl (g.2.2 0, 10, .inl (fun j => oI (va_up (hsh u) p none j))) := by rw [eF24]; exact va_up_self _ _ _
            have g0_F24 : F24 3 = .inr (2, [.ref (ad (4)), .ref (ad (5)), .ref (ad (6)), .ref (ad (7)), .int (nI (hn u)), .int (nI (hpu u)), .int (nI (hho u))]) := by rw [eF24, va_up_ne _ _ (by decide)]; exact g0_F23
            have x0G_F24 : F24 1 = .inr (7, [.ref (ad (2)), .int (nI (tn v))]) := by rw [eF24, va_up_ne _ _ (by decide)]; exact x0G_F23
            have k4_F24 : F24 4 = .inl (g.2.2 0, 10, .inl (fun j => nI (va_up (hle u) p (fig v (i + 1)) j))) := by rw [eF24, va_up_ne _ _ (by decide)]; exact k4_F23
            have k5_F24 : F24 5 = .inl (g.2.2 0, 10, .inl (fun j => nI (va_up (hin_ u) p (fig v (i + 2)) j))) := by rw [eF24, va_up_ne _ _ (by decide)]; exact k5_F23
            have k6_F24 : F24 6 = .inl (g.2.2 0, 10, .inl (fun j => oI (va_up (hre u) p (some (fig v (i + 3))) j))) := by rw [eF24, va_up_ne _ _ (by decide)]; exact k6_F23
            refine lv_aload_n B.1 B.2.1 dX2_build_132 rfl (lv_at hl 2 rfl) ?_
            refine lv_iload_n B.1 B.2.1 dX2_build_133 rfl (lv_at hl 0 rfl) ?_
            refine lv_iconst (v := nI 1) B.1 B.2.1 dX2_build_134 (by decide) ?_
            refine lv_iadd B.1 B.2.1 dX2_build_135 ?_
            refine r_tI (y := nI (p + 1)) (nI_add _ _) ?_
            refine r_cp B hC (i := 3) (by decide) g0_F24 tyX2 tyX2_ok nmX2 (C := RX2) (T := TX2) rfl iwX2_build_X2 4 (by decide) (index := 24) flX2_build_24 rfl rfl (v := .int (nI (p + 1))) (rfl) (rfl) (Nat.le_of_ble_eq_true rfl) dX2_build_136 ?_
            intro H locs hC
            obtain ⟨F25, eF25⟩ : ∃ f : Nat → va_E, f = va_up F24 (3) (.inr (2, [.ref (ad (4)), .ref (ad (5)), .ref (ad (6)), .ref (ad (7)), .int (nI (p + 1)), .int (nI (hpu u)), .int (nI (hho u))])) := ⟨_, rfl⟩
            have hC : Cu g lo 196 ad F25 ss ss.heap H locs := by rw [eF25]; exact hC
            have k3_F25 : F25 3 = .inr (2, [.ref (ad (4)), .ref (ad (5)), .ref (ad (6)), .ref (ad (7)), .int (nI (p + 1)), .int (nI (hpu u)), .int (nI (hho u))]) := by rw [eF25]; exact va_up_self _ _ _
            have x0G_F25 : F25 1 = .inr (7, [.ref (ad (2)), .int (nI (tn v))]) := by rw [eF25, va_up_ne _ _ (by decide)]; exact x0G_F24
            have k4_F25 : F25 4 = .inl (g.2.2 0, 10, .inl (fun j => nI (va_up (hle u) p (fig v (i + 1)) j))) := by rw [eF25, va_up_ne _ _ (by decide)]; exact k4_F24
            have k5_F25 : F25 5 = .inl (g.2.2 0, 10, .inl (fun j => nI (va_up (hin_ u) p (fig v (i + 2)) j))) := by rw [eF25, va_up_ne _ _ (by decide)]; exact k5_F24
            have k6_F25 : F25 6 = .inl (g.2.2 0, 10, .inl (fun j => oI (va_up (hre u) p (some (fig v (i + 3))) j))) := by rw [eF25, va_up_ne _ _ (by decide)]; exact k6_F24
            have k7_F25 : F25 7 = .inl (g.2.2 0, 10, .inl (fun j => oI (va_up (hsh u) p none j))) := by rw [eF25, va_up_ne _ _ (by decide)]; exact k7_F24
            refine lv_iload_n B.1 B.2.1 dX2_build_139 rfl (lv_at hl 1 rfl) ?_
            refine lv_aload_n B.1 B.2.1 dX2_build_140 rfl (lv_at hl 3 rfl) ?_
            refine lv_iload_n B.1 B.2.1 dX2_build_141 rfl (lv_at hl 1 rfl) ?_
            refine r_calli B hC hl.1 (1) 7 rfl rfl (by decide) x0G_F25 (As := [.int (nI i)]) (ctX7_bytesOfPlace l g lo ad (TextC.keep hT (x := 3) (y := 8) (fun i hi => by rw [eF25, va_up_ne _ _ (by omega)]; rw [eF24, va_up_ne _ _ (by omega)]; rw [eF23, va_up_ne _ _ (by omega)]; rw [eF22, va_up_ne _ _ (by omega)]; rw [eF21, va_up_ne _ _ (by omega)]; rw [hs i (by omega)]) (by decide)) ok (i := i) (by omega)) gX2_build_X7_bytesOfPlace rfl (n := 1) rfl (by decide +kernel) ⟨Nat.le_of_ble_eq_true rfl, Nat.le_of_ble_eq_true rfl⟩ ⟨Nat.zero_le _, Nat.zero_le _⟩ rfl (Nat.le_of_ble_eq_true rfl) dX2_build_142 (fun r142 F26 H locs hp142 hC => ?_)
            obtain ⟨er, eF⟩ := hp142
            subst er
            rw [eF] at hC
            refine lv_iadd B.1 B.2.1 dX2_build_145 ?_
            refine r_tI (y := nI (i + (bop v i))) (nI_add _ _) ?_
            refine lv_istore_n (lv' := [(2, .int (nI (i + (bop v i)))), (3, .int (nI p)), (0, .ref (ad (3))), (1, .ref (ad (1)))]) B.1 B.2.1 dX2_build_146 rfl hl (by decide) rfl (fun ls hl => ?_)
            refine lv_iinc (v := nI (p + 1)) (lv' := [(3, .int (nI (p + 1))), (2, .int (nI (i + (bop v i)))), (0, .ref (ad (3))), (1, .ref (ad (1)))]) B.1 B.2.1 dX2_build_147 hl (k := 1) rfl (nI_1 _) (by decide) rfl (fun ls hl => ?_)
            refine lv_goto (tgt := 36) B.1 B.2.1 dX2_build_150 (by decide) ?_
            exact ih36 (p + 1) (i + bop v i) (bstep v u i p) F25 (by omega) (by omega) ⟨k3_F25, k4_F25, k5_F25, (show F25 6 = (.inl (g.2.2 0, 10, .inl (fun j => oI (va_up (hre u) p (reT v i) j))) : va_E) by rw [show reT v i = some (fig v (i + 3)) from by rw [reT, if_neg q_90]]; exact k6_F25), (show F25 7 = (.inl (g.2.2 0, 10, .inl (fun j => oI (va_up (hsh u) p (shT v i) j))) : va_E) by rw [show shT v i = none from by rw [shT, if_neg q_116]]; exact k7_F25)⟩ hfr.2 (by rw [he, buildF, if_pos (by omega)]) (by rw [eF25]; exact Same.up (by rw [eF24]; exact Same.up (by rw [eF23]; exact Same.up (by rw [eF22]; exact Same.up (by rw [eF21]; exact Same.up (Same.wide hs (by omega) (by omega)) (by omega) (by omega)) (by omega) (by omega)) (by omega) (by omega)) (by omega) (by omega)) (by omega) (by omega)) _ _ ls hC (lv_sub hl [0, 1, 2, 3] rfl)
          · have q_116 : tat v i = some 80 := of_decide_eq_true (bI_t.mp c_116)
            have hf4 := fig_ok (hfp.2.2.2 q_116).1
            refine lv_aload_n B.1 B.2.1 dX2_build_119 rfl (lv_at hl 3 rfl) ?_
            refine lv_iload_n B.1 B.2.1 dX2_build_120 rfl (lv_at hl 1 rfl) ?_
            refine lv_iconst (v := nI 4) B.1 B.2.1 dX2_build_121 (by decide) ?_
            refine lv_iadd B.1 B.2.1 dX2_build_122 ?_
            refine r_tI (y := nI (i + 4)) (nI_add _ _) ?_
            refine r_calli B hC hl.1 (1) 7 rfl rfl (by decide) x0G_F23 (As := [.int (nI (i + 4))]) (ctX7_figureAt l g lo ad (TextC.keep hT (x := 3) (y := 8) (fun i hi => by rw [eF23, va_up_ne _ _ (by omega)]; rw [eF22, va_up_ne _ _ (by omega)]; rw [eF21, va_up_ne _ _ (by omega)]; rw [hs i (by omega)]) (by decide)) ok (i := (i + 4)) (by omega)) gX2_build_X7_figureAt rfl (n := 1) rfl (by decide +kernel) ⟨Nat.le_of_ble_eq_true rfl, Nat.le_of_ble_eq_true rfl⟩ ⟨Nat.zero_le _, Nat.zero_le _⟩ rfl (Nat.le_of_ble_eq_true rfl) dX2_build_123 (fun r123 F24 H locs hp123 hC => ?_)
            obtain ⟨er, eF⟩ := hp123
            subst er
            rw [eF] at hC
            refine r_tI (y := nI (fig v (i + 4))) (hf4.1) ?_
            refine lv_goto (tgt := 131) B.1 B.2.1 dX2_build_126 (by decide) ?_
            refine r_cast B hC (i := 7) (by decide) g4_F23 (j := p) (by omega) (by decide) dX2_build_131 ?_
            intro H locs hC
            obtain ⟨F24, eF24⟩ : ∃ f : Nat → va_E, f = va_up F23 (7) (.inl (g.2.2 0, 10, .inl (fun j => oI (va_up (hsh u) p (some (fig v (i + 4))) j)))) := ⟨_, rfl⟩
            have hC : Cu g lo 196 ad F24 ss ss.heap H locs := by rw [eF24]; exact (by rw [← upd_oI (hsh u) p (some (fig v (i + 4)))]; exact hC)
            have k7_F24 : F24 7 = .inl (g.2.2 0, 10, .inl (fun j => oI (va_up (hsh u) p (some (fig v (i + 4))) j))) := by rw [eF24]; exact va_up_self _ _ _
            have g0_F24 : F24 3 = .inr (2, [.ref (ad (4)), .ref (ad (5)), .ref (ad (6)), .ref (ad (7)), .int (nI (hn u)), .int (nI (hpu u)), .int (nI (hho u))]) := by rw [eF24, va_up_ne _ _ (by decide)]; exact g0_F23
            have x0G_F24 : F24 1 = .inr (7, [.ref (ad (2)), .int (nI (tn v))]) := by rw [eF24, va_up_ne _ _ (by decide)]; exact x0G_F23
            have k4_F24 : F24 4 = .inl (g.2.2 0, 10, .inl (fun j => nI (va_up (hle u) p (fig v (i + 1)) j))) := by rw [eF24, va_up_ne _ _ (by decide)]; exact k4_F23
            have k5_F24 : F24 5 = .inl (g.2.2 0, 10, .inl (fun j => nI (va_up (hin_ u) p (fig v (i + 2)) j))) := by rw [eF24, va_up_ne _ _ (by decide)]; exact k5_F23
            have k6_F24 : F24 6 = .inl (g.2.2 0, 10, .inl (fun j => oI (va_up (hre u) p (some (fig v (i + 3))) j))) := by rw [eF24, va_up_ne _ _ (by decide)]; exact k6_F23
            refine lv_aload_n B.1 B.2.1 dX2_build_132 rfl (lv_at hl 2 rfl) ?_
            refine lv_iload_n B.1 B.2.1 dX2_build_133 rfl (lv_at hl 0 rfl) ?_
            refine lv_iconst (v := nI 1) B.1 B.2.1 dX2_build_134 (by decide) ?_
            refine lv_iadd B.1 B.2.1 dX2_build_135 ?_
            refine r_tI (y := nI (p + 1)) (nI_add _ _) ?_
            refine r_cp B hC (i := 3) (by decide) g0_F24 tyX2 tyX2_ok nmX2 (C := RX2) (T := TX2) rfl iwX2_build_X2 4 (by decide) (index := 24) flX2_build_24 rfl rfl (v := .int (nI (p + 1))) (rfl) (rfl) (Nat.le_of_ble_eq_true rfl) dX2_build_136 ?_
            intro H locs hC
            obtain ⟨F25, eF25⟩ : ∃ f : Nat → va_E, f = va_up F24 (3) (.inr (2, [.ref (ad (4)), .ref (ad (5)), .ref (ad (6)), .ref (ad (7)), .int (nI (p + 1)), .int (nI (hpu u)), .int (nI (hho u))])) := ⟨_, rfl⟩
            have hC : Cu g lo 196 ad F25 ss ss.heap H locs := by rw [eF25]; exact hC
            have k3_F25 : F25 3 = .inr (2, [.ref (ad (4)), .ref (ad (5)), .ref (ad (6)), .ref (ad (7)), .int (nI (p + 1)), .int (nI (hpu u)), .int (nI (hho u))]) := by rw [eF25]; exact va_up_self _ _ _
            have x0G_F25 : F25 1 = .inr (7, [.ref (ad (2)), .int (nI (tn v))]) := by rw [eF25, va_up_ne _ _ (by decide)]; exact x0G_F24
            have k4_F25 : F25 4 = .inl (g.2.2 0, 10, .inl (fun j => nI (va_up (hle u) p (fig v (i + 1)) j))) := by rw [eF25, va_up_ne _ _ (by decide)]; exact k4_F24
            have k5_F25 : F25 5 = .inl (g.2.2 0, 10, .inl (fun j => nI (va_up (hin_ u) p (fig v (i + 2)) j))) := by rw [eF25, va_up_ne _ _ (by decide)]; exact k5_F24
            have k6_F25 : F25 6 = .inl (g.2.2 0, 10, .inl (fun j => oI (va_up (hre u) p (some (fig v (i + 3))) j))) := by rw [eF25, va_up_ne _ _ (by decide)]; exact k6_F24
            have k7_F25 : F25 7 = .inl (g.2.2 0, 10, .inl (fun j => oI (va_up (hsh u) p (some (fig v (i + 4))) j))) := by rw [eF25, va_up_ne _ _ (by decide)]; exact k7_F24
            refine lv_iload_n B.1 B.2.1 dX2_build_139 rfl (lv_at hl 1 rfl) ?_
            refine lv_aload_n B.1 B.2.1 dX2_build_140 rfl (lv_at hl 3 rfl) ?_
            refine lv_iload_n B.1 B.2.1 dX2_build_141 rfl (lv_at hl 1 rfl) ?_
            refine r_calli B hC hl.1 (1) 7 rfl rfl (by decide) x0G_F25 (As := [.int (nI i)]) (ctX7_bytesOfPlace l g lo ad (TextC.keep hT (x := 3) (y := 8) (fun i hi => by rw [eF25, va_up_ne _ _ (by omega)]; rw [eF24, va_up_ne _ _ (by omega)]; rw [eF23, va_up_ne _ _ (by omega)]; rw [eF22, va_up_ne _ _ (by omega)]; rw [eF21, va_up_ne _ _ (by omega)]; rw [hs i (by omega)]) (by decide)) ok (i := i) (by omega)) gX2_build_X7_bytesOfPlace rfl (n := 1) rfl (by decide +kernel) ⟨Nat.le_of_ble_eq_true rfl, Nat.le_of_ble_eq_true rfl⟩ ⟨Nat.zero_le _, Nat.zero_le _⟩ rfl (Nat.le_of_ble_eq_true rfl) dX2_build_142 (fun r142 F26 H locs hp142 hC => ?_)
            obtain ⟨er, eF⟩ := hp142
            subst er
            rw [eF] at hC
            refine lv_iadd B.1 B.2.1 dX2_build_145 ?_
            refine r_tI (y := nI (i + (bop v i))) (nI_add _ _) ?_
            refine lv_istore_n (lv' := [(2, .int (nI (i + (bop v i)))), (3, .int (nI p)), (0, .ref (ad (3))), (1, .ref (ad (1)))]) B.1 B.2.1 dX2_build_146 rfl hl (by decide) rfl (fun ls hl => ?_)
            refine lv_iinc (v := nI (p + 1)) (lv' := [(3, .int (nI (p + 1))), (2, .int (nI (i + (bop v i)))), (0, .ref (ad (3))), (1, .ref (ad (1)))]) B.1 B.2.1 dX2_build_147 hl (k := 1) rfl (nI_1 _) (by decide) rfl (fun ls hl => ?_)
            refine lv_goto (tgt := 36) B.1 B.2.1 dX2_build_150 (by decide) ?_
            exact ih36 (p + 1) (i + bop v i) (bstep v u i p) F25 (by omega) (by omega) ⟨k3_F25, k4_F25, k5_F25, (show F25 6 = (.inl (g.2.2 0, 10, .inl (fun j => oI (va_up (hre u) p (reT v i) j))) : va_E) by rw [show reT v i = some (fig v (i + 3)) from by rw [reT, if_neg q_90]]; exact k6_F25), (show F25 7 = (.inl (g.2.2 0, 10, .inl (fun j => oI (va_up (hsh u) p (shT v i) j))) : va_E) by rw [show shT v i = some (fig v (i + 4)) from by rw [shT, if_pos q_116]]; exact k7_F25)⟩ hfr.2 (by rw [he, buildF, if_pos (by omega)]) (by rw [eF25]; exact Same.up (by rw [eF24]; exact Same.up (by rw [eF23]; exact Same.up (by rw [eF22]; exact Same.up (by rw [eF21]; exact Same.up (Same.wide hs (by omega) (by omega)) (by omega) (by omega)) (by omega) (by omega)) (by omega) (by omega)) (by omega) (by omega)) (by omega) (by omega)) _ _ ls hC (lv_sub hl [0, 1, 2, 3] rfl)
        · have q_90 := (y1_eq ok (i := i + 3) (k := 45) (by decide)).mp c_90
          refine lv_bipush (v := (-9)) B.1 B.2.1 dX2_build_93 (by decide) ?_
          refine lv_goto (tgt := 105) B.1 B.2.1 dX2_build_95 (by decide) ?_
          refine r_cast B hC (i := 6) (by decide) g3_F22 (j := p) (by omega) (by decide) dX2_build_105 ?_
          intro H locs hC
          obtain ⟨F23, eF23⟩ : ∃ f : Nat → va_E, f = va_up F22 (6) (.inl (g.2.2 0, 10, .inl (fun j => oI (va_up (hre u) p none j)))) := ⟨_, rfl⟩
          have hC : Cu g lo 196 ad F23 ss ss.heap H locs := by rw [eF23]; exact (by rw [← upd_oI (hre u) p none]; exact hC)
          have k6_F23 : F23 6 = .inl (g.2.2 0, 10, .inl (fun j => oI (va_up (hre u) p none j))) := by rw [eF23]; exact va_up_self _ _ _
          have g0_F23 : F23 3 = .inr (2, [.ref (ad (4)), .ref (ad (5)), .ref (ad (6)), .ref (ad (7)), .int (nI (hn u)), .int (nI (hpu u)), .int (nI (hho u))]) := by rw [eF23, va_up_ne _ _ (by decide)]; exact g0_F22
          have g4_F23 : F23 7 = .inl (g.2.2 0, 10, .inl (fun j => oI (hsh u j))) := by rw [eF23, va_up_ne _ _ (by decide)]; exact g4_F22
          have x0G_F23 : F23 1 = .inr (7, [.ref (ad (2)), .int (nI (tn v))]) := by rw [eF23, va_up_ne _ _ (by decide)]; exact x0G_F22
          have k4_F23 : F23 4 = .inl (g.2.2 0, 10, .inl (fun j => nI (va_up (hle u) p (fig v (i + 1)) j))) := by rw [eF23, va_up_ne _ _ (by decide)]; exact k4_F22
          have k5_F23 : F23 5 = .inl (g.2.2 0, 10, .inl (fun j => nI (va_up (hin_ u) p (fig v (i + 2)) j))) := by rw [eF23, va_up_ne _ _ (by decide)]; exact k5_F22
          refine lv_aload_n B.1 B.2.1 dX2_build_106 rfl (lv_at hl 2 rfl) ?_
          refine r_cg B hC (i := 3) (by decide) g0_F23 (C := RX2) (T := TX2) (n := 7) rfl iwX2_build_X2 3 (by decide) (index := 21) flX2_build_21 rfl (v := .ref (ad (7))) rfl dX2_build_107 ?_
          refine lv_iload_n B.1 B.2.1 dX2_build_110 rfl (lv_at hl 0 rfl) ?_
          refine lv_aload_n B.1 B.2.1 dX2_build_111 rfl (lv_at hl 3 rfl) ?_
          refine lv_iload_n B.1 B.2.1 dX2_build_112 rfl (lv_at hl 1 rfl) ?_
          refine r_calli B hC hl.1 (1) 7 rfl rfl (by decide) x0G_F23 (As := [.int (nI i)]) (ctX7_isFilledPlace l g lo ad (TextC.keep hT (x := 3) (y := 8) (fun i hi => by rw [eF23, va_up_ne _ _ (by omega)]; rw [eF22, va_up_ne _ _ (by omega)]; rw [eF21, va_up_ne _ _ (by omega)]; rw [hs i (by omega)]) (by decide)) ok (i := i) (by omega)) gX2_build_X7_isFilledPlace rfl (n := 1) rfl (by decide +kernel) ⟨Nat.le_of_ble_eq_true rfl, Nat.le_of_ble_eq_true rfl⟩ ⟨Nat.zero_le _, Nat.zero_le _⟩ rfl (Nat.le_of_ble_eq_true rfl) dX2_build_113 (fun r113 F24 H locs hp113 hC => ?_)
          obtain ⟨er, eF⟩ := hp113
          subst er
          rw [eF] at hC
          refine lv_if_eq (tgt := 129) B.1 B.2.1 dX2_build_116 (by decide) (fun c_116 => ?_) (fun c_116 => ?_)
          · have q_116 : ¬ tat v i = some 80 := of_decide_eq_false (bI_f.mp c_116)
            refine lv_bipush (v := (-9)) B.1 B.2.1 dX2_build_129 (by decide) ?_
            refine r_cast B hC (i := 7) (by decide) g4_F23 (j := p) (by omega) (by decide) dX2_build_131 ?_
            intro H locs hC
            obtain ⟨F24, eF24⟩ : ∃ f : Nat → va_E, f = va_up F23 (7) (.inl (g.2.2 0, 10, .inl (fun j => oI (va_up (hsh u) p none j)))) := ⟨_, rfl⟩
            have hC : Cu g lo 196 ad F24 ss ss.heap H locs := by rw [eF24]; exact (by rw [← upd_oI (hsh u) p none]; exact hC)
            have k7_F24 : F24 7 = .inl (g.2.2 0, 10, .inl (fun j => oI (va_up (hsh u) p none j))) := by rw [eF24]; exact va_up_self _ _ _
            have g0_F24 : F24 3 = .inr (2, [.ref (ad (4)), .ref (ad (5)), .ref (ad (6)), .ref (ad (7)), .int (nI (hn u)), .int (nI (hpu u)), .int (nI (hho u))]) := by rw [eF24, va_up_ne _ _ (by decide)]; exact g0_F23
            have x0G_F24 : F24 1 = .inr (7, [.ref (ad (2)), .int (nI (tn v))]) := by rw [eF24, va_up_ne _ _ (by decide)]; exact x0G_F23
            have k4_F24 : F24 4 = .inl (g.2.2 0, 10, .inl (fun j => nI (va_up (hle u) p (fig v (i + 1)) j))) := by rw [eF24, va_up_ne _ _ (by decide)]; exact k4_F23
            have k5_F24 : F24 5 = .inl (g.2.2 0, 10, .inl (fun j => nI (va_up (hin_ u) p (fig v (i + 2)) j))) := by rw [eF24, va_up_ne _ _ (by decide)]; exact k5_F23
            have k6_F24 : F24 6 = .inl (g.2.2 0, 10, .inl (fun j => oI (va_up (hre u) p none j))) := by rw [eF24, va_up_ne _ _ (by decide)]; exact k6_F23
            refine lv_aload_n B.1 B.2.1 dX2_build_132 rfl (lv_at hl 2 rfl) ?_
            refine lv_iload_n B.1 B.2.1 dX2_build_133 rfl (lv_at hl 0 rfl) ?_
            refine lv_iconst (v := nI 1) B.1 B.2.1 dX2_build_134 (by decide) ?_
            refine lv_iadd B.1 B.2.1 dX2_build_135 ?_
            refine r_tI (y := nI (p + 1)) (nI_add _ _) ?_
            refine r_cp B hC (i := 3) (by decide) g0_F24 tyX2 tyX2_ok nmX2 (C := RX2) (T := TX2) rfl iwX2_build_X2 4 (by decide) (index := 24) flX2_build_24 rfl rfl (v := .int (nI (p + 1))) (rfl) (rfl) (Nat.le_of_ble_eq_true rfl) dX2_build_136 ?_
            intro H locs hC
            obtain ⟨F25, eF25⟩ : ∃ f : Nat → va_E, f = va_up F24 (3) (.inr (2, [.ref (ad (4)), .ref (ad (5)), .ref (ad (6)), .ref (ad (7)), .int (nI (p + 1)), .int (nI (hpu u)), .int (nI (hho u))])) := ⟨_, rfl⟩
            have hC : Cu g lo 196 ad F25 ss ss.heap H locs := by rw [eF25]; exact hC
            have k3_F25 : F25 3 = .inr (2, [.ref (ad (4)), .ref (ad (5)), .ref (ad (6)), .ref (ad (7)), .int (nI (p + 1)), .int (nI (hpu u)), .int (nI (hho u))]) := by rw [eF25]; exact va_up_self _ _ _
            have x0G_F25 : F25 1 = .inr (7, [.ref (ad (2)), .int (nI (tn v))]) := by rw [eF25, va_up_ne _ _ (by decide)]; exact x0G_F24
            have k4_F25 : F25 4 = .inl (g.2.2 0, 10, .inl (fun j => nI (va_up (hle u) p (fig v (i + 1)) j))) := by rw [eF25, va_up_ne _ _ (by decide)]; exact k4_F24
            have k5_F25 : F25 5 = .inl (g.2.2 0, 10, .inl (fun j => nI (va_up (hin_ u) p (fig v (i + 2)) j))) := by rw [eF25, va_up_ne _ _ (by decide)]; exact k5_F24
            have k6_F25 : F25 6 = .inl (g.2.2 0, 10, .inl (fun j => oI (va_up (hre u) p none j))) := by rw [eF25, va_up_ne _ _ (by decide)]; exact k6_F24
            have k7_F25 : F25 7 = .inl (g.2.2 0, 10, .inl (fun j => oI (va_up (hsh u) p none j))) := by rw [eF25, va_up_ne _ _ (by decide)]; exact k7_F24
            refine lv_iload_n B.1 B.2.1 dX2_build_139 rfl (lv_at hl 1 rfl) ?_
            refine lv_aload_n B.1 B.2.1 dX2_build_140 rfl (lv_at hl 3 rfl) ?_
            refine lv_iload_n B.1 B.2.1 dX2_build_141 rfl (lv_at hl 1 rfl) ?_
            refine r_calli B hC hl.1 (1) 7 rfl rfl (by decide) x0G_F25 (As := [.int (nI i)]) (ctX7_bytesOfPlace l g lo ad (TextC.keep hT (x := 3) (y := 8) (fun i hi => by rw [eF25, va_up_ne _ _ (by omega)]; rw [eF24, va_up_ne _ _ (by omega)]; rw [eF23, va_up_ne _ _ (by omega)]; rw [eF22, va_up_ne _ _ (by omega)]; rw [eF21, va_up_ne _ _ (by omega)]; rw [hs i (by omega)]) (by decide)) ok (i := i) (by omega)) gX2_build_X7_bytesOfPlace rfl (n := 1) rfl (by decide +kernel) ⟨Nat.le_of_ble_eq_true rfl, Nat.le_of_ble_eq_true rfl⟩ ⟨Nat.zero_le _, Nat.zero_le _⟩ rfl (Nat.le_of_ble_eq_true rfl) dX2_build_142 (fun r142 F26 H locs hp142 hC => ?_)
            obtain ⟨er, eF⟩ := hp142
            subst er
            rw [eF] at hC
            refine lv_iadd B.1 B.2.1 dX2_build_145 ?_
            refine r_tI (y := nI (i + (bop v i))) (nI_add _ _) ?_
            refine lv_istore_n (lv' := [(2, .int (nI (i + (bop v i)))), (3, .int (nI p)), (0, .ref (ad (3))), (1, .ref (ad (1)))]) B.1 B.2.1 dX2_build_146 rfl hl (by decide) rfl (fun ls hl => ?_)
            refine lv_iinc (v := nI (p + 1)) (lv' := [(3, .int (nI (p + 1))), (2, .int (nI (i + (bop v i)))), (0, .ref (ad (3))), (1, .ref (ad (1)))]) B.1 B.2.1 dX2_build_147 hl (k := 1) rfl (nI_1 _) (by decide) rfl (fun ls hl => ?_)
            refine lv_goto (tgt := 36) B.1 B.2.1 dX2_build_150 (by decide) ?_
            exact ih36 (p + 1) (i + bop v i) (bstep v u i p) F25 (by omega) (by omega) ⟨k3_F25, k4_F25, k5_F25, (show F25 6 = (.inl (g.2.2 0, 10, .inl (fun j => oI (va_up (hre u) p (reT v i) j))) : va_E) by rw [show reT v i = none from by rw [reT, if_pos q_90]]; exact k6_F25), (show F25 7 = (.inl (g.2.2 0, 10, .inl (fun j => oI (va_up (hsh u) p (shT v i) j))) : va_E) by rw [show shT v i = none from by rw [shT, if_neg q_116]]; exact k7_F25)⟩ hfr.2 (by rw [he, buildF, if_pos (by omega)]) (by rw [eF25]; exact Same.up (by rw [eF24]; exact Same.up (by rw [eF23]; exact Same.up (by rw [eF22]; exact Same.up (by rw [eF21]; exact Same.up (Same.wide hs (by omega) (by omega)) (by omega) (by omega)) (by omega) (by omega)) (by omega) (by omega)) (by omega) (by omega)) (by omega) (by omega)) _ _ ls hC (lv_sub hl [0, 1, 2, 3] rfl)
          · have q_116 : tat v i = some 80 := of_decide_eq_true (bI_t.mp c_116)
            have hf4 := fig_ok (hfp.2.2.2 q_116).1
            refine lv_aload_n B.1 B.2.1 dX2_build_119 rfl (lv_at hl 3 rfl) ?_
            refine lv_iload_n B.1 B.2.1 dX2_build_120 rfl (lv_at hl 1 rfl) ?_
            refine lv_iconst (v := nI 4) B.1 B.2.1 dX2_build_121 (by decide) ?_
            refine lv_iadd B.1 B.2.1 dX2_build_122 ?_
            refine r_tI (y := nI (i + 4)) (nI_add _ _) ?_
            refine r_calli B hC hl.1 (1) 7 rfl rfl (by decide) x0G_F23 (As := [.int (nI (i + 4))]) (ctX7_figureAt l g lo ad (TextC.keep hT (x := 3) (y := 8) (fun i hi => by rw [eF23, va_up_ne _ _ (by omega)]; rw [eF22, va_up_ne _ _ (by omega)]; rw [eF21, va_up_ne _ _ (by omega)]; rw [hs i (by omega)]) (by decide)) ok (i := (i + 4)) (by omega)) gX2_build_X7_figureAt rfl (n := 1) rfl (by decide +kernel) ⟨Nat.le_of_ble_eq_true rfl, Nat.le_of_ble_eq_true rfl⟩ ⟨Nat.zero_le _, Nat.zero_le _⟩ rfl (Nat.le_of_ble_eq_true rfl) dX2_build_123 (fun r123 F24 H locs hp123 hC => ?_)
            obtain ⟨er, eF⟩ := hp123
            subst er
            rw [eF] at hC
            refine r_tI (y := nI (fig v (i + 4))) (hf4.1) ?_
            refine lv_goto (tgt := 131) B.1 B.2.1 dX2_build_126 (by decide) ?_
            refine r_cast B hC (i := 7) (by decide) g4_F23 (j := p) (by omega) (by decide) dX2_build_131 ?_
            intro H locs hC
            obtain ⟨F24, eF24⟩ : ∃ f : Nat → va_E, f = va_up F23 (7) (.inl (g.2.2 0, 10, .inl (fun j => oI (va_up (hsh u) p (some (fig v (i + 4))) j)))) := ⟨_, rfl⟩
            have hC : Cu g lo 196 ad F24 ss ss.heap H locs := by rw [eF24]; exact (by rw [← upd_oI (hsh u) p (some (fig v (i + 4)))]; exact hC)
            have k7_F24 : F24 7 = .inl (g.2.2 0, 10, .inl (fun j => oI (va_up (hsh u) p (some (fig v (i + 4))) j))) := by rw [eF24]; exact va_up_self _ _ _
            have g0_F24 : F24 3 = .inr (2, [.ref (ad (4)), .ref (ad (5)), .ref (ad (6)), .ref (ad (7)), .int (nI (hn u)), .int (nI (hpu u)), .int (nI (hho u))]) := by rw [eF24, va_up_ne _ _ (by decide)]; exact g0_F23
            have x0G_F24 : F24 1 = .inr (7, [.ref (ad (2)), .int (nI (tn v))]) := by rw [eF24, va_up_ne _ _ (by decide)]; exact x0G_F23
            have k4_F24 : F24 4 = .inl (g.2.2 0, 10, .inl (fun j => nI (va_up (hle u) p (fig v (i + 1)) j))) := by rw [eF24, va_up_ne _ _ (by decide)]; exact k4_F23
            have k5_F24 : F24 5 = .inl (g.2.2 0, 10, .inl (fun j => nI (va_up (hin_ u) p (fig v (i + 2)) j))) := by rw [eF24, va_up_ne _ _ (by decide)]; exact k5_F23
            have k6_F24 : F24 6 = .inl (g.2.2 0, 10, .inl (fun j => oI (va_up (hre u) p none j))) := by rw [eF24, va_up_ne _ _ (by decide)]; exact k6_F23
            refine lv_aload_n B.1 B.2.1 dX2_build_132 rfl (lv_at hl 2 rfl) ?_
            refine lv_iload_n B.1 B.2.1 dX2_build_133 rfl (lv_at hl 0 rfl) ?_
            refine lv_iconst (v := nI 1) B.1 B.2.1 dX2_build_134 (by decide) ?_
            refine lv_iadd B.1 B.2.1 dX2_build_135 ?_
            refine r_tI (y := nI (p + 1)) (nI_add _ _) ?_
            refine r_cp B hC (i := 3) (by decide) g0_F24 tyX2 tyX2_ok nmX2 (C := RX2) (T := TX2) rfl iwX2_build_X2 4 (by decide) (index := 24) flX2_build_24 rfl rfl (v := .int (nI (p + 1))) (rfl) (rfl) (Nat.le_of_ble_eq_true rfl) dX2_build_136 ?_
            intro H locs hC
            obtain ⟨F25, eF25⟩ : ∃ f : Nat → va_E, f = va_up F24 (3) (.inr (2, [.ref (ad (4)), .ref (ad (5)), .ref (ad (6)), .ref (ad (7)), .int (nI (p + 1)), .int (nI (hpu u)), .int (nI (hho u))])) := ⟨_, rfl⟩
            have hC : Cu g lo 196 ad F25 ss ss.heap H locs := by rw [eF25]; exact hC
            have k3_F25 : F25 3 = .inr (2, [.ref (ad (4)), .ref (ad (5)), .ref (ad (6)), .ref (ad (7)), .int (nI (p + 1)), .int (nI (hpu u)), .int (nI (hho u))]) := by rw [eF25]; exact va_up_self _ _ _
            have x0G_F25 : F25 1 = .inr (7, [.ref (ad (2)), .int (nI (tn v))]) := by rw [eF25, va_up_ne _ _ (by decide)]; exact x0G_F24
            have k4_F25 : F25 4 = .inl (g.2.2 0, 10, .inl (fun j => nI (va_up (hle u) p (fig v (i + 1)) j))) := by rw [eF25, va_up_ne _ _ (by decide)]; exact k4_F24
            have k5_F25 : F25 5 = .inl (g.2.2 0, 10, .inl (fun j => nI (va_up (hin_ u) p (fig v (i + 2)) j))) := by rw [eF25, va_up_ne _ _ (by decide)]; exact k5_F24
            have k6_F25 : F25 6 = .inl (g.2.2 0, 10, .inl (fun j => oI (va_up (hre u) p none j))) := by rw [eF25, va_up_ne _ _ (by decide)]; exact k6_F24
            have k7_F25 : F25 7 = .inl (g.2.2 0, 10, .inl (fun j => oI (va_up (hsh u) p (some (fig v (i + 4))) j))) := by rw [eF25, va_up_ne _ _ (by decide)]; exact k7_F24
            refine lv_iload_n B.1 B.2.1 dX2_build_139 rfl (lv_at hl 1 rfl) ?_
            refine lv_aload_n B.1 B.2.1 dX2_build_140 rfl (lv_at hl 3 rfl) ?_
            refine lv_iload_n B.1 B.2.1 dX2_build_141 rfl (lv_at hl 1 rfl) ?_
            refine r_calli B hC hl.1 (1) 7 rfl rfl (by decide) x0G_F25 (As := [.int (nI i)]) (ctX7_bytesOfPlace l g lo ad (TextC.keep hT (x := 3) (y := 8) (fun i hi => by rw [eF25, va_up_ne _ _ (by omega)]; rw [eF24, va_up_ne _ _ (by omega)]; rw [eF23, va_up_ne _ _ (by omega)]; rw [eF22, va_up_ne _ _ (by omega)]; rw [eF21, va_up_ne _ _ (by omega)]; rw [hs i (by omega)]) (by decide)) ok (i := i) (by omega)) gX2_build_X7_bytesOfPlace rfl (n := 1) rfl (by decide +kernel) ⟨Nat.le_of_ble_eq_true rfl, Nat.le_of_ble_eq_true rfl⟩ ⟨Nat.zero_le _, Nat.zero_le _⟩ rfl (Nat.le_of_ble_eq_true rfl) dX2_build_142 (fun r142 F26 H locs hp142 hC => ?_)
            obtain ⟨er, eF⟩ := hp142
            subst er
            rw [eF] at hC
            refine lv_iadd B.1 B.2.1 dX2_build_145 ?_
            refine r_tI (y := nI (i + (bop v i))) (nI_add _ _) ?_
            refine lv_istore_n (lv' := [(2, .int (nI (i + (bop v i)))), (3, .int (nI p)), (0, .ref (ad (3))), (1, .ref (ad (1)))]) B.1 B.2.1 dX2_build_146 rfl hl (by decide) rfl (fun ls hl => ?_)
            refine lv_iinc (v := nI (p + 1)) (lv' := [(3, .int (nI (p + 1))), (2, .int (nI (i + (bop v i)))), (0, .ref (ad (3))), (1, .ref (ad (1)))]) B.1 B.2.1 dX2_build_147 hl (k := 1) rfl (nI_1 _) (by decide) rfl (fun ls hl => ?_)
            refine lv_goto (tgt := 36) B.1 B.2.1 dX2_build_150 (by decide) ?_
            exact ih36 (p + 1) (i + bop v i) (bstep v u i p) F25 (by omega) (by omega) ⟨k3_F25, k4_F25, k5_F25, (show F25 6 = (.inl (g.2.2 0, 10, .inl (fun j => oI (va_up (hre u) p (reT v i) j))) : va_E) by rw [show reT v i = none from by rw [reT, if_pos q_90]]; exact k6_F25), (show F25 7 = (.inl (g.2.2 0, 10, .inl (fun j => oI (va_up (hsh u) p (shT v i) j))) : va_E) by rw [show shT v i = some (fig v (i + 4)) from by rw [shT, if_pos q_116]]; exact k7_F25)⟩ hfr.2 (by rw [he, buildF, if_pos (by omega)]) (by rw [eF25]; exact Same.up (by rw [eF24]; exact Same.up (by rw [eF23]; exact Same.up (by rw [eF22]; exact Same.up (by rw [eF21]; exact Same.up (Same.wide hs (by omega) (by omega)) (by omega) (by omega)) (by omega) (by omega)) (by omega) (by omega)) (by omega) (by omega)) (by omega) (by omega)) _ _ ls hC (lv_sub hl [0, 1, 2, 3] rfl)
  exact loop36 10 0 4 (0, fig v 1, 10 * fig v 2 + fig v 3, hle h, hin_ h, hre h, hsh h) F3 (by decide) (by decide) ⟨k3_F3, g1_F3, g2_F3, g3_F3, g4_F3⟩ hfa0.1 rfl (by rw [eF3]; exact Same.up (by rw [eF2]; exact Same.up (by rw [eF1]; exact Same.up Same.rf (by omega) (by omega)) (by omega) (by omega)) (by omega) (by omega)) _ _ ls hC (lv_sub hl [0, 1, 2, 3] rfl)
