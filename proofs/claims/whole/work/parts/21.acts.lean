/-! THE ROW OF ACTS: a ring of 24 Loads -/
abbrev AV : Type := Nat × Nat × (Nat → LV)
def afi (a : AV) : Nat := a.1
def asz (a : AV) : Nat := a.2.1
def alo (a : AV) : Nat → LV := a.2.2
def ActH (g : Gx) (ad : Nat → Nat) (F : Nat → va_E) (fi sz : Nat) : Prop := F 18 = .inr (0, [.ref (ad 19), .int (nI fi), .int (nI sz)])
def ActR (g : Gx) (ad : Nat → Nat) (F : Nat → va_E) : Prop := F 19 = .inl (g.2.2 4, 24, .inr (.inr (.inr (.inr (fun k => some (ad (20 + 5 * k)))))))
def ActC (g : Gx) (ad : Nat → Nat) (F : Nat → va_E) (a : AV) : Prop := ActH g ad F (afi a) (asz a) ∧ ActR g ad F ∧ ∀ k, k < 24 → LoadC g ad F (20 + 5 * k) (alo a k)
def AOK (a : AV) : Prop := afi a < 24 ∧ asz a ≤ 24 ∧ ∀ k, k < 24 → CAN (alo a k)
theorem ActC.keep {g : Gx} {ad : Nat → Nat} {F F' : Nat → va_E} {a : AV} (h : ActC g ad F a) (hs : ∀ i, 18 ≤ i → i < 140 → F' i = F i) : ActC g ad F' a := by
  refine ⟨by rw [ActH, hs _ (by omega) (by omega)]; exact h.1, by rw [ActR, hs _ (by omega) (by omega)]; exact h.2.1, fun k hk => ?_⟩
  obtain ⟨h0, h1, h2, h3, h4⟩ := h.2.2 k hk
  exact ⟨by rw [hs _ (by omega) (by omega)]; exact h0, by rw [hs _ (by omega) (by omega)]; exact h1, by rw [hs _ (by omega) (by omega)]; exact h2, by rw [hs _ (by omega) (by omega)]; exact h3, by rw [hs _ (by omega) (by omega)]; exact h4⟩
theorem LoadC.at {g : Gx} {ad : Nat → Nat} {F F' : Nat → va_E} {b : Nat} {w : LV} (h : LoadC g ad F b w) (hs : ∀ i, b ≤ i → i < b + 5 → F' i = F i) : LoadC g ad F' b w := by
  obtain ⟨h0, h1, h2, h3, h4⟩ := h
  exact ⟨by rw [hs _ (by omega) (by omega)]; exact h0, by rw [hs _ (by omega) (by omega)]; exact h1, by rw [hs _ (by omega) (by omega)]; exact h2, by rw [hs _ (by omega) (by omega)]; exact h3, by rw [hs _ (by omega) (by omega)]; exact h4⟩
theorem acts_upd {g : Gx} {ad : Nat → Nat} {F F' : Nat → va_E} {al : Nat → LV} {j : Nat} {w : LV} (h : ∀ k, k < 24 → LoadC g ad F (20 + 5 * k) (al k)) (hj : LoadC g ad F' (20 + 5 * j) w) (hs : ∀ i, 20 ≤ i → i < 140 → (i < 20 + 5 * j ∨ 25 + 5 * j ≤ i) → F' i = F i) : ∀ k, k < 24 → LoadC g ad F' (20 + 5 * k) (va_up al j w k) := by
  intro k hk
  by_cases e : k = j
  · subst e; rw [va_up_self]; exact hj
  · rw [va_up_ne _ _ e]
    exact (h k hk).at (fun i h1 h2 => hs i (by omega) (by omega) (by omega))
/-- remembered: the oldest goes if there are 24 -/
def remV (a : AV) (w : LV) : AV := if 24 ≤ asz a then ((afi a + 1) % 24, asz a, va_up (alo a) (((afi a + 1) % 24 + (asz a - 1)) % 24) w) else (afi a, asz a + 1, va_up (alo a) ((afi a + asz a) % 24) w)
def undV (a : AV) : LV := alo a ((afi a + (asz a - 1)) % 24)
theorem iwX0_behindLast_X0 : ∀ w ∈ u_ws RX0 TX0 3, w ∈ wsX0_behindLast := by decide +kernel
theorem flX0_behindLast_17 : Cond.fieldLink RX0 17 RX0 (TX0 1).2.1 (TX0 1).2.2.1 ∈ wsX0_behindLast := by decide +kernel
theorem flX0_behindLast_21 : Cond.fieldLink RX0 21 RX0 (TX0 2).2.1 (TX0 2).2.2.1 ∈ wsX0_behindLast := by decide +kernel
set_option maxHeartbeats 4000000 in
set_option maxRecDepth 100000 in
theorem ctX0_behindLast (l : Launch) (g : Gx) (lo : Nat) (ad : Nat → Nat) {F : Nat → va_E} {fi sz : Nat} (hA : ActH g ad F fi sz) (hf : fi < 24) (hz : sz ≤ 24) : MI l g lo 196 ad yX0_behindLast wsX0_behindLast 1 22 [.ref (ad (18))] F (fun r F' => r = nI ((fi + sz) % 24) ∧ F' = F) := by
  have a0 := hA; unfold ActH at a0
  refine enter (cc := cX0_behindLast) (maxL := 1) (ret := some .int) (own := RX0) (by decide +kernel) rfl rfl (Nat.le_of_ble_eq_true rfl) ?_
  intro pp ee ss mm below meth cc B hini hC ls hl
  have hl : lv_has ls 1 [(0, .ref (ad (18)))] := hl
  refine lv_aload_n B.1 B.2.1 dX0_behindLast_0 rfl (lv_at hl 0 rfl) ?_
  refine r_cg B hC (i := 18) (by decide) a0 (C := RX0) (T := TX0) (n := 3) rfl iwX0_behindLast_X0 1 (by decide) (index := 17) flX0_behindLast_17 rfl (v := .int (nI fi)) rfl dX0_behindLast_1 ?_
  refine lv_aload_n B.1 B.2.1 dX0_behindLast_4 rfl (lv_at hl 0 rfl) ?_
  refine r_cg B hC (i := 18) (by decide) a0 (C := RX0) (T := TX0) (n := 3) rfl iwX0_behindLast_X0 2 (by decide) (index := 21) flX0_behindLast_21 rfl (v := .int (nI sz)) rfl dX0_behindLast_5 ?_
  refine lv_iadd B.1 B.2.1 dX0_behindLast_8 ?_
  refine r_tI (y := nI (fi + sz)) (nI_add _ _) ?_
  refine lv_bipush (v := nI 24) B.1 B.2.1 dX0_behindLast_9 (by decide) ?_
  refine r_scalli B hC hl.1 (As := [.int (nI (fi + sz)), .int (nI 24)]) (ctJ9_floorMod l g lo ad (a := (fi + sz)) (by omega)) gX0_behindLast_J9_floorMod_7cf53 rfl (n := 2) rfl (by decide +kernel) ⟨Nat.le_of_ble_eq_true rfl, Nat.le_of_ble_eq_true rfl⟩ ⟨Nat.zero_le _, Nat.zero_le _⟩ rfl (Nat.le_of_ble_eq_true rfl) dX0_behindLast_11 (fun r11 F1 H locs hp11 hC => ?_)
  obtain ⟨er, eF⟩ := hp11
  subst er
  rw [eF] at hC
  exact r_eI B hC (v := nI ((fi + sz) % 24)) (⟨rfl, rfl⟩) dX0_behindLast_14
theorem iwX0_size_X0 : ∀ w ∈ u_ws RX0 TX0 3, w ∈ wsX0_size := by decide +kernel
theorem flX0_size_21 : Cond.fieldLink RX0 21 RX0 (TX0 2).2.1 (TX0 2).2.2.1 ∈ wsX0_size := by decide +kernel
set_option maxHeartbeats 4000000 in
set_option maxRecDepth 100000 in
theorem ctX0_size (l : Launch) (g : Gx) (lo : Nat) (ad : Nat → Nat) {F : Nat → va_E} {fi sz : Nat} (hA : ActH g ad F fi sz) (hf : fi < 24) (hz : sz ≤ 24) : MI l g lo 196 ad yX0_size wsX0_size 0 0 [.ref (ad (18))] F (fun r F' => r = nI sz ∧ F' = F) := by
  have a0 := hA; unfold ActH at a0
  refine enter (cc := cX0_size) (maxL := 1) (ret := some .int) (own := RX0) (by decide +kernel) rfl rfl (Nat.le_of_ble_eq_true rfl) ?_
  intro pp ee ss mm below meth cc B hini hC ls hl
  have hl : lv_has ls 1 [(0, .ref (ad (18)))] := hl
  refine lv_aload_n B.1 B.2.1 dX0_size_0 rfl (lv_at hl 0 rfl) ?_
  refine r_cg B hC (i := 18) (by decide) a0 (C := RX0) (T := TX0) (n := 3) rfl iwX0_size_X0 2 (by decide) (index := 21) flX0_size_21 rfl (v := .int (nI sz)) rfl dX0_size_1 ?_
  exact r_eI B hC (v := nI sz) (⟨rfl, rfl⟩) dX0_size_4
theorem iwX0_forgetAll_X0 : ∀ w ∈ u_ws RX0 TX0 3, w ∈ wsX0_forgetAll := by decide +kernel
theorem flX0_forgetAll_21 : Cond.fieldLink RX0 21 RX0 (TX0 2).2.1 (TX0 2).2.2.1 ∈ wsX0_forgetAll := by decide +kernel
set_option maxHeartbeats 4000000 in
set_option maxRecDepth 100000 in
theorem ctX0_forgetAll (l : Launch) (g : Gx) (lo : Nat) (ad : Nat → Nat) {F : Nat → va_E} {fi sz : Nat} (hA : ActH g ad F fi sz) (hf : fi < 24) (hz : sz ≤ 24) : MV l g lo 196 ad yX0_forgetAll wsX0_forgetAll 0 0 [.ref (ad (18))] F (fun F' => ActH g ad F' fi 0 ∧ Same 18 19 F F') := by
  have a0 := hA; unfold ActH at a0
  refine enter (cc := cX0_forgetAll) (maxL := 1) (ret := none) (own := RX0) (by decide +kernel) rfl rfl (Nat.le_of_ble_eq_true rfl) ?_
  intro pp ee ss mm below meth cc B hini hC ls hl
  have hl : lv_has ls 1 [(0, .ref (ad (18)))] := hl
  refine lv_aload_n B.1 B.2.1 dX0_forgetAll_0 rfl (lv_at hl 0 rfl) ?_
  refine lv_iconst (v := nI 0) B.1 B.2.1 dX0_forgetAll_1 (by decide) ?_
  refine r_cp B hC (i := 18) (by decide) a0 tyX0 tyX0_ok nmX0 (C := RX0) (T := TX0) rfl iwX0_forgetAll_X0 2 (by decide) (index := 21) flX0_forgetAll_21 rfl rfl (v := .int (nI 0)) (rfl) (rfl) (Nat.le_of_ble_eq_true rfl) dX0_forgetAll_2 ?_
  intro H locs hC
  obtain ⟨F1, eF1⟩ : ∃ f : Nat → va_E, f = va_up F (18) (.inr (0, [.ref (ad (19)), .int (nI fi), .int (nI 0)])) := ⟨_, rfl⟩
  have hC : Cu g lo 196 ad F1 ss ss.heap H locs := by rw [eF1]; exact hC
  have k18_F1 : F1 18 = .inr (0, [.ref (ad (19)), .int (nI fi), .int (nI 0)]) := by rw [eF1]; exact va_up_self _ _ _
  exact r_eV B hC (⟨k18_F1, (by rw [eF1]; exact Same.up Same.rf (by omega) (by omega))⟩) dX0_forgetAll_5
theorem iwX0_remember_X0 : ∀ w ∈ u_ws RX0 TX0 3, w ∈ wsX0_remember := by decide +kernel
theorem flX0_remember_11 : Cond.fieldLink RX0 11 RX0 (TX0 0).2.1 (TX0 0).2.2.1 ∈ wsX0_remember := by decide +kernel
theorem flX0_remember_17 : Cond.fieldLink RX0 17 RX0 (TX0 1).2.1 (TX0 1).2.2.1 ∈ wsX0_remember := by decide +kernel
theorem flX0_remember_21 : Cond.fieldLink RX0 21 RX0 (TX0 2).2.1 (TX0 2).2.2.1 ∈ wsX0_remember := by decide +kernel
set_option maxHeartbeats 4000000 in
set_option maxRecDepth 100000 in
theorem ctX0_remember (l : Launch) (g : Gx) (lo : Nat) (ad : Nat → Nat) {F : Nat → va_E} {a : AV} {w : LV} (hA : ActC g ad F a) (ok : AOK a) (hL : LoadC g ad F 8 w) (hc : CAN w) : MV l g lo 196 ad yX0_remember wsX0_remember 2 61 [.ref (ad (18)), .ref (ad (8))] F (fun F' => ActC g ad F' (remV a w) ∧ Same 18 140 F F') := by
  obtain ⟨a0, a1, aL⟩ := id hA
  unfold ActH at a0
  unfold ActR at a1
  have okf := ok.1
  have okz := ok.2.1
  obtain ⟨h0, h1, h2, h3, h4⟩ := id hL
  refine enter (cc := cX0_remember) (maxL := 2) (ret := none) (own := RX0) (by decide +kernel) rfl rfl (Nat.le_of_ble_eq_true rfl) ?_
  intro pp ee ss mm below meth cc B hini hC ls hl
  have hl : lv_has ls 2 [(0, .ref (ad (18))), (1, .ref (ad (8)))] := hl
  refine lv_aload_n B.1 B.2.1 dX0_remember_0 rfl (lv_at hl 0 rfl) ?_
  refine r_cg B hC (i := 18) (by decide) a0 (C := RX0) (T := TX0) (n := 3) rfl iwX0_remember_X0 2 (by decide) (index := 21) flX0_remember_21 rfl (v := .int (nI (asz a))) rfl dX0_remember_1 ?_
  refine lv_bipush (v := nI 24) B.1 B.2.1 dX0_remember_4 (by decide) ?_
  refine lv_icmp_lt (tgt := 34) B.1 B.2.1 dX0_remember_6 (by decide) (fun c_6 => ?_) (fun c_6 => ?_)
  · have q_6 : (asz a) < 24 := (nI_ltI (by omega) (by omega)).mp c_6
    refine lv_aload_n B.1 B.2.1 dX0_remember_34 rfl (lv_at hl 0 rfl) ?_
    refine r_cg B hC (i := 18) (by decide) a0 (C := RX0) (T := TX0) (n := 3) rfl iwX0_remember_X0 0 (by decide) (index := 11) flX0_remember_11 rfl (v := .ref (ad (19))) rfl dX0_remember_35 ?_
    refine lv_aload_n B.1 B.2.1 dX0_remember_38 rfl (lv_at hl 0 rfl) ?_
    refine r_calli B hC hl.1 (18) 0 rfl rfl (by decide) a0 (As := []) (ctX0_behindLast l g lo ad (fi := (afi a)) (sz := (asz a)) a0 (by omega) (by omega)) gX0_remember_X0_behindLast rfl (n := 0) rfl (by decide +kernel) ⟨Nat.le_of_ble_eq_true rfl, Nat.le_of_ble_eq_true rfl⟩ ⟨Nat.zero_le _, Nat.zero_le _⟩ rfl (Nat.le_of_ble_eq_true rfl) dX0_remember_39 (fun r39 F1 H locs hp39 hC => ?_)
    obtain ⟨er, eF⟩ := hp39
    subst er
    rw [eF] at hC
    refine r_cqald B hC (i := 19) (by decide) a1 (j := (((afi a) + (asz a)) % 24)) (by omega) (by decide) (t := ad (20 + 5 * (((afi a) + (asz a)) % 24))) (rfl) dX0_remember_42 ?_
    refine lv_aload_n B.1 B.2.1 dX0_remember_43 rfl (lv_at hl 1 rfl) ?_
    have hj44 : (((afi a) + (asz a)) % 24) < 24 := by omega
    have aLj : LoadC g ad F (20 + 5 * (((afi a) + (asz a)) % 24)) (alo a (((afi a) + (asz a)) % 24)) := (aL (((afi a) + (asz a)) % 24) hj44).at (fun i h1 h2 => by rfl)
    have hLn : LoadC g ad F 8 w := ⟨h0, h1, h2, h3, h4⟩
    obtain ⟨n0, n1, n2, n3, n4⟩ := id aLj
    refine r_callv B hC hl.1 (20 + 5 * (((afi a) + (asz a)) % 24)) 3 rfl rfl (by omega) n0 (As := [.ref (ad (8))]) (ctX3_copyFrom l g lo ad (b := 20 + 5 * (((afi a) + (asz a)) % 24)) (by omega) aLj (b2 := 8) (by omega) (by omega) hLn (ok.2.2 (((afi a) + (asz a)) % 24) hj44) hc) gX0_remember_X3_copyFrom rfl (n := 1) rfl (by decide +kernel) ⟨Nat.le_of_ble_eq_true rfl, Nat.le_of_ble_eq_true rfl⟩ ⟨Nat.zero_le _, Nat.zero_le _⟩ rfl (Nat.le_of_ble_eq_true rfl) dX0_remember_44 (fun F1 H locs hp44 hC => ?_)
    obtain ⟨hLj, hs_F1⟩ := hp44
    have a0_F1 : F1 18 = .inr (0, [.ref (ad (19)), .int (nI (afi a)), .int (nI (asz a))]) := (hs_F1 _ (by omega)).trans a0
    have a1_F1 : F1 19 = .inl (g.2.2 4, 24, .inr (.inr (.inr (.inr (fun k => some (ad (20 + 5 * k))))))) := (hs_F1 _ (by omega)).trans a1
    have h0_F1 : F1 8 = .inr (3, [.ref (ad (9)), .ref (ad (10)), .ref (ad (11)), .ref (ad (12)), .int (nI (wa w)), .int (bI (su w))]) := (hs_F1 _ (by omega)).trans h0
    have h1_F1 : F1 9 = .inl (g.2.2 0, 10, .inl (fun j => nI (wh w j))) := (hs_F1 _ (by omega)).trans h1
    have h2_F1 : F1 10 = .inl (g.2.2 0, 10, .inl (fun j => nI (ln w j))) := (hs_F1 _ (by omega)).trans h2
    have h3_F1 : F1 11 = .inl (g.2.2 0, 10, .inl (fun j => nI (wo w j))) := (hs_F1 _ (by omega)).trans h3
    have h4_F1 : F1 12 = .inl (g.2.2 0, 10, .inl (fun j => oI (ti w j))) := (hs_F1 _ (by omega)).trans h4
    refine lv_aload_n B.1 B.2.1 dX0_remember_47 rfl (lv_at hl 0 rfl) ?_
    refine lv_dup B.1 B.2.1 dX0_remember_48 rfl ?_
    refine r_cg B hC (i := 18) (by decide) a0_F1 (C := RX0) (T := TX0) (n := 3) rfl iwX0_remember_X0 2 (by decide) (index := 21) flX0_remember_21 rfl (v := .int (nI (asz a))) rfl dX0_remember_49 ?_
    refine lv_iconst (v := nI 1) B.1 B.2.1 dX0_remember_52 (by decide) ?_
    refine lv_iadd B.1 B.2.1 dX0_remember_53 ?_
    refine r_tI (y := nI ((asz a) + 1)) (nI_add _ _) ?_
    refine r_cp B hC (i := 18) (by decide) a0_F1 tyX0 tyX0_ok nmX0 (C := RX0) (T := TX0) rfl iwX0_remember_X0 2 (by decide) (index := 21) flX0_remember_21 rfl rfl (v := .int (nI ((asz a) + 1))) (rfl) (rfl) (Nat.le_of_ble_eq_true rfl) dX0_remember_54 ?_
    intro H locs hC
    obtain ⟨F2, eF2⟩ : ∃ f : Nat → va_E, f = va_up F1 (18) (.inr (0, [.ref (ad (19)), .int (nI (afi a)), .int (nI ((asz a) + 1))])) := ⟨_, rfl⟩
    have hC : Cu g lo 196 ad F2 ss ss.heap H locs := by rw [eF2]; exact hC
    have k18_F2 : F2 18 = .inr (0, [.ref (ad (19)), .int (nI (afi a)), .int (nI ((asz a) + 1))]) := by rw [eF2]; exact va_up_self _ _ _
    have a1_F2 : F2 19 = .inl (g.2.2 4, 24, .inr (.inr (.inr (.inr (fun k => some (ad (20 + 5 * k))))))) := by rw [eF2, va_up_ne _ _ (by decide)]; exact a1_F1
    have h0_F2 : F2 8 = .inr (3, [.ref (ad (9)), .ref (ad (10)), .ref (ad (11)), .ref (ad (12)), .int (nI (wa w)), .int (bI (su w))]) := by rw [eF2, va_up_ne _ _ (by decide)]; exact h0_F1
    have h1_F2 : F2 9 = .inl (g.2.2 0, 10, .inl (fun j => nI (wh w j))) := by rw [eF2, va_up_ne _ _ (by decide)]; exact h1_F1
    have h2_F2 : F2 10 = .inl (g.2.2 0, 10, .inl (fun j => nI (ln w j))) := by rw [eF2, va_up_ne _ _ (by decide)]; exact h2_F1
    have h3_F2 : F2 11 = .inl (g.2.2 0, 10, .inl (fun j => nI (wo w j))) := by rw [eF2, va_up_ne _ _ (by decide)]; exact h3_F1
    have h4_F2 : F2 12 = .inl (g.2.2 0, 10, .inl (fun j => oI (ti w j))) := by rw [eF2, va_up_ne _ _ (by decide)]; exact h4_F1
    exact r_eV B hC (by
      have hv : remV a w = (afi a, asz a + 1, va_up (alo a) ((afi a + asz a) % 24) w) := by rw [remV, if_neg (by omega)]
      rw [hv]
      refine ⟨⟨k18_F2, a1_F2, acts_upd (j := ((afi a + asz a) % 24)) aL (LoadC.at hLj (fun i h1 h2 => by rw [eF2, va_up_ne _ _ (by omega)])) (fun i h1 h2 h3 => by rw [eF2, va_up_ne _ _ (by omega)]; rw [hs_F1 i (by omega)])⟩, fun i h1 => by rw [eF2, va_up_ne _ _ (by omega)]; rw [hs_F1 i (by omega)]⟩) dX0_remember_57
  · have q_6 : ¬ (asz a) < 24 := fun z => c_6 ((nI_ltI (by omega) (by omega)).mpr z)
    refine lv_aload_n B.1 B.2.1 dX0_remember_9 rfl (lv_at hl 0 rfl) ?_
    refine lv_aload_n B.1 B.2.1 dX0_remember_10 rfl (lv_at hl 0 rfl) ?_
    refine r_cg B hC (i := 18) (by decide) a0 (C := RX0) (T := TX0) (n := 3) rfl iwX0_remember_X0 1 (by decide) (index := 17) flX0_remember_17 rfl (v := .int (nI (afi a))) rfl dX0_remember_11 ?_
    refine lv_iconst (v := nI 1) B.1 B.2.1 dX0_remember_14 (by decide) ?_
    refine lv_iadd B.1 B.2.1 dX0_remember_15 ?_
    refine r_tI (y := nI ((afi a) + 1)) (nI_add _ _) ?_
    refine lv_bipush (v := nI 24) B.1 B.2.1 dX0_remember_16 (by decide) ?_
    refine r_scalli B hC hl.1 (As := [.int (nI ((afi a) + 1)), .int (nI 24)]) (ctJ9_floorMod l g lo ad (a := ((afi a) + 1)) (by omega)) gX0_remember_J9_floorMod_7cf53 rfl (n := 2) rfl (by decide +kernel) ⟨Nat.le_of_ble_eq_true rfl, Nat.le_of_ble_eq_true rfl⟩ ⟨Nat.zero_le _, Nat.zero_le _⟩ rfl (Nat.le_of_ble_eq_true rfl) dX0_remember_18 (fun r18 F1 H locs hp18 hC => ?_)
    obtain ⟨er, eF⟩ := hp18
    subst er
    rw [eF] at hC
    refine r_cp B hC (i := 18) (by decide) a0 tyX0 tyX0_ok nmX0 (C := RX0) (T := TX0) rfl iwX0_remember_X0 1 (by decide) (index := 17) flX0_remember_17 rfl rfl (v := .int (nI (((afi a) + 1) % 24))) (rfl) (rfl) (Nat.le_of_ble_eq_true rfl) dX0_remember_21 ?_
    intro H locs hC
    obtain ⟨F1, eF1⟩ : ∃ f : Nat → va_E, f = va_up F (18) (.inr (0, [.ref (ad (19)), .int (nI (((afi a) + 1) % 24)), .int (nI (asz a))])) := ⟨_, rfl⟩
    have hC : Cu g lo 196 ad F1 ss ss.heap H locs := by rw [eF1]; exact hC
    have k18_F1 : F1 18 = .inr (0, [.ref (ad (19)), .int (nI (((afi a) + 1) % 24)), .int (nI (asz a))]) := by rw [eF1]; exact va_up_self _ _ _
    have a1_F1 : F1 19 = .inl (g.2.2 4, 24, .inr (.inr (.inr (.inr (fun k => some (ad (20 + 5 * k))))))) := by rw [eF1, va_up_ne _ _ (by decide)]; exact a1
    have h0_F1 : F1 8 = .inr (3, [.ref (ad (9)), .ref (ad (10)), .ref (ad (11)), .ref (ad (12)), .int (nI (wa w)), .int (bI (su w))]) := by rw [eF1, va_up_ne _ _ (by decide)]; exact h0
    have h1_F1 : F1 9 = .inl (g.2.2 0, 10, .inl (fun j => nI (wh w j))) := by rw [eF1, va_up_ne _ _ (by decide)]; exact h1
    have h2_F1 : F1 10 = .inl (g.2.2 0, 10, .inl (fun j => nI (ln w j))) := by rw [eF1, va_up_ne _ _ (by decide)]; exact h2
    have h3_F1 : F1 11 = .inl (g.2.2 0, 10, .inl (fun j => nI (wo w j))) := by rw [eF1, va_up_ne _ _ (by decide)]; exact h3
    have h4_F1 : F1 12 = .inl (g.2.2 0, 10, .inl (fun j => oI (ti w j))) := by rw [eF1, va_up_ne _ _ (by decide)]; exact h4
    refine lv_aload_n B.1 B.2.1 dX0_remember_24 rfl (lv_at hl 0 rfl) ?_
    refine lv_dup B.1 B.2.1 dX0_remember_25 rfl ?_
    refine r_cg B hC (i := 18) (by decide) k18_F1 (C := RX0) (T := TX0) (n := 3) rfl iwX0_remember_X0 2 (by decide) (index := 21) flX0_remember_21 rfl (v := .int (nI (asz a))) rfl dX0_remember_26 ?_
    refine lv_iconst (v := nI 1) B.1 B.2.1 dX0_remember_29 (by decide) ?_
    refine lv_isub B.1 B.2.1 dX0_remember_30 ?_
    refine r_tI (y := nI (asz a - 1)) (pk_sub (by omega)) ?_
    refine r_cp B hC (i := 18) (by decide) k18_F1 tyX0 tyX0_ok nmX0 (C := RX0) (T := TX0) rfl iwX0_remember_X0 2 (by decide) (index := 21) flX0_remember_21 rfl rfl (v := .int (nI (asz a - 1))) (rfl) (rfl) (Nat.le_of_ble_eq_true rfl) dX0_remember_31 ?_
    intro H locs hC
    obtain ⟨F2, eF2⟩ : ∃ f : Nat → va_E, f = va_up F1 (18) (.inr (0, [.ref (ad (19)), .int (nI (((afi a) + 1) % 24)), .int (nI (asz a - 1))])) := ⟨_, rfl⟩
    have hC : Cu g lo 196 ad F2 ss ss.heap H locs := by rw [eF2]; exact hC
    have k18_F2 : F2 18 = .inr (0, [.ref (ad (19)), .int (nI (((afi a) + 1) % 24)), .int (nI (asz a - 1))]) := by rw [eF2]; exact va_up_self _ _ _
    have a1_F2 : F2 19 = .inl (g.2.2 4, 24, .inr (.inr (.inr (.inr (fun k => some (ad (20 + 5 * k))))))) := by rw [eF2, va_up_ne _ _ (by decide)]; exact a1_F1
    have h0_F2 : F2 8 = .inr (3, [.ref (ad (9)), .ref (ad (10)), .ref (ad (11)), .ref (ad (12)), .int (nI (wa w)), .int (bI (su w))]) := by rw [eF2, va_up_ne _ _ (by decide)]; exact h0_F1
    have h1_F2 : F2 9 = .inl (g.2.2 0, 10, .inl (fun j => nI (wh w j))) := by rw [eF2, va_up_ne _ _ (by decide)]; exact h1_F1
    have h2_F2 : F2 10 = .inl (g.2.2 0, 10, .inl (fun j => nI (ln w j))) := by rw [eF2, va_up_ne _ _ (by decide)]; exact h2_F1
    have h3_F2 : F2 11 = .inl (g.2.2 0, 10, .inl (fun j => nI (wo w j))) := by rw [eF2, va_up_ne _ _ (by decide)]; exact h3_F1
    have h4_F2 : F2 12 = .inl (g.2.2 0, 10, .inl (fun j => oI (ti w j))) := by rw [eF2, va_up_ne _ _ (by decide)]; exact h4_F1
    refine lv_aload_n B.1 B.2.1 dX0_remember_34 rfl (lv_at hl 0 rfl) ?_
    refine r_cg B hC (i := 18) (by decide) k18_F2 (C := RX0) (T := TX0) (n := 3) rfl iwX0_remember_X0 0 (by decide) (index := 11) flX0_remember_11 rfl (v := .ref (ad (19))) rfl dX0_remember_35 ?_
    refine lv_aload_n B.1 B.2.1 dX0_remember_38 rfl (lv_at hl 0 rfl) ?_
    refine r_calli B hC hl.1 (18) 0 rfl rfl (by decide) k18_F2 (As := []) (ctX0_behindLast l g lo ad (fi := (((afi a) + 1) % 24)) (sz := (asz a - 1)) k18_F2 (by omega) (by omega)) gX0_remember_X0_behindLast rfl (n := 0) rfl (by decide +kernel) ⟨Nat.le_of_ble_eq_true rfl, Nat.le_of_ble_eq_true rfl⟩ ⟨Nat.zero_le _, Nat.zero_le _⟩ rfl (Nat.le_of_ble_eq_true rfl) dX0_remember_39 (fun r39 F3 H locs hp39 hC => ?_)
    obtain ⟨er, eF⟩ := hp39
    subst er
    rw [eF] at hC
    refine r_cqald B hC (i := 19) (by decide) a1_F2 (j := (((((afi a) + 1) % 24) + (asz a - 1)) % 24)) (by omega) (by decide) (t := ad (20 + 5 * (((((afi a) + 1) % 24) + (asz a - 1)) % 24))) (rfl) dX0_remember_42 ?_
    refine lv_aload_n B.1 B.2.1 dX0_remember_43 rfl (lv_at hl 1 rfl) ?_
    have hj44 : (((((afi a) + 1) % 24) + (asz a - 1)) % 24) < 24 := by omega
    have aLj : LoadC g ad F2 (20 + 5 * (((((afi a) + 1) % 24) + (asz a - 1)) % 24)) (alo a (((((afi a) + 1) % 24) + (asz a - 1)) % 24)) := (aL (((((afi a) + 1) % 24) + (asz a - 1)) % 24) hj44).at (fun i h1 h2 => by rw [eF2, va_up_ne _ _ (by omega)]; rw [eF1, va_up_ne _ _ (by omega)])
    have hLn : LoadC g ad F2 8 w := ⟨h0_F2, h1_F2, h2_F2, h3_F2, h4_F2⟩
    obtain ⟨n0, n1, n2, n3, n4⟩ := id aLj
    refine r_callv B hC hl.1 (20 + 5 * (((((afi a) + 1) % 24) + (asz a - 1)) % 24)) 3 rfl rfl (by omega) n0 (As := [.ref (ad (8))]) (ctX3_copyFrom l g lo ad (b := 20 + 5 * (((((afi a) + 1) % 24) + (asz a - 1)) % 24)) (by omega) aLj (b2 := 8) (by omega) (by omega) hLn (ok.2.2 (((((afi a) + 1) % 24) + (asz a - 1)) % 24) hj44) hc) gX0_remember_X3_copyFrom rfl (n := 1) rfl (by decide +kernel) ⟨Nat.le_of_ble_eq_true rfl, Nat.le_of_ble_eq_true rfl⟩ ⟨Nat.zero_le _, Nat.zero_le _⟩ rfl (Nat.le_of_ble_eq_true rfl) dX0_remember_44 (fun F3 H locs hp44 hC => ?_)
    obtain ⟨hLj, hs_F3⟩ := hp44
    have a1_F3 : F3 19 = .inl (g.2.2 4, 24, .inr (.inr (.inr (.inr (fun k => some (ad (20 + 5 * k))))))) := (hs_F3 _ (by omega)).trans a1_F2
    have h0_F3 : F3 8 = .inr (3, [.ref (ad (9)), .ref (ad (10)), .ref (ad (11)), .ref (ad (12)), .int (nI (wa w)), .int (bI (su w))]) := (hs_F3 _ (by omega)).trans h0_F2
    have h1_F3 : F3 9 = .inl (g.2.2 0, 10, .inl (fun j => nI (wh w j))) := (hs_F3 _ (by omega)).trans h1_F2
    have h2_F3 : F3 10 = .inl (g.2.2 0, 10, .inl (fun j => nI (ln w j))) := (hs_F3 _ (by omega)).trans h2_F2
    have h3_F3 : F3 11 = .inl (g.2.2 0, 10, .inl (fun j => nI (wo w j))) := (hs_F3 _ (by omega)).trans h3_F2
    have h4_F3 : F3 12 = .inl (g.2.2 0, 10, .inl (fun j => oI (ti w j))) := (hs_F3 _ (by omega)).trans h4_F2
    have k18_F3 : F3 18 = .inr (0, [.ref (ad (19)), .int (nI (((afi a) + 1) % 24)), .int (nI (asz a - 1))]) := (hs_F3 _ (by omega)).trans k18_F2
    refine lv_aload_n B.1 B.2.1 dX0_remember_47 rfl (lv_at hl 0 rfl) ?_
    refine lv_dup B.1 B.2.1 dX0_remember_48 rfl ?_
    refine r_cg B hC (i := 18) (by decide) k18_F3 (C := RX0) (T := TX0) (n := 3) rfl iwX0_remember_X0 2 (by decide) (index := 21) flX0_remember_21 rfl (v := .int (nI (asz a - 1))) rfl dX0_remember_49 ?_
    refine lv_iconst (v := nI 1) B.1 B.2.1 dX0_remember_52 (by decide) ?_
    refine lv_iadd B.1 B.2.1 dX0_remember_53 ?_
    refine r_tI (y := nI ((asz a - 1) + 1)) (nI_add _ _) ?_
    refine r_cp B hC (i := 18) (by decide) k18_F3 tyX0 tyX0_ok nmX0 (C := RX0) (T := TX0) rfl iwX0_remember_X0 2 (by decide) (index := 21) flX0_remember_21 rfl rfl (v := .int (nI ((asz a - 1) + 1))) (rfl) (rfl) (Nat.le_of_ble_eq_true rfl) dX0_remember_54 ?_
    intro H locs hC
    obtain ⟨F4, eF4⟩ : ∃ f : Nat → va_E, f = va_up F3 (18) (.inr (0, [.ref (ad (19)), .int (nI (((afi a) + 1) % 24)), .int (nI ((asz a - 1) + 1))])) := ⟨_, rfl⟩
    have hC : Cu g lo 196 ad F4 ss ss.heap H locs := by rw [eF4]; exact hC
    have k18_F4 : F4 18 = .inr (0, [.ref (ad (19)), .int (nI (((afi a) + 1) % 24)), .int (nI ((asz a - 1) + 1))]) := by rw [eF4]; exact va_up_self _ _ _
    have a1_F4 : F4 19 = .inl (g.2.2 4, 24, .inr (.inr (.inr (.inr (fun k => some (ad (20 + 5 * k))))))) := by rw [eF4, va_up_ne _ _ (by decide)]; exact a1_F3
    have h0_F4 : F4 8 = .inr (3, [.ref (ad (9)), .ref (ad (10)), .ref (ad (11)), .ref (ad (12)), .int (nI (wa w)), .int (bI (su w))]) := by rw [eF4, va_up_ne _ _ (by decide)]; exact h0_F3
    have h1_F4 : F4 9 = .inl (g.2.2 0, 10, .inl (fun j => nI (wh w j))) := by rw [eF4, va_up_ne _ _ (by decide)]; exact h1_F3
    have h2_F4 : F4 10 = .inl (g.2.2 0, 10, .inl (fun j => nI (ln w j))) := by rw [eF4, va_up_ne _ _ (by decide)]; exact h2_F3
    have h3_F4 : F4 11 = .inl (g.2.2 0, 10, .inl (fun j => nI (wo w j))) := by rw [eF4, va_up_ne _ _ (by decide)]; exact h3_F3
    have h4_F4 : F4 12 = .inl (g.2.2 0, 10, .inl (fun j => oI (ti w j))) := by rw [eF4, va_up_ne _ _ (by decide)]; exact h4_F3
    exact r_eV B hC (by
      have hv : remV a w = ((afi a + 1) % 24, asz a - 1 + 1, va_up (alo a) (((afi a + 1) % 24 + (asz a - 1)) % 24) w) := by rw [remV, if_pos (by omega), show asz a - 1 + 1 = asz a by omega]
      rw [hv]
      refine ⟨⟨k18_F4, a1_F4, acts_upd (j := (((afi a + 1) % 24 + (asz a - 1)) % 24)) aL (LoadC.at hLj (fun i h1 h2 => by rw [eF4, va_up_ne _ _ (by omega)])) (fun i h1 h2 h3 => by rw [eF4, va_up_ne _ _ (by omega)]; rw [hs_F3 i (by omega)]; rw [eF2, va_up_ne _ _ (by omega)]; rw [eF1, va_up_ne _ _ (by omega)])⟩, fun i h1 => by rw [eF4, va_up_ne _ _ (by omega)]; rw [hs_F3 i (by omega)]; rw [eF2, va_up_ne _ _ (by omega)]; rw [eF1, va_up_ne _ _ (by omega)]⟩) dX0_remember_57
theorem iwX0_undoLast_X0 : ∀ w ∈ u_ws RX0 TX0 3, w ∈ wsX0_undoLast := by decide +kernel
theorem flX0_undoLast_11 : Cond.fieldLink RX0 11 RX0 (TX0 0).2.1 (TX0 0).2.2.1 ∈ wsX0_undoLast := by decide +kernel
theorem flX0_undoLast_21 : Cond.fieldLink RX0 21 RX0 (TX0 2).2.1 (TX0 2).2.2.1 ∈ wsX0_undoLast := by decide +kernel
set_option maxHeartbeats 4000000 in
set_option maxRecDepth 100000 in
theorem ctX0_undoLast (l : Launch) (g : Gx) (lo : Nat) (ad : Nat → Nat) {F : Nat → va_E} {a : AV} {w : LV} (hA : ActC g ad F a) (ok : AOK a) (hL : LoadC g ad F 8 w) (hc : CAN w) (hpos : 0 < asz a) : MV l g lo 196 ad yX0_undoLast wsX0_undoLast 2 61 [.ref (ad (18)), .ref (ad (8))] F (fun F' => ActC g ad F' (afi a, asz a - 1, alo a) ∧ LoadC g ad F' 8 (undV a) ∧ ∀ i, i ≠ 18 → (i < 8 ∨ 13 ≤ i) → F' i = F i) := by
  obtain ⟨a0, a1, aL⟩ := id hA
  unfold ActH at a0
  unfold ActR at a1
  have okf := ok.1
  have okz := ok.2.1
  obtain ⟨h0, h1, h2, h3, h4⟩ := id hL
  refine enter (cc := cX0_undoLast) (maxL := 2) (ret := none) (own := RX0) (by decide +kernel) rfl rfl (Nat.le_of_ble_eq_true rfl) ?_
  intro pp ee ss mm below meth cc B hini hC ls hl
  have hl : lv_has ls 2 [(0, .ref (ad (18))), (1, .ref (ad (8)))] := hl
  refine lv_aload_n B.1 B.2.1 dX0_undoLast_0 rfl (lv_at hl 0 rfl) ?_
  refine r_cg B hC (i := 18) (by decide) a0 (C := RX0) (T := TX0) (n := 3) rfl iwX0_undoLast_X0 2 (by decide) (index := 21) flX0_undoLast_21 rfl (v := .int (nI (asz a))) rfl dX0_undoLast_1 ?_
  refine lv_if_le (tgt := 30) B.1 B.2.1 dX0_undoLast_4 (by decide) (fun z => absurd z (nI_nle (by omega) (by omega))) (fun _ => ?_)
  refine lv_aload_n B.1 B.2.1 dX0_undoLast_7 rfl (lv_at hl 0 rfl) ?_
  refine lv_dup B.1 B.2.1 dX0_undoLast_8 rfl ?_
  refine r_cg B hC (i := 18) (by decide) a0 (C := RX0) (T := TX0) (n := 3) rfl iwX0_undoLast_X0 2 (by decide) (index := 21) flX0_undoLast_21 rfl (v := .int (nI (asz a))) rfl dX0_undoLast_9 ?_
  refine lv_iconst (v := nI 1) B.1 B.2.1 dX0_undoLast_12 (by decide) ?_
  refine lv_isub B.1 B.2.1 dX0_undoLast_13 ?_
  refine r_tI (y := nI (asz a - 1)) (pk_sub (by omega)) ?_
  refine r_cp B hC (i := 18) (by decide) a0 tyX0 tyX0_ok nmX0 (C := RX0) (T := TX0) rfl iwX0_undoLast_X0 2 (by decide) (index := 21) flX0_undoLast_21 rfl rfl (v := .int (nI (asz a - 1))) (rfl) (rfl) (Nat.le_of_ble_eq_true rfl) dX0_undoLast_14 ?_
  intro H locs hC
  obtain ⟨F1, eF1⟩ : ∃ f : Nat → va_E, f = va_up F (18) (.inr (0, [.ref (ad (19)), .int (nI (afi a)), .int (nI (asz a - 1))])) := ⟨_, rfl⟩
  have hC : Cu g lo 196 ad F1 ss ss.heap H locs := by rw [eF1]; exact hC
  have k18_F1 : F1 18 = .inr (0, [.ref (ad (19)), .int (nI (afi a)), .int (nI (asz a - 1))]) := by rw [eF1]; exact va_up_self _ _ _
  have a1_F1 : F1 19 = .inl (g.2.2 4, 24, .inr (.inr (.inr (.inr (fun k => some (ad (20 + 5 * k))))))) := by rw [eF1, va_up_ne _ _ (by decide)]; exact a1
  have h0_F1 : F1 8 = .inr (3, [.ref (ad (9)), .ref (ad (10)), .ref (ad (11)), .ref (ad (12)), .int (nI (wa w)), .int (bI (su w))]) := by rw [eF1, va_up_ne _ _ (by decide)]; exact h0
  have h1_F1 : F1 9 = .inl (g.2.2 0, 10, .inl (fun j => nI (wh w j))) := by rw [eF1, va_up_ne _ _ (by decide)]; exact h1
  have h2_F1 : F1 10 = .inl (g.2.2 0, 10, .inl (fun j => nI (ln w j))) := by rw [eF1, va_up_ne _ _ (by decide)]; exact h2
  have h3_F1 : F1 11 = .inl (g.2.2 0, 10, .inl (fun j => nI (wo w j))) := by rw [eF1, va_up_ne _ _ (by decide)]; exact h3
  have h4_F1 : F1 12 = .inl (g.2.2 0, 10, .inl (fun j => oI (ti w j))) := by rw [eF1, va_up_ne _ _ (by decide)]; exact h4
  refine lv_aload_n B.1 B.2.1 dX0_undoLast_17 rfl (lv_at hl 1 rfl) ?_
  refine lv_aload_n B.1 B.2.1 dX0_undoLast_18 rfl (lv_at hl 0 rfl) ?_
  refine r_cg B hC (i := 18) (by decide) k18_F1 (C := RX0) (T := TX0) (n := 3) rfl iwX0_undoLast_X0 0 (by decide) (index := 11) flX0_undoLast_11 rfl (v := .ref (ad (19))) rfl dX0_undoLast_19 ?_
  refine lv_aload_n B.1 B.2.1 dX0_undoLast_22 rfl (lv_at hl 0 rfl) ?_
  refine r_calli B hC hl.1 (18) 0 rfl rfl (by decide) k18_F1 (As := []) (ctX0_behindLast l g lo ad (fi := (afi a)) (sz := (asz a - 1)) k18_F1 (by omega) (by omega)) gX0_undoLast_X0_behindLast rfl (n := 0) rfl (by decide +kernel) ⟨Nat.le_of_ble_eq_true rfl, Nat.le_of_ble_eq_true rfl⟩ ⟨Nat.zero_le _, Nat.zero_le _⟩ rfl (Nat.le_of_ble_eq_true rfl) dX0_undoLast_23 (fun r23 F2 H locs hp23 hC => ?_)
  obtain ⟨er, eF⟩ := hp23
  subst er
  rw [eF] at hC
  refine r_cqald B hC (i := 19) (by decide) a1_F1 (j := (((afi a) + (asz a - 1)) % 24)) (by omega) (by decide) (t := ad (20 + 5 * (((afi a) + (asz a - 1)) % 24))) (rfl) dX0_undoLast_26 ?_
  have hj27 : (((afi a) + (asz a - 1)) % 24) < 24 := by omega
  have aLj : LoadC g ad F1 (20 + 5 * (((afi a) + (asz a - 1)) % 24)) (alo a (((afi a) + (asz a - 1)) % 24)) := (aL (((afi a) + (asz a - 1)) % 24) hj27).at (fun i h1 h2 => by rw [eF1, va_up_ne _ _ (by omega)])
  have hLn : LoadC g ad F1 8 w := ⟨h0_F1, h1_F1, h2_F1, h3_F1, h4_F1⟩
  refine r_callv B hC hl.1 (8) 3 rfl rfl (by decide) h0_F1 (As := [.ref (ad (20 + 5 * (((afi a) + (asz a - 1)) % 24)))]) (ctX3_copyFrom l g lo ad (b := 8) (by omega) hLn (b2 := 20 + 5 * (((afi a) + (asz a - 1)) % 24)) (by omega) (by omega) aLj hc (ok.2.2 (((afi a) + (asz a - 1)) % 24) hj27)) gX0_undoLast_X3_copyFrom rfl (n := 1) rfl (by decide +kernel) ⟨Nat.le_of_ble_eq_true rfl, Nat.le_of_ble_eq_true rfl⟩ ⟨Nat.zero_le _, Nat.zero_le _⟩ rfl (Nat.le_of_ble_eq_true rfl) dX0_undoLast_27 (fun F2 H locs hp27 hC => ?_)
  obtain ⟨hLj, hs_F2⟩ := hp27
  have k18_F2 : F2 18 = .inr (0, [.ref (ad (19)), .int (nI (afi a)), .int (nI (asz a - 1))]) := (hs_F2 _ (by omega)).trans k18_F1
  have a1_F2 : F2 19 = .inl (g.2.2 4, 24, .inr (.inr (.inr (.inr (fun k => some (ad (20 + 5 * k))))))) := (hs_F2 _ (by omega)).trans a1_F1
  exact r_eV B hC (⟨⟨k18_F2, a1_F2, fun k hk => (aL k hk).at (fun i h1 h2 => by rw [hs_F2 i (by omega)]; rw [eF1, va_up_ne _ _ (by omega)])⟩, hLj, fun i h1 h2 => by rw [hs_F2 i (by omega)]; rw [eF1, va_up_ne _ _ (by omega)]⟩) dX0_undoLast_30
