/-! ROWS: the rows of MOVES, one after another -/
abbrev RV : Type := Nat × Bool × (Nat → Option Nat) × (Nat → LV)
def rmv (v : RV) : Nat := v.1
def rbg (v : RV) : Bool := v.2.1
def rro (v : RV) : Nat → Option Nat := v.2.2.1
def rst (v : RV) : Nat → LV := v.2.2.2
def RowsC (g : Gx) (ad : Nat → Nat) (F : Nat → va_E) (v : RV) : Prop := F 157 = .inr (4, [.ref (ad 3), .ref (ad 158), .ref (ad 159), .int (nI (rmv v)), .int (bI (rbg v))]) ∧ F 158 = .inl (g.2.2 4, 3, .inr (.inr (.inr (.inr (fun k => some (ad (160 + 5 * k))))))) ∧ F 159 = .inl (g.2.2 0, 2, .inl (fun j => y1 (rro v j))) ∧ ∀ k, k < 3 → LoadC g ad F (160 + 5 * k) (rst v k)
def ROK (v : RV) : Prop := ∀ k, k < 3 → CAN (rst v k)
theorem RowsC.keep {g : Gx} {ad : Nat → Nat} {F F' : Nat → va_E} {v : RV} (h : RowsC g ad F v) (hs : ∀ i, 157 ≤ i → i < 175 → F' i = F i) : RowsC g ad F' v :=
  ⟨by rw [hs _ (by omega) (by omega)]; exact h.1, by rw [hs _ (by omega) (by omega)]; exact h.2.1, by rw [hs _ (by omega) (by omega)]; exact h.2.2.1, fun k hk => (h.2.2.2 k hk).at (fun i h1 h2 => hs i (by omega) (by omega))⟩
theorem steps_upd {g : Gx} {ad : Nat → Nat} {F F' : Nat → va_E} {al : Nat → LV} {j : Nat} {w : LV} (h : ∀ k, k < 3 → LoadC g ad F (160 + 5 * k) (al k)) (hj : LoadC g ad F' (160 + 5 * j) w) (hs : ∀ i, 160 ≤ i → i < 175 → (i < 160 + 5 * j ∨ 165 + 5 * j ≤ i) → F' i = F i) : ∀ k, k < 3 → LoadC g ad F' (160 + 5 * k) (va_up al j w k) := by
  intro k hk
  by_cases e : k = j
  · subst e; rw [va_up_self]; exact hj
  · rw [va_up_ne _ _ e]
    exact (h k hk).at (fun i h1 h2 => hs i (by omega) (by omega) (by omega))
theorem upd_y1 (f : Nat → Option Nat) (k : Nat) (o : Option Nat) : upd (fun j => y1 (f j)) k (y1 o) = fun j => y1 (va_up f k o j) := by
  funext j
  by_cases h : j = k
  · subst h; simp [upd, va_up]
  · simp [upd, va_up, h]
def nx (o : Option Nat) : Nat := match o with
  | none => 0
  | some k => k + 1
theorem y1_nx (o : Option Nat) : y1 o + nI 1 = nI (nx o) := by
  cases o with
  | none => decide
  | some k => exact nI_add k 1
theorem iwX4_makeNextMove_X4 : ∀ w ∈ u_ws RX4 TX4 5, w ∈ wsX4_makeNextMove := by decide +kernel
theorem flX4_makeNextMove_11 : Cond.fieldLink RX4 11 RX4 (TX4 1).2.1 (TX4 1).2.2.1 ∈ wsX4_makeNextMove := by decide +kernel
theorem flX4_makeNextMove_17 : Cond.fieldLink RX4 17 RX4 (TX4 2).2.1 (TX4 2).2.2.1 ∈ wsX4_makeNextMove := by decide +kernel
theorem flX4_makeNextMove_29 : Cond.fieldLink RX4 29 RX4 (TX4 0).2.1 (TX4 0).2.2.1 ∈ wsX4_makeNextMove := by decide +kernel
set_option maxHeartbeats 4000000 in
set_option maxRecDepth 100000 in
theorem ctX4_makeNextMove (l : Launch) (g : Gx) (lo : Nat) (ad : Nat → Nat) {F : Nat → va_E} {h : HV} (hH : HullC g ad F h) (ok : HOK h) {v : RV} (hR : RowsC g ad F v) (okR : ROK v) {a : Nat} (ha : a < 2) (hw : LOK h (rst v a)) (hro : nx (rro v a) ≤ 100) : MI l g lo 196 ad yX4_makeNextMove wsX4_makeNextMove 3 69 [.ref (ad (157)), .int (nI a)] F (fun r F' => (r = bI false ∧ L1 h (rst v a) (nx (rro v a)) = [] ∧ F' = F) ∨ ∃ m, r = bI true ∧ nx (rro v a) ≤ m ∧ m < 100 ∧ L1 h (rst v a) (nx (rro v a)) = m :: L1 h (rst v a) (m + 1) ∧ mayM h (rst v a) m = true ∧ RowsC g ad F' (rmv v, rbg v, va_up (rro v) a (some m), va_up (rst v) (a + 1) (stepV h (rst v a) m)) ∧ Same 157 175 F F') := by
  obtain ⟨g0, g1, g2, g3, g4⟩ := id hH
  have okn := ok.1
  have okp := ok.2.1
  have okh := ok.2.2.1
  obtain ⟨r0, r1, r2, rL⟩ := id hR
  refine enter (cc := cX4_makeNextMove) (maxL := 5) (ret := some .boolean) (own := RX4) (by decide +kernel) rfl rfl (Nat.le_of_ble_eq_true rfl) ?_
  intro pp ee ss mm below meth cc B hini hC ls hl
  have hl : lv_has ls 5 [(0, .ref (ad (157))), (1, .int (nI a))] := hl
  refine lv_iload_n B.1 B.2.1 dX4_makeNextMove_0 rfl (lv_at hl 1 rfl) ?_
  refine lv_if_lt (tgt := 24) B.1 B.2.1 dX4_makeNextMove_1 (by decide) (fun z => absurd z (nI_pos (by omega))) (fun _ => ?_)
  refine lv_iload_n B.1 B.2.1 dX4_makeNextMove_4 rfl (lv_at hl 1 rfl) ?_
  refine lv_aload_n B.1 B.2.1 dX4_makeNextMove_5 rfl (lv_at hl 0 rfl) ?_
  refine r_cg B hC (i := 157) (by decide) r0 (C := RX4) (T := TX4) (n := 5) rfl iwX4_makeNextMove_X4 2 (by decide) (index := 17) flX4_makeNextMove_17 rfl (v := .ref (ad (159))) rfl dX4_makeNextMove_6 ?_
  refine r_calen B hC (i := 159) (by decide) r2 0 rfl (n := 2) rfl dX4_makeNextMove_9 ?_
  refine lv_icmp_ge (tgt := 24) B.1 B.2.1 dX4_makeNextMove_10 (by decide) (fun z => absurd z (nI_ge (by omega) (by omega))) (fun _ => ?_)
  refine lv_iload_n B.1 B.2.1 dX4_makeNextMove_13 rfl (lv_at hl 1 rfl) ?_
  refine lv_iconst (v := nI 1) B.1 B.2.1 dX4_makeNextMove_14 (by decide) ?_
  refine lv_iadd B.1 B.2.1 dX4_makeNextMove_15 ?_
  refine r_tI (y := nI (a + 1)) (nI_add _ _) ?_
  refine lv_aload_n B.1 B.2.1 dX4_makeNextMove_16 rfl (lv_at hl 0 rfl) ?_
  refine r_cg B hC (i := 157) (by decide) r0 (C := RX4) (T := TX4) (n := 5) rfl iwX4_makeNextMove_X4 1 (by decide) (index := 11) flX4_makeNextMove_11 rfl (v := .ref (ad (158))) rfl dX4_makeNextMove_17 ?_
  refine r_calen B hC (i := 158) (by decide) r1 4 rfl (n := 3) rfl dX4_makeNextMove_20 ?_
  refine lv_icmp_lt (tgt := 26) B.1 B.2.1 dX4_makeNextMove_21 (by decide) (fun _ => ?_) (fun z => absurd (nI_lt (by omega) (by omega)) z)
  refine lv_aload_n B.1 B.2.1 dX4_makeNextMove_26 rfl (lv_at hl 0 rfl) ?_
  refine r_cg B hC (i := 157) (by decide) r0 (C := RX4) (T := TX4) (n := 5) rfl iwX4_makeNextMove_X4 2 (by decide) (index := 17) flX4_makeNextMove_17 rfl (v := .ref (ad (159))) rfl dX4_makeNextMove_27 ?_
  refine lv_iload_n B.1 B.2.1 dX4_makeNextMove_30 rfl (lv_at hl 1 rfl) ?_
  refine r_cald B hC (i := 159) (by decide) r2 (j := a) (by omega) (by decide) dX4_makeNextMove_31 ?_
  refine r_tI (y := y1 (rro v a)) rfl ?_
  refine lv_iconst (v := nI 1) B.1 B.2.1 dX4_makeNextMove_32 (by decide) ?_
  refine lv_iadd B.1 B.2.1 dX4_makeNextMove_33 ?_
  refine r_tI (y := nI (nx (rro v a))) (y1_nx _) ?_
  refine lv_istore_n (lv' := [(2, .int (nI (nx (rro v a)))), (0, .ref (ad (157))), (1, .int (nI a))]) B.1 B.2.1 dX4_makeNextMove_34 rfl hl (by decide) rfl (fun ls hl => ?_)
  have loop35 : ∀ (k : Nat) (m : Nat), (m + k = 100) → (nx (rro v a) ≤ m) → (L1 h (rst v a) (nx (rro v a)) = L1 h (rst v a) m) → ∀ (H : Heap) (locs : List Loc) (ls : Array Slot), Cu g lo 196 ad F ss ss.heap H locs → lv_has ls 5 [(2, .int (nI m)), (0, .ref (ad (157))), (1, .int (nI a))] → W pp l ee { frames := 3, cells := 0, slots := 0, locals := 69 } ss mm ([.ref (ad (157)), .int (nI a)] : List Value).toArray below meth cc H locs 0 0 (MQ below (va_Qi (fun r F' => (r = bI false ∧ L1 h (rst v a) (nx (rro v a)) = [] ∧ F' = F) ∨ ∃ m, r = bI true ∧ nx (rro v a) ≤ m ∧ m < 100 ∧ L1 h (rst v a) (nx (rro v a)) = m :: L1 h (rst v a) (m + 1) ∧ mayM h (rst v a) m = true ∧ RowsC g ad F' (rmv v, rbg v, va_up (rro v) a (some m), va_up (rst v) (a + 1) (stepV h (rst v a) m)) ∧ Same 157 175 F F') (fun F' t => Wd g lo 196 ad F' t) (fun q => lo ≤ q)) ([.ref (ad (157)), .int (nI a)] : List Value).toArray ss 0 0 (fun q => lo ≤ q)) (F0 mm 35 ls []) := by
    intro k
    induction k with
    | zero =>
      intro m hmk hnx hL1 H locs ls hC hl
      refine lv_iload_n B.1 B.2.1 dX4_makeNextMove_35 rfl (lv_at hl 0 rfl) ?_
      refine lv_bipush (v := nI 100) B.1 B.2.1 dX4_makeNextMove_36 (by decide) ?_
      refine lv_icmp_ge (tgt := 121) B.1 B.2.1 dX4_makeNextMove_38 (by decide) (fun _ => ?_) (fun z => absurd (nI_le (by omega) (by omega)) z)
      refine lv_iconst (v := nI 0) B.1 B.2.1 dX4_makeNextMove_121 (by decide) ?_
      exact r_eZ B hC (v := nI 0) (rfl) (Or.inl ⟨rfl, by rw [hL1, L1_end (by omega)], rfl⟩) dX4_makeNextMove_122
    | succ k ih35 =>
      intro m hmk hnx hL1 H locs ls hC hl
      refine lv_iload_n B.1 B.2.1 dX4_makeNextMove_35 rfl (lv_at hl 0 rfl) ?_
      refine lv_bipush (v := nI 100) B.1 B.2.1 dX4_makeNextMove_36 (by decide) ?_
      refine lv_icmp_ge (tgt := 121) B.1 B.2.1 dX4_makeNextMove_38 (by decide) (fun z => absurd z (nI_ge (by omega) (by omega))) (fun _ => ?_)
      refine lv_iload_n B.1 B.2.1 dX4_makeNextMove_41 rfl (lv_at hl 0 rfl) ?_
      refine lv_bipush (v := nI 10) B.1 B.2.1 dX4_makeNextMove_42 (by decide) ?_
      refine lv_idiv B.1 B.2.1 dX4_makeNextMove_44 (by decide) ?_
      refine r_tI (y := nI (m / 10)) (pk_div (by omega) (by omega) (by omega)) ?_
      refine lv_istore_n (lv' := [(3, .int (nI (m / 10))), (2, .int (nI m)), (0, .ref (ad (157))), (1, .int (nI a))]) B.1 B.2.1 dX4_makeNextMove_45 rfl hl (by decide) rfl (fun ls hl => ?_)
      refine lv_iload_n B.1 B.2.1 dX4_makeNextMove_46 rfl (lv_at hl 1 rfl) ?_
      refine lv_bipush (v := nI 10) B.1 B.2.1 dX4_makeNextMove_47 (by decide) ?_
      refine lv_irem B.1 B.2.1 dX4_makeNextMove_49 (by decide) ?_
      refine r_tI (y := nI (m % 10)) (pk_rem (by omega) (by omega) (by omega)) ?_
      refine lv_istore (lv' := [(4, .int (nI (m % 10))), (3, .int (nI (m / 10))), (2, .int (nI m)), (0, .ref (ad (157))), (1, .int (nI a))]) B.1 B.2.1 dX4_makeNextMove_50 hl (by decide) rfl (fun ls hl => ?_)
      refine lv_aload_n B.1 B.2.1 dX4_makeNextMove_52 rfl (lv_at hl 3 rfl) ?_
      refine r_cg B hC (i := 157) (by decide) r0 (C := RX4) (T := TX4) (n := 5) rfl iwX4_makeNextMove_X4 0 (by decide) (index := 29) flX4_makeNextMove_29 rfl (v := .ref (ad (3))) rfl dX4_makeNextMove_53 ?_
      refine lv_iload_n B.1 B.2.1 dX4_makeNextMove_56 rfl (lv_at hl 1 rfl) ?_
      refine lv_iload B.1 B.2.1 dX4_makeNextMove_57 (lv_at hl 0 rfl) ?_
      refine lv_aload_n B.1 B.2.1 dX4_makeNextMove_59 rfl (lv_at hl 3 rfl) ?_
      refine r_cg B hC (i := 157) (by decide) r0 (C := RX4) (T := TX4) (n := 5) rfl iwX4_makeNextMove_X4 1 (by decide) (index := 11) flX4_makeNextMove_11 rfl (v := .ref (ad (158))) rfl dX4_makeNextMove_60 ?_
      refine lv_iload_n B.1 B.2.1 dX4_makeNextMove_63 rfl (lv_at hl 4 rfl) ?_
      refine r_cqald B hC (i := 158) (by decide) r1 (j := a) (by omega) (by decide) (t := ad (160 + 5 * a)) (rfl) dX4_makeNextMove_64 ?_
      obtain ⟨n0, n1, n2, n3, n4⟩ := id (rL a (by omega))
      refine r_calli B hC hl.1 (3) 2 rfl rfl (by decide) g0 (As := [.int (nI (m / 10)), .int (nI (m % 10)), .ref (ad (160 + 5 * a))]) (ctX2_mayBeMoved l g lo ad hH ok (b := 160 + 5 * a) (by omega) (rL a (by omega)) hw (t := m / 10) (p := m % 10) (by omega) (by omega)) gX4_makeNextMove_X2_mayBeMoved rfl (n := 3) rfl (by decide +kernel) ⟨Nat.le_of_ble_eq_true rfl, Nat.le_of_ble_eq_true rfl⟩ ⟨Nat.zero_le _, Nat.zero_le _⟩ rfl (Nat.le_of_ble_eq_true rfl) dX4_makeNextMove_65 (fun r65 F1 H locs hp65 hC => ?_)
      obtain ⟨er, eF⟩ := hp65
      subst er
      rw [eF] at hC
      refine lv_if_eq (tgt := 115) B.1 B.2.1 dX4_makeNextMove_68 (by decide) (fun c_68 => ?_) (fun c_68 => ?_)
      · have q_68 : (mayV h (rst v a) (m / 10) (m % 10)) = false := bI_f.mp c_68
        refine lv_iinc (v := nI (m + 1)) (lv' := [(2, .int (nI (m + 1))), (4, .int (nI (m % 10))), (3, .int (nI (m / 10))), (0, .ref (ad (157))), (1, .int (nI a))]) B.1 B.2.1 dX4_makeNextMove_115 hl (k := 2) rfl (nI_1 _) (by decide) rfl (fun ls hl => ?_)
        refine lv_goto (tgt := 35) B.1 B.2.1 dX4_makeNextMove_118 (by decide) ?_
        exact ih35 (m + 1) (by omega) (by omega) (by rw [hL1, L1_no (by omega) q_68]) _ _ ls hC (lv_sub hl [0, 3, 4] rfl)
      · have q_68 : (mayV h (rst v a) (m / 10) (m % 10)) = true := bI_t.mp c_68
        refine lv_aload_n B.1 B.2.1 dX4_makeNextMove_71 rfl (lv_at hl 3 rfl) ?_
        refine r_cg B hC (i := 157) (by decide) r0 (C := RX4) (T := TX4) (n := 5) rfl iwX4_makeNextMove_X4 2 (by decide) (index := 17) flX4_makeNextMove_17 rfl (v := .ref (ad (159))) rfl dX4_makeNextMove_72 ?_
        refine lv_iload_n B.1 B.2.1 dX4_makeNextMove_75 rfl (lv_at hl 4 rfl) ?_
        refine lv_iload_n B.1 B.2.1 dX4_makeNextMove_76 rfl (lv_at hl 2 rfl) ?_
        refine r_cast B hC (i := 159) (by decide) r2 (j := a) (by omega) (by decide) dX4_makeNextMove_77 ?_
        intro H locs hC
        obtain ⟨F1, eF1⟩ : ∃ f : Nat → va_E, f = va_up F (159) (.inl (g.2.2 0, 2, .inl (fun j => y1 (va_up (rro v) a (some m) j)))) := ⟨_, rfl⟩
        have hC : Cu g lo 196 ad F1 ss ss.heap H locs := by rw [eF1]; exact (by rw [← upd_y1 (rro v) a (some m)]; exact hC)
        have k159_F1 : F1 159 = .inl (g.2.2 0, 2, .inl (fun j => y1 (va_up (rro v) a (some m) j))) := by rw [eF1]; exact va_up_self _ _ _
        have g0_F1 : F1 3 = .inr (2, [.ref (ad (4)), .ref (ad (5)), .ref (ad (6)), .ref (ad (7)), .int (nI (hn h)), .int (nI (hpu h)), .int (nI (hho h))]) := by rw [eF1, va_up_ne _ _ (by decide)]; exact g0
        have g1_F1 : F1 4 = .inl (g.2.2 0, 10, .inl (fun j => nI (hle h j))) := by rw [eF1, va_up_ne _ _ (by decide)]; exact g1
        have g2_F1 : F1 5 = .inl (g.2.2 0, 10, .inl (fun j => nI (hin_ h j))) := by rw [eF1, va_up_ne _ _ (by decide)]; exact g2
        have g3_F1 : F1 6 = .inl (g.2.2 0, 10, .inl (fun j => oI (hre h j))) := by rw [eF1, va_up_ne _ _ (by decide)]; exact g3
        have g4_F1 : F1 7 = .inl (g.2.2 0, 10, .inl (fun j => oI (hsh h j))) := by rw [eF1, va_up_ne _ _ (by decide)]; exact g4
        have r0_F1 : F1 157 = .inr (4, [.ref (ad (3)), .ref (ad (158)), .ref (ad (159)), .int (nI (rmv v)), .int (bI (rbg v))]) := by rw [eF1, va_up_ne _ _ (by decide)]; exact r0
        have r1_F1 : F1 158 = .inl (g.2.2 4, 3, .inr (.inr (.inr (.inr (fun k => some (ad (160 + 5 * k))))))) := by rw [eF1, va_up_ne _ _ (by decide)]; exact r1
        refine lv_aload_n B.1 B.2.1 dX4_makeNextMove_78 rfl (lv_at hl 3 rfl) ?_
        refine r_cg B hC (i := 157) (by decide) r0_F1 (C := RX4) (T := TX4) (n := 5) rfl iwX4_makeNextMove_X4 1 (by decide) (index := 11) flX4_makeNextMove_11 rfl (v := .ref (ad (158))) rfl dX4_makeNextMove_79 ?_
        refine lv_iload_n B.1 B.2.1 dX4_makeNextMove_82 rfl (lv_at hl 4 rfl) ?_
        refine lv_iconst (v := nI 1) B.1 B.2.1 dX4_makeNextMove_83 (by decide) ?_
        refine lv_iadd B.1 B.2.1 dX4_makeNextMove_84 ?_
        refine r_tI (y := nI (a + 1)) (nI_add _ _) ?_
        refine r_cqald B hC (i := 158) (by decide) r1_F1 (j := (a + 1)) (by omega) (by decide) (t := ad (160 + 5 * (a + 1))) (rfl) dX4_makeNextMove_85 ?_
        refine lv_aload_n B.1 B.2.1 dX4_makeNextMove_86 rfl (lv_at hl 3 rfl) ?_
        refine r_cg B hC (i := 157) (by decide) r0_F1 (C := RX4) (T := TX4) (n := 5) rfl iwX4_makeNextMove_X4 1 (by decide) (index := 11) flX4_makeNextMove_11 rfl (v := .ref (ad (158))) rfl dX4_makeNextMove_87 ?_
        refine lv_iload_n B.1 B.2.1 dX4_makeNextMove_90 rfl (lv_at hl 4 rfl) ?_
        refine r_cqald B hC (i := 158) (by decide) r1_F1 (j := a) (by omega) (by decide) (t := ad (160 + 5 * a)) (rfl) dX4_makeNextMove_91 ?_
        have rLa : LoadC g ad F1 (160 + 5 * a) (rst v a) := (rL a (by omega)).at (fun i h1 h2 => by rw [eF1, va_up_ne _ _ (by omega)])
        have rLb : LoadC g ad F1 (160 + 5 * (a + 1)) (rst v (a + 1)) := (rL (a + 1) (by omega)).at (fun i h1 h2 => by rw [eF1, va_up_ne _ _ (by omega)])
        obtain ⟨m0, m1, m2, m3, m4⟩ := id rLb
        refine r_callv B hC hl.1 (160 + 5 * (a + 1)) 3 rfl rfl (by omega) m0 (As := [.ref (ad (160 + 5 * a))]) (ctX3_copyFrom l g lo ad (b := 160 + 5 * (a + 1)) (by omega) rLb (b2 := 160 + 5 * a) (by omega) (by omega) rLa (okR (a + 1) (by omega)) (okR a (by omega))) gX4_makeNextMove_X3_copyFrom rfl (n := 1) rfl (by decide +kernel) ⟨Nat.le_of_ble_eq_true rfl, Nat.le_of_ble_eq_true rfl⟩ ⟨Nat.zero_le _, Nat.zero_le _⟩ rfl (Nat.le_of_ble_eq_true rfl) dX4_makeNextMove_92 (fun F2 H locs hp92 hC => ?_)
        obtain ⟨hLj, hs_F2⟩ := hp92
        have g0_F2 : F2 3 = .inr (2, [.ref (ad (4)), .ref (ad (5)), .ref (ad (6)), .ref (ad (7)), .int (nI (hn h)), .int (nI (hpu h)), .int (nI (hho h))]) := (hs_F2 _ (by omega)).trans g0_F1
        have g1_F2 : F2 4 = .inl (g.2.2 0, 10, .inl (fun j => nI (hle h j))) := (hs_F2 _ (by omega)).trans g1_F1
        have g2_F2 : F2 5 = .inl (g.2.2 0, 10, .inl (fun j => nI (hin_ h j))) := (hs_F2 _ (by omega)).trans g2_F1
        have g3_F2 : F2 6 = .inl (g.2.2 0, 10, .inl (fun j => oI (hre h j))) := (hs_F2 _ (by omega)).trans g3_F1
        have g4_F2 : F2 7 = .inl (g.2.2 0, 10, .inl (fun j => oI (hsh h j))) := (hs_F2 _ (by omega)).trans g4_F1
        have r0_F2 : F2 157 = .inr (4, [.ref (ad (3)), .ref (ad (158)), .ref (ad (159)), .int (nI (rmv v)), .int (bI (rbg v))]) := (hs_F2 _ (by omega)).trans r0_F1
        have r1_F2 : F2 158 = .inl (g.2.2 4, 3, .inr (.inr (.inr (.inr (fun k => some (ad (160 + 5 * k))))))) := (hs_F2 _ (by omega)).trans r1_F1
        have k159_F2 : F2 159 = .inl (g.2.2 0, 2, .inl (fun j => y1 (va_up (rro v) a (some m) j))) := (hs_F2 _ (by omega)).trans k159_F1
        have hH2 : HullC g ad F2 h := ⟨g0_F2, g1_F2, g2_F2, g3_F2, g4_F2⟩
        refine lv_aload_n B.1 B.2.1 dX4_makeNextMove_95 rfl (lv_at hl 3 rfl) ?_
        refine r_cg B hC (i := 157) (by decide) r0_F2 (C := RX4) (T := TX4) (n := 5) rfl iwX4_makeNextMove_X4 0 (by decide) (index := 29) flX4_makeNextMove_29 rfl (v := .ref (ad (3))) rfl dX4_makeNextMove_96 ?_
        refine lv_iload_n B.1 B.2.1 dX4_makeNextMove_99 rfl (lv_at hl 1 rfl) ?_
        refine lv_iload B.1 B.2.1 dX4_makeNextMove_100 (lv_at hl 0 rfl) ?_
        refine lv_aload_n B.1 B.2.1 dX4_makeNextMove_102 rfl (lv_at hl 3 rfl) ?_
        refine r_cg B hC (i := 157) (by decide) r0_F2 (C := RX4) (T := TX4) (n := 5) rfl iwX4_makeNextMove_X4 1 (by decide) (index := 11) flX4_makeNextMove_11 rfl (v := .ref (ad (158))) rfl dX4_makeNextMove_103 ?_
        refine lv_iload_n B.1 B.2.1 dX4_makeNextMove_106 rfl (lv_at hl 4 rfl) ?_
        refine lv_iconst (v := nI 1) B.1 B.2.1 dX4_makeNextMove_107 (by decide) ?_
        refine lv_iadd B.1 B.2.1 dX4_makeNextMove_108 ?_
        refine r_tI (y := nI (a + 1)) (nI_add _ _) ?_
        refine r_cqald B hC (i := 158) (by decide) r1_F2 (j := (a + 1)) (by omega) (by decide) (t := ad (160 + 5 * (a + 1))) (rfl) dX4_makeNextMove_109 ?_
        refine r_callv B hC hl.1 (3) 2 rfl rfl (by decide) g0_F2 (As := [.int (nI (m / 10)), .int (nI (m % 10)), .ref (ad (160 + 5 * (a + 1)))]) (ctX2_bringInto l g lo ad hH2 ok (b := 160 + 5 * (a + 1)) (by omega) hLj hw (t := m / 10) (p := m % 10) (by omega) (fitsV_p (mayV_f q_68).1).1) gX4_makeNextMove_X2_bringInto rfl (n := 3) rfl (by decide +kernel) ⟨Nat.le_of_ble_eq_true rfl, Nat.le_of_ble_eq_true rfl⟩ ⟨Nat.zero_le _, Nat.zero_le _⟩ rfl (Nat.le_of_ble_eq_true rfl) dX4_makeNextMove_110 (fun F3 H locs hp110 hC => ?_)
        obtain ⟨hLk, hs_F3⟩ := hp110
        have g0_F3 : F3 3 = .inr (2, [.ref (ad (4)), .ref (ad (5)), .ref (ad (6)), .ref (ad (7)), .int (nI (hn h)), .int (nI (hpu h)), .int (nI (hho h))]) := (hs_F3 _ (by omega)).trans g0_F2
        have g1_F3 : F3 4 = .inl (g.2.2 0, 10, .inl (fun j => nI (hle h j))) := (hs_F3 _ (by omega)).trans g1_F2
        have g2_F3 : F3 5 = .inl (g.2.2 0, 10, .inl (fun j => nI (hin_ h j))) := (hs_F3 _ (by omega)).trans g2_F2
        have g3_F3 : F3 6 = .inl (g.2.2 0, 10, .inl (fun j => oI (hre h j))) := (hs_F3 _ (by omega)).trans g3_F2
        have g4_F3 : F3 7 = .inl (g.2.2 0, 10, .inl (fun j => oI (hsh h j))) := (hs_F3 _ (by omega)).trans g4_F2
        have r0_F3 : F3 157 = .inr (4, [.ref (ad (3)), .ref (ad (158)), .ref (ad (159)), .int (nI (rmv v)), .int (bI (rbg v))]) := (hs_F3 _ (by omega)).trans r0_F2
        have r1_F3 : F3 158 = .inl (g.2.2 4, 3, .inr (.inr (.inr (.inr (fun k => some (ad (160 + 5 * k))))))) := (hs_F3 _ (by omega)).trans r1_F2
        have k159_F3 : F3 159 = .inl (g.2.2 0, 2, .inl (fun j => y1 (va_up (rro v) a (some m) j))) := (hs_F3 _ (by omega)).trans k159_F2
        refine lv_iconst (v := nI 1) B.1 B.2.1 dX4_makeNextMove_113 (by decide) ?_
        exact r_eZ B hC (v := nI 1) (rfl) (by
      refine Or.inr ⟨m, rfl, hnx, by omega, by rw [hL1, L1_yes (by omega) q_68], q_68, ⟨r0_F3, r1_F3, k159_F3, steps_upd (j := a + 1) rL hLk (fun i h1 h2 h3 => by rw [hs_F3 i (by omega)]; rw [hs_F2 i (by omega)]; rw [eF1, va_up_ne _ _ (by omega)])⟩, fun i h1 => by rw [hs_F3 i (by omega)]; rw [hs_F2 i (by omega)]; rw [eF1, va_up_ne _ _ (by omega)]⟩) dX4_makeNextMove_114
  exact loop35 (100 - nx (rro v a)) (nx (rro v a)) (by omega) (Nat.le_refl _) rfl _ _ ls hC (lv_sub hl [0, 1, 2] rfl)
