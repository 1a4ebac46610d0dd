/-! CONSTRUCTORS: Search, ShipFromItself, ShipFromItselfModel -/
theorem RowsC.at {g : Gx} {ad : Nat → Nat} {F F' : Nat → va_E} {v : RV} (h : RowsC g ad F v) (hs : ∀ i, 157 ≤ i → i < 175 → F' i = F i) : RowsC g ad F' v := ⟨by rw [hs _ (by omega) (by omega)]; exact h.1, by rw [hs _ (by omega) (by omega)]; exact h.2.1, by rw [hs _ (by omega) (by omega)]; exact h.2.2.1, fun k hk => LoadC.at (h.2.2.2 k hk) (fun i h1 h2 => hs i (by omega) (by omega))⟩
theorem wkX5_init_42 : Cond.methodLink RX5 3 objectInit ∈ wsX5_init := by decide +kernel
theorem wkX5_init_43 : Cond.instanceMethod objectInit ∈ wsX5_init := by decide +kernel
theorem wkX5_init_44 : Cond.code objectInit ⟨#[0xb1]⟩ 1 none ∈ wsX5_init := by decide +kernel
theorem wkX5_init_45 : Cond.arrayClass .int ∈ wsX5_init := by decide +kernel
theorem wkX5_init_46 : Cond.classLink RX5 27 RX4 ∈ wsX5_init := by decide +kernel
theorem wkX5_init_47 : Cond.instantiable RX4 5 ∈ wsX5_init := by decide +kernel
theorem wkX5_init_48 : Cond.initialized RX4 ∈ wsX5_init := by decide +kernel
theorem wkX5_init_49 : Cond.methodLink RX5 29 yX4_init ∈ wsX5_init := by decide +kernel
theorem wkX5_init_50 : Cond.instanceMethod yX4_init ∈ wsX5_init := by decide +kernel
theorem iwX5_init_X4 : ∀ w ∈ u_ws RX4 TX4 5, w ∈ wsX5_init := by decide +kernel
theorem iwX5_init_X5 : ∀ w ∈ u_ws RX5 TX5 5, w ∈ wsX5_init := by decide +kernel
theorem flX5_init_9 : Cond.fieldLink RX5 9 RX5 (TX5 3).2.1 (TX5 3).2.2.1 ∈ wsX5_init := by decide +kernel
theorem flX5_init_15 : Cond.fieldLink RX5 15 RX5 (TX5 4).2.1 (TX5 4).2.2.1 ∈ wsX5_init := by decide +kernel
theorem flX5_init_19 : Cond.fieldLink RX5 19 RX5 (TX5 0).2.1 (TX5 0).2.2.1 ∈ wsX5_init := by decide +kernel
theorem flX5_init_23 : Cond.fieldLink RX5 23 RX5 (TX5 1).2.1 (TX5 1).2.2.1 ∈ wsX5_init := by decide +kernel
theorem flX5_init_32 : Cond.fieldLink RX5 32 RX5 (TX5 2).2.1 (TX5 2).2.2.1 ∈ wsX5_init := by decide +kernel
set_option maxHeartbeats 4000000 in
set_option maxRecDepth 100000 in
theorem ctX5_init (l : Launch) (g : Gx) (lo : Nat) (ad : Nat → Nat) (hAd : ADN ad) (hl0 : lo ≤ ad 0) {F : Nat → va_E} (hF : F (155) = .inr (5, [.null, .null, .null, .null, .int 0])) : MN l g lo (156) (175) ad yX5_init wsX5_init 3 55 19 150 [.ref (ad (155)), .ref (ad (3)), .ref (ad (13))] F (fun F' => (SeaC g ad F' 0 (fun _ => 0) ∧ RowsC g ad F' (0, false, fun _ => some 0, fun _ => lv0)) ∧ ∀ j, j < 155 → F' j = F j) := by
  refine enterN (cc := cX5_init) (maxL := 3) (ret := none) (own := RX5) (by decide +kernel) rfl rfl (Nat.le_of_ble_eq_true rfl) (adn_le hAd hl0 _) ?_
  intro pp ee ss mm below meth cc B hini hC hXA hlo ls hl
  have hl : lv_has ls 3 [(0, .ref (ad (155))), (1, .ref (ad (3))), (2, .ref (ad (13)))] := hl
  have ho : ∀ j, j < 155 → F j = F j := fun _ _ => rfl
  refine lv_aload_n B.1 B.2.1 dX5_init_0 rfl (lv_at hl 0 rfl) ?_
  refine r_oi B hl.1 (index := 3) wkX5_init_42 wkX5_init_43 wkX5_init_44 dX5_init_1 (Nat.le_of_ble_eq_true rfl) (Nat.le_of_ble_eq_true rfl) ?_
  refine lv_aload_n B.1 B.2.1 dX5_init_4 rfl (lv_at hl 0 rfl) ?_
  refine lv_iconst (v := nI 2) B.1 B.2.1 dX5_init_5 (by decide) ?_
  refine r_na (atype := .int) (ty := .int) B hAd hlo hC 0 rfl wkX5_init_45 rfl (n := 2) (a0 := (2, .inl (fun _ => 0))) (fun _ => rfl) (by decide) (by decide) (show _ ≤ 19 from by omega) (show _ ≤ 150 from by omega) dX5_init_6 (fun H hC => ?_)
  obtain ⟨F1, eF1⟩ : ∃ f : Nat → va_E, f = va_up F (156) (.inl (g.2.2 0, 2, .inl (fun _ => 0))) := ⟨_, rfl⟩
  have hC : Cn g lo (157) ad F1 ss ss.heap H [] := by rw [eF1]; exact hC
  have hF_F1 : F1 (155) = .inr (5, [.null, .null, .null, .null, .int 0]) := Eq.trans (by rw [eF1, va_up_ne _ _ (by omega)]) hF
  have ho_F1 : ∀ j, j < 155 → F1 j = F j := fun j hj => Eq.trans (by rw [eF1, va_up_ne _ _ (by omega)]) (ho j hj)
  have k156_F1 : F1 (156) = .inl (g.2.2 0, 2, .inl (fun _ => 0)) := by rw [eF1]; exact va_up_self _ _ _
  refine r_cpf B (hini rfl) hC (i := 155) (by omega) hF_F1 tyX5 tyX5_ok nmX5 (T := TX5) (n := 5) rfl iwX5_init_X5 3 (by decide) (index := 9) flX5_init_9 rfl rfl (v := .ref (ad (156))) rfl rfl (Nat.le_of_ble_eq_true rfl) dX5_init_8 (fun H locs hC => ?_)
  obtain ⟨F2, eF2⟩ : ∃ f : Nat → va_E, f = va_up F1 (155) (.inr (5, [.null, .null, .null, .ref (ad (156)), .int 0])) := ⟨_, rfl⟩
  have hC : Cn g lo (157) ad F2 ss ss.heap H locs := by rw [eF2]; exact hC
  have k156_F2 : F2 (156) = .inl (g.2.2 0, 2, .inl (fun _ => 0)) := Eq.trans (by rw [eF2, va_up_ne _ _ (by omega)]) k156_F1
  have ho_F2 : ∀ j, j < 155 → F2 j = F j := fun j hj => Eq.trans (by rw [eF2, va_up_ne _ _ (by omega)]) (ho_F1 j hj)
  have k155_F2 : F2 (155) = .inr (5, [.null, .null, .null, .ref (ad (156)), .int 0]) := by rw [eF2]; exact va_up_self _ _ _
  refine lv_aload_n B.1 B.2.1 dX5_init_11 rfl (lv_at hl 0 rfl) ?_
  refine lv_iconst (v := nI 0) B.1 B.2.1 dX5_init_12 (by decide) ?_
  refine r_cpn B hC (i := 155) (by omega) k155_F2 tyX5 tyX5_ok nmX5 (C := RX5) (T := TX5) (n := 5) rfl iwX5_init_X5 4 (by decide) (index := 15) flX5_init_15 rfl rfl (v := .int (nI 0)) rfl rfl (Nat.le_of_ble_eq_true rfl) dX5_init_13 (fun H locs hC => ?_)
  obtain ⟨F3, eF3⟩ : ∃ f : Nat → va_E, f = va_up F2 (155) (.inr (5, [.null, .null, .null, .ref (ad (156)), .int (nI 0)])) := ⟨_, rfl⟩
  have hC : Cn g lo (157) ad F3 ss ss.heap H locs := by rw [eF3]; exact hC
  have k156_F3 : F3 (156) = .inl (g.2.2 0, 2, .inl (fun _ => 0)) := Eq.trans (by rw [eF3, va_up_ne _ _ (by omega)]) k156_F2
  have ho_F3 : ∀ j, j < 155 → F3 j = F j := fun j hj => Eq.trans (by rw [eF3, va_up_ne _ _ (by omega)]) (ho_F2 j hj)
  have k155_F3 : F3 (155) = .inr (5, [.null, .null, .null, .ref (ad (156)), .int (nI 0)]) := by rw [eF3]; exact va_up_self _ _ _
  refine lv_aload_n B.1 B.2.1 dX5_init_16 rfl (lv_at hl 0 rfl) ?_
  refine lv_aload_n B.1 B.2.1 dX5_init_17 rfl (lv_at hl 1 rfl) ?_
  refine r_cpf B (hini rfl) hC (i := 155) (by omega) k155_F3 tyX5 tyX5_ok nmX5 (T := TX5) (n := 5) rfl iwX5_init_X5 0 (by decide) (index := 19) flX5_init_19 rfl rfl (v := .ref (ad (3))) rfl rfl (Nat.le_of_ble_eq_true rfl) dX5_init_18 (fun H locs hC => ?_)
  obtain ⟨F4, eF4⟩ : ∃ f : Nat → va_E, f = va_up F3 (155) (.inr (5, [.ref (ad (3)), .null, .null, .ref (ad (156)), .int (nI 0)])) := ⟨_, rfl⟩
  have hC : Cn g lo (157) ad F4 ss ss.heap H locs := by rw [eF4]; exact hC
  have k156_F4 : F4 (156) = .inl (g.2.2 0, 2, .inl (fun _ => 0)) := Eq.trans (by rw [eF4, va_up_ne _ _ (by omega)]) k156_F3
  have ho_F4 : ∀ j, j < 155 → F4 j = F j := fun j hj => Eq.trans (by rw [eF4, va_up_ne _ _ (by omega)]) (ho_F3 j hj)
  have k155_F4 : F4 (155) = .inr (5, [.ref (ad (3)), .null, .null, .ref (ad (156)), .int (nI 0)]) := by rw [eF4]; exact va_up_self _ _ _
  refine lv_aload_n B.1 B.2.1 dX5_init_21 rfl (lv_at hl 0 rfl) ?_
  refine lv_aload_n B.1 B.2.1 dX5_init_22 rfl (lv_at hl 2 rfl) ?_
  refine r_cpf B (hini rfl) hC (i := 155) (by omega) k155_F4 tyX5 tyX5_ok nmX5 (T := TX5) (n := 5) rfl iwX5_init_X5 1 (by decide) (index := 23) flX5_init_23 rfl rfl (v := .ref (ad (13))) rfl rfl (Nat.le_of_ble_eq_true rfl) dX5_init_23 (fun H locs hC => ?_)
  obtain ⟨F5, eF5⟩ : ∃ f : Nat → va_E, f = va_up F4 (155) (.inr (5, [.ref (ad (3)), .ref (ad (13)), .null, .ref (ad (156)), .int (nI 0)])) := ⟨_, rfl⟩
  have hC : Cn g lo (157) ad F5 ss ss.heap H locs := by rw [eF5]; exact hC
  have k156_F5 : F5 (156) = .inl (g.2.2 0, 2, .inl (fun _ => 0)) := Eq.trans (by rw [eF5, va_up_ne _ _ (by omega)]) k156_F4
  have ho_F5 : ∀ j, j < 155 → F5 j = F j := fun j hj => Eq.trans (by rw [eF5, va_up_ne _ _ (by omega)]) (ho_F4 j hj)
  have k155_F5 : F5 (155) = .inr (5, [.ref (ad (3)), .ref (ad (13)), .null, .ref (ad (156)), .int (nI 0)]) := by rw [eF5]; exact va_up_self _ _ _
  refine lv_aload_n B.1 B.2.1 dX5_init_26 rfl (lv_at hl 0 rfl) ?_
  refine r_nw B hAd hlo hC 4 (C := RX4) (T := TX4) (n := 5) (index := 27) rfl iwX5_init_X4 tyX4 tyX4_ok wkX5_init_46 wkX5_init_47 wkX5_init_48 (fs := [.null, .null, .null, .int 0, .int 0]) dfX4 (show _ ≤ 19 from by omega) (show _ ≤ 150 from by omega) dX5_init_27 (fun H hC => ?_)
  obtain ⟨F6, eF6⟩ : ∃ f : Nat → va_E, f = va_up F5 (157) (.inr (4, [.null, .null, .null, .int 0, .int 0])) := ⟨_, rfl⟩
  have hC : Cn g lo (158) ad F6 ss ss.heap H locs := by rw [eF6]; exact hC
  have k156_F6 : F6 (156) = .inl (g.2.2 0, 2, .inl (fun _ => 0)) := Eq.trans (by rw [eF6, va_up_ne _ _ (by omega)]) k156_F5
  have k155_F6 : F6 (155) = .inr (5, [.ref (ad (3)), .ref (ad (13)), .null, .ref (ad (156)), .int (nI 0)]) := Eq.trans (by rw [eF6, va_up_ne _ _ (by omega)]) k155_F5
  have ho_F6 : ∀ j, j < 155 → F6 j = F j := fun j hj => Eq.trans (by rw [eF6, va_up_ne _ _ (by omega)]) (ho_F5 j hj)
  have k157_F6 : F6 (157) = .inr (4, [.null, .null, .null, .int 0, .int 0]) := by rw [eF6]; exact va_up_self _ _ _
  refine lv_dup B.1 B.2.1 dX5_init_30 rfl ?_
  refine lv_aload_n B.1 B.2.1 dX5_init_31 rfl (lv_at hl 1 rfl) ?_
  refine r_ci B hl.1 hXA hC (i := 157) (As := [.ref (ad (3))]) (ctX4_init l g lo ad hAd hl0 k157_F6) gX5_init_X4_init rfl wkX5_init_48 wkX5_init_49 wkX5_init_50 rfl (n := 1) rfl (by decide +kernel) ⟨Nat.le_of_ble_eq_true rfl, Nat.le_of_ble_eq_true rfl⟩ ⟨show _ ≤ 19 from by omega, show _ ≤ 150 from by omega⟩ rfl (Nat.le_of_ble_eq_true rfl) dX5_init_32 (fun F7 H locs hp7 hC => ?_)
  obtain ⟨hR, hx7⟩ := hp7
  have hC : Cn g lo (175) ad F7 ss ss.heap H locs := hC
  have k156_F7 : F7 (156) = .inl (g.2.2 0, 2, .inl (fun _ => 0)) := Eq.trans (hx7 156 (by omega)) k156_F6
  have k155_F7 : F7 (155) = .inr (5, [.ref (ad (3)), .ref (ad (13)), .null, .ref (ad (156)), .int (nI 0)]) := Eq.trans (hx7 155 (by omega)) k155_F6
  have ho_F7 : ∀ j, j < 155 → F7 j = F j := fun j hj => Eq.trans (hx7 j (by omega)) (ho_F6 j hj)
  refine r_cpf B (hini rfl) hC (i := 155) (by omega) k155_F7 tyX5 tyX5_ok nmX5 (T := TX5) (n := 5) rfl iwX5_init_X5 2 (by decide) (index := 32) flX5_init_32 rfl rfl (v := .ref (ad (157))) rfl rfl (Nat.le_of_ble_eq_true rfl) dX5_init_35 (fun H locs hC => ?_)
  obtain ⟨F8, eF8⟩ : ∃ f : Nat → va_E, f = va_up F7 (155) (.inr (5, [.ref (ad (3)), .ref (ad (13)), .ref (ad (157)), .ref (ad (156)), .int (nI 0)])) := ⟨_, rfl⟩
  have hC : Cn g lo (175) ad F8 ss ss.heap H locs := by rw [eF8]; exact hC
  have k156_F8 : F8 (156) = .inl (g.2.2 0, 2, .inl (fun _ => 0)) := Eq.trans (by rw [eF8, va_up_ne _ _ (by omega)]) k156_F7
  have hR_F8 : RowsC g ad F8 (0, false, fun _ => some 0, fun _ => lv0) := RowsC.at hR (fun i h1 h2 => by rw [eF8, va_up_ne _ _ (by omega)])
  have ho_F8 : ∀ j, j < 155 → F8 j = F j := fun j hj => Eq.trans (by rw [eF8, va_up_ne _ _ (by omega)]) (ho_F7 j hj)
  have k155_F8 : F8 (155) = .inr (5, [.ref (ad (3)), .ref (ad (13)), .ref (ad (157)), .ref (ad (156)), .int (nI 0)]) := by rw [eF8]; exact va_up_self _ _ _
  exact r_eN B hC (⟨⟨⟨k155_F8, k156_F8⟩, hR_F8⟩, ho_F8⟩) dX5_init_38
theorem wkX8_init_51 : Cond.methodLink RX8 1 objectInit ∈ wsX8_init := by decide +kernel
theorem wkX8_init_52 : Cond.instanceMethod objectInit ∈ wsX8_init := by decide +kernel
theorem wkX8_init_53 : Cond.code objectInit ⟨#[0xb1]⟩ 1 none ∈ wsX8_init := by decide +kernel
theorem wkX8_init_54 : Cond.classLink RX8 7 RX7 ∈ wsX8_init := by decide +kernel
theorem wkX8_init_55 : Cond.instantiable RX7 2 ∈ wsX8_init := by decide +kernel
theorem wkX8_init_56 : Cond.initialized RX7 ∈ wsX8_init := by decide +kernel
theorem wkX8_init_57 : Cond.instanceMethod yX7_init ∈ wsX8_init := by decide +kernel
theorem wkX8_init_58 : Cond.classLink RX8 16 RX2 ∈ wsX8_init := by decide +kernel
theorem wkX8_init_59 : Cond.instantiable RX2 7 ∈ wsX8_init := by decide +kernel
theorem wkX8_init_60 : Cond.initialized RX2 ∈ wsX8_init := by decide +kernel
theorem wkX8_init_61 : Cond.instanceMethod yX2_init ∈ wsX8_init := by decide +kernel
theorem wkX8_init_62 : Cond.classLink RX8 23 RX3 ∈ wsX8_init := by decide +kernel
theorem wkX8_init_63 : Cond.instantiable RX3 6 ∈ wsX8_init := by decide +kernel
theorem wkX8_init_64 : Cond.initialized RX3 ∈ wsX8_init := by decide +kernel
theorem wkX8_init_65 : Cond.methodLink RX8 25 yX3_init ∈ wsX8_init := by decide +kernel
theorem wkX8_init_66 : Cond.instanceMethod yX3_init ∈ wsX8_init := by decide +kernel
theorem wkX8_init_67 : Cond.classLink RX8 33 RX0 ∈ wsX8_init := by decide +kernel
theorem wkX8_init_68 : Cond.instantiable RX0 3 ∈ wsX8_init := by decide +kernel
theorem wkX8_init_69 : Cond.initialized RX0 ∈ wsX8_init := by decide +kernel
theorem wkX8_init_70 : Cond.methodLink RX8 35 yX0_init ∈ wsX8_init := by decide +kernel
theorem wkX8_init_71 : Cond.instanceMethod yX0_init ∈ wsX8_init := by decide +kernel
theorem wkX8_init_72 : Cond.classLink RX8 40 RX6 ∈ wsX8_init := by decide +kernel
theorem wkX8_init_73 : Cond.instantiable RX6 2 ∈ wsX8_init := by decide +kernel
theorem wkX8_init_74 : Cond.initialized RX6 ∈ wsX8_init := by decide +kernel
theorem wkX8_init_75 : Cond.methodLink RX8 42 yX6_init ∈ wsX8_init := by decide +kernel
theorem wkX8_init_76 : Cond.instanceMethod yX6_init ∈ wsX8_init := by decide +kernel
theorem wkX8_init_77 : Cond.classLink RX8 47 RX1 ∈ wsX8_init := by decide +kernel
theorem wkX8_init_78 : Cond.instantiable RX1 2 ∈ wsX8_init := by decide +kernel
theorem wkX8_init_79 : Cond.initialized RX1 ∈ wsX8_init := by decide +kernel
theorem wkX8_init_80 : Cond.instanceMethod yX1_init ∈ wsX8_init := by decide +kernel
theorem wkX8_init_81 : Cond.classLink RX8 54 RX5 ∈ wsX8_init := by decide +kernel
theorem wkX8_init_82 : Cond.instantiable RX5 5 ∈ wsX8_init := by decide +kernel
theorem wkX8_init_83 : Cond.initialized RX5 ∈ wsX8_init := by decide +kernel
theorem wkX8_init_84 : Cond.methodLink RX8 56 yX5_init ∈ wsX8_init := by decide +kernel
theorem wkX8_init_85 : Cond.instanceMethod yX5_init ∈ wsX8_init := by decide +kernel
theorem iwX8_init_X0 : ∀ w ∈ u_ws RX0 TX0 3, w ∈ wsX8_init := by decide +kernel
theorem iwX8_init_X1 : ∀ w ∈ u_ws RX1 TX1 2, w ∈ wsX8_init := by decide +kernel
theorem iwX8_init_X2 : ∀ w ∈ u_ws RX2 TX2 7, w ∈ wsX8_init := by decide +kernel
theorem iwX8_init_X3 : ∀ w ∈ u_ws RX3 TX3 6, w ∈ wsX8_init := by decide +kernel
theorem iwX8_init_X5 : ∀ w ∈ u_ws RX5 TX5 5, w ∈ wsX8_init := by decide +kernel
theorem iwX8_init_X6 : ∀ w ∈ u_ws RX6 TX6 2, w ∈ wsX8_init := by decide +kernel
theorem iwX8_init_X7 : ∀ w ∈ u_ws RX7 TX7 2, w ∈ wsX8_init := by decide +kernel
theorem iwX8_init_X8 : ∀ w ∈ u_ws RX8 TX8 8, w ∈ wsX8_init := by decide +kernel
theorem flX8_init_10 : Cond.fieldLink RX8 10 RX8 (TX8 0).2.1 (TX8 0).2.2.1 ∈ wsX8_init := by decide +kernel
theorem flX8_init_19 : Cond.fieldLink RX8 19 RX8 (TX8 1).2.1 (TX8 1).2.2.1 ∈ wsX8_init := by decide +kernel
theorem flX8_init_26 : Cond.fieldLink RX8 26 RX8 (TX8 2).2.1 (TX8 2).2.2.1 ∈ wsX8_init := by decide +kernel
theorem flX8_init_30 : Cond.fieldLink RX8 30 RX8 (TX8 3).2.1 (TX8 3).2.2.1 ∈ wsX8_init := by decide +kernel
theorem flX8_init_36 : Cond.fieldLink RX8 36 RX8 (TX8 4).2.1 (TX8 4).2.2.1 ∈ wsX8_init := by decide +kernel
theorem flX8_init_43 : Cond.fieldLink RX8 43 RX8 (TX8 5).2.1 (TX8 5).2.2.1 ∈ wsX8_init := by decide +kernel
theorem flX8_init_50 : Cond.fieldLink RX8 50 RX8 (TX8 6).2.1 (TX8 6).2.2.1 ∈ wsX8_init := by decide +kernel
theorem flX8_init_59 : Cond.fieldLink RX8 59 RX8 (TX8 7).2.1 (TX8 7).2.2.1 ∈ wsX8_init := by decide +kernel
set_option maxHeartbeats 4000000 in
set_option maxRecDepth 100000 in
theorem ctX8_init (l : Launch) (g : Gx) (lo : Nat) (ad : Nat → Nat) (hAd : ADN ad) (hl0 : lo ≤ ad 0) {F : Nat → va_E} (hF : F (0) = .inr (8, [.null, .null, .null, .null, .null, .null, .null, .null])) : MN l g lo (1) (175) ad yX8_init wsX8_init 4 77 174 1690 [.ref (ad (0))] F (fun F' => XC g ad F' x0) := by
  refine enterN (cc := cX8_init) (maxL := 1) (ret := none) (own := RX8) (by decide +kernel) rfl rfl (Nat.le_of_ble_eq_true rfl) (adn_le hAd hl0 _) ?_
  intro pp ee ss mm below meth cc B hini hC hXA hlo ls hl
  have hl : lv_has ls 1 [(0, .ref (ad (0)))] := hl
  refine lv_aload_n B.1 B.2.1 dX8_init_0 rfl (lv_at hl 0 rfl) ?_
  refine r_oi B hl.1 (index := 1) wkX8_init_51 wkX8_init_52 wkX8_init_53 dX8_init_1 (Nat.le_of_ble_eq_true rfl) (Nat.le_of_ble_eq_true rfl) ?_
  refine lv_aload_n B.1 B.2.1 dX8_init_4 rfl (lv_at hl 0 rfl) ?_
  refine r_nw B hAd hlo hC 7 (C := RX7) (T := TX7) (n := 2) (index := 7) rfl iwX8_init_X7 tyX7 tyX7_ok wkX8_init_54 wkX8_init_55 wkX8_init_56 (fs := [.null, .int 0]) dfX7 (show _ ≤ 174 from by omega) (show _ ≤ 1690 from by omega) dX8_init_5 (fun H hC => ?_)
  obtain ⟨F1, eF1⟩ : ∃ f : Nat → va_E, f = va_up F (1) (.inr (7, [.null, .int 0])) := ⟨_, rfl⟩
  have hC : Cn g lo (2) ad F1 ss ss.heap H [] := by rw [eF1]; exact hC
  have hF_F1 : F1 (0) = .inr (8, [.null, .null, .null, .null, .null, .null, .null, .null]) := Eq.trans (by rw [eF1, va_up_ne _ _ (by omega)]) hF
  have k1_F1 : F1 (1) = .inr (7, [.null, .int 0]) := by rw [eF1]; exact va_up_self _ _ _
  refine lv_dup B.1 B.2.1 dX8_init_8 rfl ?_
  refine r_cin B hl.1 hXA hC (i := 1) (As := []) (ctX7_init l g lo ad hAd hl0 k1_F1) gX8_init_X7_init_n9 rfl wkX8_init_56 hXA.2.1 wkX8_init_57 rfl (n := 0) rfl (by decide +kernel) ⟨Nat.le_of_ble_eq_true rfl, Nat.le_of_ble_eq_true rfl⟩ ⟨show _ ≤ 174 from by omega, show _ ≤ 1690 from by omega⟩ rfl (Nat.le_of_ble_eq_true rfl) dX8_init_9 (fun F2 H locs hp2 hC => ?_)
  obtain ⟨mT, hx2⟩ := hp2
  have hC : Cn g lo (3) ad F2 ss ss.heap H locs := hC
  have hF_F2 : F2 (0) = .inr (8, [.null, .null, .null, .null, .null, .null, .null, .null]) := Eq.trans (hx2 0 (by omega)) hF_F1
  refine r_cpf B (hini rfl) hC (i := 0) (by omega) hF_F2 tyX8 tyX8_ok nmX8 (T := TX8) (n := 8) rfl iwX8_init_X8 0 (by decide) (index := 10) flX8_init_10 rfl rfl (v := .ref (ad (1))) rfl rfl (Nat.le_of_ble_eq_true rfl) dX8_init_12 (fun H locs hC => ?_)
  obtain ⟨F3, eF3⟩ : ∃ f : Nat → va_E, f = va_up F2 (0) (.inr (8, [.ref (ad (1)), .null, .null, .null, .null, .null, .null, .null])) := ⟨_, rfl⟩
  have hC : Cn g lo (3) ad F3 ss ss.heap H locs := by rw [eF3]; exact hC
  have mT_F3 : TextC g ad F3 (fun _ => 0, 0) := TextC.at mT (fun i h1 h2 => by rw [eF3, va_up_ne _ _ (by omega)])
  have k0_F3 : F3 (0) = .inr (8, [.ref (ad (1)), .null, .null, .null, .null, .null, .null, .null]) := by rw [eF3]; exact va_up_self _ _ _
  refine lv_aload_n B.1 B.2.1 dX8_init_15 rfl (lv_at hl 0 rfl) ?_
  refine r_nw B hAd hlo hC 2 (C := RX2) (T := TX2) (n := 7) (index := 16) rfl iwX8_init_X2 tyX2 tyX2_ok wkX8_init_58 wkX8_init_59 wkX8_init_60 (fs := [.null, .null, .null, .null, .int 0, .int 0, .int 0]) dfX2 (show _ ≤ 174 from by omega) (show _ ≤ 1690 from by omega) dX8_init_16 (fun H hC => ?_)
  obtain ⟨F4, eF4⟩ : ∃ f : Nat → va_E, f = va_up F3 (3) (.inr (2, [.null, .null, .null, .null, .int 0, .int 0, .int 0])) := ⟨_, rfl⟩
  have hC : Cn g lo (4) ad F4 ss ss.heap H locs := by rw [eF4]; exact hC
  have k0_F4 : F4 (0) = .inr (8, [.ref (ad (1)), .null, .null, .null, .null, .null, .null, .null]) := Eq.trans (by rw [eF4, va_up_ne _ _ (by omega)]) k0_F3
  have mT_F4 : TextC g ad F4 (fun _ => 0, 0) := TextC.at mT_F3 (fun i h1 h2 => by rw [eF4, va_up_ne _ _ (by omega)])
  have k3_F4 : F4 (3) = .inr (2, [.null, .null, .null, .null, .int 0, .int 0, .int 0]) := by rw [eF4]; exact va_up_self _ _ _
  refine lv_dup B.1 B.2.1 dX8_init_19 rfl ?_
  refine r_cin B hl.1 hXA hC (i := 3) (As := []) (ctX2_init l g lo ad hAd hl0 k3_F4) gX8_init_X2_init_n18 rfl wkX8_init_60 hXA.2.2.1 wkX8_init_61 rfl (n := 0) rfl (by decide +kernel) ⟨Nat.le_of_ble_eq_true rfl, Nat.le_of_ble_eq_true rfl⟩ ⟨show _ ≤ 174 from by omega, show _ ≤ 1690 from by omega⟩ rfl (Nat.le_of_ble_eq_true rfl) dX8_init_20 (fun F5 H locs hp5 hC => ?_)
  obtain ⟨mH, hx5⟩ := hp5
  have hC : Cn g lo (8) ad F5 ss ss.heap H locs := hC
  have k0_F5 : F5 (0) = .inr (8, [.ref (ad (1)), .null, .null, .null, .null, .null, .null, .null]) := Eq.trans (hx5 0 (by omega)) k0_F4
  have mT_F5 : TextC g ad F5 (fun _ => 0, 0) := TextC.at mT_F4 (fun i h1 h2 => hx5 i (by omega))
  refine r_cpf B (hini rfl) hC (i := 0) (by omega) k0_F5 tyX8 tyX8_ok nmX8 (T := TX8) (n := 8) rfl iwX8_init_X8 1 (by decide) (index := 19) flX8_init_19 rfl rfl (v := .ref (ad (3))) rfl rfl (Nat.le_of_ble_eq_true rfl) dX8_init_23 (fun H locs hC => ?_)
  obtain ⟨F6, eF6⟩ : ∃ f : Nat → va_E, f = va_up F5 (0) (.inr (8, [.ref (ad (1)), .ref (ad (3)), .null, .null, .null, .null, .null, .null])) := ⟨_, rfl⟩
  have hC : Cn g lo (8) ad F6 ss ss.heap H locs := by rw [eF6]; exact hC
  have mT_F6 : TextC g ad F6 (fun _ => 0, 0) := TextC.at mT_F5 (fun i h1 h2 => by rw [eF6, va_up_ne _ _ (by omega)])
  have mH_F6 : HullC g ad F6 hv0 := HullC.at mH (fun i h1 h2 => by rw [eF6, va_up_ne _ _ (by omega)])
  have k0_F6 : F6 (0) = .inr (8, [.ref (ad (1)), .ref (ad (3)), .null, .null, .null, .null, .null, .null]) := by rw [eF6]; exact va_up_self _ _ _
  refine lv_aload_n B.1 B.2.1 dX8_init_26 rfl (lv_at hl 0 rfl) ?_
  refine r_nw B hAd hlo hC 3 (C := RX3) (T := TX3) (n := 6) (index := 23) rfl iwX8_init_X3 tyX3 tyX3_ok wkX8_init_62 wkX8_init_63 wkX8_init_64 (fs := [.null, .null, .null, .null, .int 0, .int 0]) dfX3 (show _ ≤ 174 from by omega) (show _ ≤ 1690 from by omega) dX8_init_27 (fun H hC => ?_)
  obtain ⟨F7, eF7⟩ : ∃ f : Nat → va_E, f = va_up F6 (8) (.inr (3, [.null, .null, .null, .null, .int 0, .int 0])) := ⟨_, rfl⟩
  have hC : Cn g lo (9) ad F7 ss ss.heap H locs := by rw [eF7]; exact hC
  have k0_F7 : F7 (0) = .inr (8, [.ref (ad (1)), .ref (ad (3)), .null, .null, .null, .null, .null, .null]) := Eq.trans (by rw [eF7, va_up_ne _ _ (by omega)]) k0_F6
  have mT_F7 : TextC g ad F7 (fun _ => 0, 0) := TextC.at mT_F6 (fun i h1 h2 => by rw [eF7, va_up_ne _ _ (by omega)])
  have mH_F7 : HullC g ad F7 hv0 := HullC.at mH_F6 (fun i h1 h2 => by rw [eF7, va_up_ne _ _ (by omega)])
  have k8_F7 : F7 (8) = .inr (3, [.null, .null, .null, .null, .int 0, .int 0]) := by rw [eF7]; exact va_up_self _ _ _
  refine lv_dup B.1 B.2.1 dX8_init_30 rfl ?_
  refine r_ci B hl.1 hXA hC (i := 8) (As := []) (ctX3_init l g lo ad hAd hl0 (b := 8) k8_F7) gX8_init_X3_init rfl wkX8_init_64 wkX8_init_65 wkX8_init_66 rfl (n := 0) rfl (by decide +kernel) ⟨Nat.le_of_ble_eq_true rfl, Nat.le_of_ble_eq_true rfl⟩ ⟨show _ ≤ 174 from by omega, show _ ≤ 1690 from by omega⟩ rfl (Nat.le_of_ble_eq_true rfl) dX8_init_31 (fun F8 H locs hp8 hC => ?_)
  obtain ⟨mL, hx8⟩ := hp8
  have hC : Cn g lo (13) ad F8 ss ss.heap H locs := hC
  have k0_F8 : F8 (0) = .inr (8, [.ref (ad (1)), .ref (ad (3)), .null, .null, .null, .null, .null, .null]) := Eq.trans (hx8 0 (by omega)) k0_F7
  have mT_F8 : TextC g ad F8 (fun _ => 0, 0) := TextC.at mT_F7 (fun i h1 h2 => hx8 i (by omega))
  have mH_F8 : HullC g ad F8 hv0 := HullC.at mH_F7 (fun i h1 h2 => hx8 i (by omega))
  refine r_cpf B (hini rfl) hC (i := 0) (by omega) k0_F8 tyX8 tyX8_ok nmX8 (T := TX8) (n := 8) rfl iwX8_init_X8 2 (by decide) (index := 26) flX8_init_26 rfl rfl (v := .ref (ad (8))) rfl rfl (Nat.le_of_ble_eq_true rfl) dX8_init_34 (fun H locs hC => ?_)
  obtain ⟨F9, eF9⟩ : ∃ f : Nat → va_E, f = va_up F8 (0) (.inr (8, [.ref (ad (1)), .ref (ad (3)), .ref (ad (8)), .null, .null, .null, .null, .null])) := ⟨_, rfl⟩
  have hC : Cn g lo (13) ad F9 ss ss.heap H locs := by rw [eF9]; exact hC
  have mT_F9 : TextC g ad F9 (fun _ => 0, 0) := TextC.at mT_F8 (fun i h1 h2 => by rw [eF9, va_up_ne _ _ (by omega)])
  have mH_F9 : HullC g ad F9 hv0 := HullC.at mH_F8 (fun i h1 h2 => by rw [eF9, va_up_ne _ _ (by omega)])
  have mL_F9 : LoadC g ad F9 8 lv0 := LoadC.at mL (fun i h1 h2 => by rw [eF9, va_up_ne _ _ (by omega)])
  have k0_F9 : F9 (0) = .inr (8, [.ref (ad (1)), .ref (ad (3)), .ref (ad (8)), .null, .null, .null, .null, .null]) := by rw [eF9]; exact va_up_self _ _ _
  refine lv_aload_n B.1 B.2.1 dX8_init_37 rfl (lv_at hl 0 rfl) ?_
  refine r_nw B hAd hlo hC 3 (C := RX3) (T := TX3) (n := 6) (index := 23) rfl iwX8_init_X3 tyX3 tyX3_ok wkX8_init_62 wkX8_init_63 wkX8_init_64 (fs := [.null, .null, .null, .null, .int 0, .int 0]) dfX3 (show _ ≤ 174 from by omega) (show _ ≤ 1690 from by omega) dX8_init_38 (fun H hC => ?_)
  obtain ⟨F10, eF10⟩ : ∃ f : Nat → va_E, f = va_up F9 (13) (.inr (3, [.null, .null, .null, .null, .int 0, .int 0])) := ⟨_, rfl⟩
  have hC : Cn g lo (14) ad F10 ss ss.heap H locs := by rw [eF10]; exact hC
  have k0_F10 : F10 (0) = .inr (8, [.ref (ad (1)), .ref (ad (3)), .ref (ad (8)), .null, .null, .null, .null, .null]) := Eq.trans (by rw [eF10, va_up_ne _ _ (by omega)]) k0_F9
  have mT_F10 : TextC g ad F10 (fun _ => 0, 0) := TextC.at mT_F9 (fun i h1 h2 => by rw [eF10, va_up_ne _ _ (by omega)])
  have mH_F10 : HullC g ad F10 hv0 := HullC.at mH_F9 (fun i h1 h2 => by rw [eF10, va_up_ne _ _ (by omega)])
  have mL_F10 : LoadC g ad F10 8 lv0 := LoadC.at mL_F9 (fun i h1 h2 => by rw [eF10, va_up_ne _ _ (by omega)])
  have k13_F10 : F10 (13) = .inr (3, [.null, .null, .null, .null, .int 0, .int 0]) := by rw [eF10]; exact va_up_self _ _ _
  refine lv_dup B.1 B.2.1 dX8_init_41 rfl ?_
  refine r_ci B hl.1 hXA hC (i := 13) (As := []) (ctX3_init l g lo ad hAd hl0 (b := 13) k13_F10) gX8_init_X3_init rfl wkX8_init_64 wkX8_init_65 wkX8_init_66 rfl (n := 0) rfl (by decide +kernel) ⟨Nat.le_of_ble_eq_true rfl, Nat.le_of_ble_eq_true rfl⟩ ⟨show _ ≤ 174 from by omega, show _ ≤ 1690 from by omega⟩ rfl (Nat.le_of_ble_eq_true rfl) dX8_init_42 (fun F11 H locs hp11 hC => ?_)
  obtain ⟨mW, hx11⟩ := hp11
  have hC : Cn g lo (18) ad F11 ss ss.heap H locs := hC
  have k0_F11 : F11 (0) = .inr (8, [.ref (ad (1)), .ref (ad (3)), .ref (ad (8)), .null, .null, .null, .null, .null]) := Eq.trans (hx11 0 (by omega)) k0_F10
  have mT_F11 : TextC g ad F11 (fun _ => 0, 0) := TextC.at mT_F10 (fun i h1 h2 => hx11 i (by omega))
  have mH_F11 : HullC g ad F11 hv0 := HullC.at mH_F10 (fun i h1 h2 => hx11 i (by omega))
  have mL_F11 : LoadC g ad F11 8 lv0 := LoadC.at mL_F10 (fun i h1 h2 => hx11 i (by omega))
  refine r_cpf B (hini rfl) hC (i := 0) (by omega) k0_F11 tyX8 tyX8_ok nmX8 (T := TX8) (n := 8) rfl iwX8_init_X8 3 (by decide) (index := 30) flX8_init_30 rfl rfl (v := .ref (ad (13))) rfl rfl (Nat.le_of_ble_eq_true rfl) dX8_init_45 (fun H locs hC => ?_)
  obtain ⟨F12, eF12⟩ : ∃ f : Nat → va_E, f = va_up F11 (0) (.inr (8, [.ref (ad (1)), .ref (ad (3)), .ref (ad (8)), .ref (ad (13)), .null, .null, .null, .null])) := ⟨_, rfl⟩
  have hC : Cn g lo (18) ad F12 ss ss.heap H locs := by rw [eF12]; exact hC
  have mT_F12 : TextC g ad F12 (fun _ => 0, 0) := TextC.at mT_F11 (fun i h1 h2 => by rw [eF12, va_up_ne _ _ (by omega)])
  have mH_F12 : HullC g ad F12 hv0 := HullC.at mH_F11 (fun i h1 h2 => by rw [eF12, va_up_ne _ _ (by omega)])
  have mL_F12 : LoadC g ad F12 8 lv0 := LoadC.at mL_F11 (fun i h1 h2 => by rw [eF12, va_up_ne _ _ (by omega)])
  have mW_F12 : LoadC g ad F12 13 lv0 := LoadC.at mW (fun i h1 h2 => by rw [eF12, va_up_ne _ _ (by omega)])
  have k0_F12 : F12 (0) = .inr (8, [.ref (ad (1)), .ref (ad (3)), .ref (ad (8)), .ref (ad (13)), .null, .null, .null, .null]) := by rw [eF12]; exact va_up_self _ _ _
  refine lv_aload_n B.1 B.2.1 dX8_init_48 rfl (lv_at hl 0 rfl) ?_
  refine r_nw B hAd hlo hC 0 (C := RX0) (T := TX0) (n := 3) (index := 33) rfl iwX8_init_X0 tyX0 tyX0_ok wkX8_init_67 wkX8_init_68 wkX8_init_69 (fs := [.null, .int 0, .int 0]) dfX0 (show _ ≤ 174 from by omega) (show _ ≤ 1690 from by omega) dX8_init_49 (fun H hC => ?_)
  obtain ⟨F13, eF13⟩ : ∃ f : Nat → va_E, f = va_up F12 (18) (.inr (0, [.null, .int 0, .int 0])) := ⟨_, rfl⟩
  have hC : Cn g lo (19) ad F13 ss ss.heap H locs := by rw [eF13]; exact hC
  have k0_F13 : F13 (0) = .inr (8, [.ref (ad (1)), .ref (ad (3)), .ref (ad (8)), .ref (ad (13)), .null, .null, .null, .null]) := Eq.trans (by rw [eF13, va_up_ne _ _ (by omega)]) k0_F12
  have mT_F13 : TextC g ad F13 (fun _ => 0, 0) := TextC.at mT_F12 (fun i h1 h2 => by rw [eF13, va_up_ne _ _ (by omega)])
  have mH_F13 : HullC g ad F13 hv0 := HullC.at mH_F12 (fun i h1 h2 => by rw [eF13, va_up_ne _ _ (by omega)])
  have mL_F13 : LoadC g ad F13 8 lv0 := LoadC.at mL_F12 (fun i h1 h2 => by rw [eF13, va_up_ne _ _ (by omega)])
  have mW_F13 : LoadC g ad F13 13 lv0 := LoadC.at mW_F12 (fun i h1 h2 => by rw [eF13, va_up_ne _ _ (by omega)])
  have k18_F13 : F13 (18) = .inr (0, [.null, .int 0, .int 0]) := by rw [eF13]; exact va_up_self _ _ _
  refine lv_dup B.1 B.2.1 dX8_init_52 rfl ?_
  refine r_ci B hl.1 hXA hC (i := 18) (As := []) (ctX0_init l g lo ad hAd hl0 k18_F13) gX8_init_X0_init rfl wkX8_init_69 wkX8_init_70 wkX8_init_71 rfl (n := 0) rfl (by decide +kernel) ⟨Nat.le_of_ble_eq_true rfl, Nat.le_of_ble_eq_true rfl⟩ ⟨show _ ≤ 174 from by omega, show _ ≤ 1690 from by omega⟩ rfl (Nat.le_of_ble_eq_true rfl) dX8_init_53 (fun F14 H locs hp14 hC => ?_)
  obtain ⟨mA, hx14⟩ := hp14
  have hC : Cn g lo (140) ad F14 ss ss.heap H locs := hC
  have k0_F14 : F14 (0) = .inr (8, [.ref (ad (1)), .ref (ad (3)), .ref (ad (8)), .ref (ad (13)), .null, .null, .null, .null]) := Eq.trans (hx14 0 (by omega)) k0_F13
  have mT_F14 : TextC g ad F14 (fun _ => 0, 0) := TextC.at mT_F13 (fun i h1 h2 => hx14 i (by omega))
  have mH_F14 : HullC g ad F14 hv0 := HullC.at mH_F13 (fun i h1 h2 => hx14 i (by omega))
  have mL_F14 : LoadC g ad F14 8 lv0 := LoadC.at mL_F13 (fun i h1 h2 => hx14 i (by omega))
  have mW_F14 : LoadC g ad F14 13 lv0 := LoadC.at mW_F13 (fun i h1 h2 => hx14 i (by omega))
  refine r_cpf B (hini rfl) hC (i := 0) (by omega) k0_F14 tyX8 tyX8_ok nmX8 (T := TX8) (n := 8) rfl iwX8_init_X8 4 (by decide) (index := 36) flX8_init_36 rfl rfl (v := .ref (ad (18))) rfl rfl (Nat.le_of_ble_eq_true rfl) dX8_init_56 (fun H locs hC => ?_)
  obtain ⟨F15, eF15⟩ : ∃ f : Nat → va_E, f = va_up F14 (0) (.inr (8, [.ref (ad (1)), .ref (ad (3)), .ref (ad (8)), .ref (ad (13)), .ref (ad (18)), .null, .null, .null])) := ⟨_, rfl⟩
  have hC : Cn g lo (140) ad F15 ss ss.heap H locs := by rw [eF15]; exact hC
  have mT_F15 : TextC g ad F15 (fun _ => 0, 0) := TextC.at mT_F14 (fun i h1 h2 => by rw [eF15, va_up_ne _ _ (by omega)])
  have mH_F15 : HullC g ad F15 hv0 := HullC.at mH_F14 (fun i h1 h2 => by rw [eF15, va_up_ne _ _ (by omega)])
  have mL_F15 : LoadC g ad F15 8 lv0 := LoadC.at mL_F14 (fun i h1 h2 => by rw [eF15, va_up_ne _ _ (by omega)])
  have mW_F15 : LoadC g ad F15 13 lv0 := LoadC.at mW_F14 (fun i h1 h2 => by rw [eF15, va_up_ne _ _ (by omega)])
  have mA_F15 : ActC g ad F15 (0, 0, fun _ => lv0) := ActC.keep mA (fun i h1 h2 => by rw [eF15, va_up_ne _ _ (by omega)])
  have k0_F15 : F15 (0) = .inr (8, [.ref (ad (1)), .ref (ad (3)), .ref (ad (8)), .ref (ad (13)), .ref (ad (18)), .null, .null, .null]) := by rw [eF15]; exact va_up_self _ _ _
  refine lv_aload_n B.1 B.2.1 dX8_init_59 rfl (lv_at hl 0 rfl) ?_
  refine r_nw B hAd hlo hC 6 (C := RX6) (T := TX6) (n := 2) (index := 40) rfl iwX8_init_X6 tyX6 tyX6_ok wkX8_init_72 wkX8_init_73 wkX8_init_74 (fs := [.null, .null]) dfX6 (show _ ≤ 174 from by omega) (show _ ≤ 1690 from by omega) dX8_init_60 (fun H hC => ?_)
  obtain ⟨F16, eF16⟩ : ∃ f : Nat → va_E, f = va_up F15 (140) (.inr (6, [.null, .null])) := ⟨_, rfl⟩
  have hC : Cn g lo (141) ad F16 ss ss.heap H locs := by rw [eF16]; exact hC
  have k0_F16 : F16 (0) = .inr (8, [.ref (ad (1)), .ref (ad (3)), .ref (ad (8)), .ref (ad (13)), .ref (ad (18)), .null, .null, .null]) := Eq.trans (by rw [eF16, va_up_ne _ _ (by omega)]) k0_F15
  have mT_F16 : TextC g ad F16 (fun _ => 0, 0) := TextC.at mT_F15 (fun i h1 h2 => by rw [eF16, va_up_ne _ _ (by omega)])
  have mH_F16 : HullC g ad F16 hv0 := HullC.at mH_F15 (fun i h1 h2 => by rw [eF16, va_up_ne _ _ (by omega)])
  have mL_F16 : LoadC g ad F16 8 lv0 := LoadC.at mL_F15 (fun i h1 h2 => by rw [eF16, va_up_ne _ _ (by omega)])
  have mW_F16 : LoadC g ad F16 13 lv0 := LoadC.at mW_F15 (fun i h1 h2 => by rw [eF16, va_up_ne _ _ (by omega)])
  have mA_F16 : ActC g ad F16 (0, 0, fun _ => lv0) := ActC.keep mA_F15 (fun i h1 h2 => by rw [eF16, va_up_ne _ _ (by omega)])
  have k140_F16 : F16 (140) = .inr (6, [.null, .null]) := by rw [eF16]; exact va_up_self _ _ _
  refine lv_dup B.1 B.2.1 dX8_init_63 rfl ?_
  refine r_ci B hl.1 hXA hC (i := 140) (As := []) (ctX6_init l g lo ad hAd hl0 k140_F16) gX8_init_X6_init rfl wkX8_init_74 wkX8_init_75 wkX8_init_76 rfl (n := 0) rfl (by decide +kernel) ⟨Nat.le_of_ble_eq_true rfl, Nat.le_of_ble_eq_true rfl⟩ ⟨show _ ≤ 174 from by omega, show _ ≤ 1690 from by omega⟩ rfl (Nat.le_of_ble_eq_true rfl) dX8_init_64 (fun F17 H locs hp17 hC => ?_)
  obtain ⟨mS, hx17⟩ := hp17
  have hC : Cn g lo (153) ad F17 ss ss.heap H locs := hC
  have k0_F17 : F17 (0) = .inr (8, [.ref (ad (1)), .ref (ad (3)), .ref (ad (8)), .ref (ad (13)), .ref (ad (18)), .null, .null, .null]) := Eq.trans (hx17 0 (by omega)) k0_F16
  have mT_F17 : TextC g ad F17 (fun _ => 0, 0) := TextC.at mT_F16 (fun i h1 h2 => hx17 i (by omega))
  have mH_F17 : HullC g ad F17 hv0 := HullC.at mH_F16 (fun i h1 h2 => hx17 i (by omega))
  have mL_F17 : LoadC g ad F17 8 lv0 := LoadC.at mL_F16 (fun i h1 h2 => hx17 i (by omega))
  have mW_F17 : LoadC g ad F17 13 lv0 := LoadC.at mW_F16 (fun i h1 h2 => hx17 i (by omega))
  have mA_F17 : ActC g ad F17 (0, 0, fun _ => lv0) := ActC.keep mA_F16 (fun i h1 h2 => hx17 i (by omega))
  refine r_cpf B (hini rfl) hC (i := 0) (by omega) k0_F17 tyX8 tyX8_ok nmX8 (T := TX8) (n := 8) rfl iwX8_init_X8 5 (by decide) (index := 43) flX8_init_43 rfl rfl (v := .ref (ad (140))) rfl rfl (Nat.le_of_ble_eq_true rfl) dX8_init_67 (fun H locs hC => ?_)
  obtain ⟨F18, eF18⟩ : ∃ f : Nat → va_E, f = va_up F17 (0) (.inr (8, [.ref (ad (1)), .ref (ad (3)), .ref (ad (8)), .ref (ad (13)), .ref (ad (18)), .ref (ad (140)), .null, .null])) := ⟨_, rfl⟩
  have hC : Cn g lo (153) ad F18 ss ss.heap H locs := by rw [eF18]; exact hC
  have mT_F18 : TextC g ad F18 (fun _ => 0, 0) := TextC.at mT_F17 (fun i h1 h2 => by rw [eF18, va_up_ne _ _ (by omega)])
  have mH_F18 : HullC g ad F18 hv0 := HullC.at mH_F17 (fun i h1 h2 => by rw [eF18, va_up_ne _ _ (by omega)])
  have mL_F18 : LoadC g ad F18 8 lv0 := LoadC.at mL_F17 (fun i h1 h2 => by rw [eF18, va_up_ne _ _ (by omega)])
  have mW_F18 : LoadC g ad F18 13 lv0 := LoadC.at mW_F17 (fun i h1 h2 => by rw [eF18, va_up_ne _ _ (by omega)])
  have mA_F18 : ActC g ad F18 (0, 0, fun _ => lv0) := ActC.keep mA_F17 (fun i h1 h2 => by rw [eF18, va_up_ne _ _ (by omega)])
  have mS_F18 : SlotC g ad F18 (fun _ => lv0, fun _ => false) := SlotC.keep mS (fun i h1 h2 => by rw [eF18, va_up_ne _ _ (by omega)])
  have k0_F18 : F18 (0) = .inr (8, [.ref (ad (1)), .ref (ad (3)), .ref (ad (8)), .ref (ad (13)), .ref (ad (18)), .ref (ad (140)), .null, .null]) := by rw [eF18]; exact va_up_self _ _ _
  refine lv_aload_n B.1 B.2.1 dX8_init_70 rfl (lv_at hl 0 rfl) ?_
  refine r_nw B hAd hlo hC 1 (C := RX1) (T := TX1) (n := 2) (index := 47) rfl iwX8_init_X1 tyX1 tyX1_ok wkX8_init_77 wkX8_init_78 wkX8_init_79 (fs := [.null, .long 0]) dfX1 (show _ ≤ 174 from by omega) (show _ ≤ 1690 from by omega) dX8_init_71 (fun H hC => ?_)
  obtain ⟨F19, eF19⟩ : ∃ f : Nat → va_E, f = va_up F18 (153) (.inr (1, [.null, .long 0])) := ⟨_, rfl⟩
  have hC : Cn g lo (154) ad F19 ss ss.heap H locs := by rw [eF19]; exact hC
  have k0_F19 : F19 (0) = .inr (8, [.ref (ad (1)), .ref (ad (3)), .ref (ad (8)), .ref (ad (13)), .ref (ad (18)), .ref (ad (140)), .null, .null]) := Eq.trans (by rw [eF19, va_up_ne _ _ (by omega)]) k0_F18
  have mT_F19 : TextC g ad F19 (fun _ => 0, 0) := TextC.at mT_F18 (fun i h1 h2 => by rw [eF19, va_up_ne _ _ (by omega)])
  have mH_F19 : HullC g ad F19 hv0 := HullC.at mH_F18 (fun i h1 h2 => by rw [eF19, va_up_ne _ _ (by omega)])
  have mL_F19 : LoadC g ad F19 8 lv0 := LoadC.at mL_F18 (fun i h1 h2 => by rw [eF19, va_up_ne _ _ (by omega)])
  have mW_F19 : LoadC g ad F19 13 lv0 := LoadC.at mW_F18 (fun i h1 h2 => by rw [eF19, va_up_ne _ _ (by omega)])
  have mA_F19 : ActC g ad F19 (0, 0, fun _ => lv0) := ActC.keep mA_F18 (fun i h1 h2 => by rw [eF19, va_up_ne _ _ (by omega)])
  have mS_F19 : SlotC g ad F19 (fun _ => lv0, fun _ => false) := SlotC.keep mS_F18 (fun i h1 h2 => by rw [eF19, va_up_ne _ _ (by omega)])
  have k153_F19 : F19 (153) = .inr (1, [.null, .long 0]) := by rw [eF19]; exact va_up_self _ _ _
  refine lv_dup B.1 B.2.1 dX8_init_74 rfl ?_
  refine r_cin B hl.1 hXA hC (i := 153) (As := []) (ctX1_init l g lo ad hAd hl0 k153_F19) gX8_init_X1_init_n49 rfl wkX8_init_79 hXA.2.2.2 wkX8_init_80 rfl (n := 0) rfl (by decide +kernel) ⟨Nat.le_of_ble_eq_true rfl, Nat.le_of_ble_eq_true rfl⟩ ⟨show _ ≤ 174 from by omega, show _ ≤ 1690 from by omega⟩ rfl (Nat.le_of_ble_eq_true rfl) dX8_init_75 (fun F20 H locs hp20 hC => ?_)
  obtain ⟨mC, hx20⟩ := hp20
  have hC : Cn g lo (155) ad F20 ss ss.heap H locs := hC
  have k0_F20 : F20 (0) = .inr (8, [.ref (ad (1)), .ref (ad (3)), .ref (ad (8)), .ref (ad (13)), .ref (ad (18)), .ref (ad (140)), .null, .null]) := Eq.trans (hx20 0 (by omega)) k0_F19
  have mT_F20 : TextC g ad F20 (fun _ => 0, 0) := TextC.at mT_F19 (fun i h1 h2 => hx20 i (by omega))
  have mH_F20 : HullC g ad F20 hv0 := HullC.at mH_F19 (fun i h1 h2 => hx20 i (by omega))
  have mL_F20 : LoadC g ad F20 8 lv0 := LoadC.at mL_F19 (fun i h1 h2 => hx20 i (by omega))
  have mW_F20 : LoadC g ad F20 13 lv0 := LoadC.at mW_F19 (fun i h1 h2 => hx20 i (by omega))
  have mA_F20 : ActC g ad F20 (0, 0, fun _ => lv0) := ActC.keep mA_F19 (fun i h1 h2 => hx20 i (by omega))
  have mS_F20 : SlotC g ad F20 (fun _ => lv0, fun _ => false) := SlotC.keep mS_F19 (fun i h1 h2 => hx20 i (by omega))
  refine r_cpf B (hini rfl) hC (i := 0) (by omega) k0_F20 tyX8 tyX8_ok nmX8 (T := TX8) (n := 8) rfl iwX8_init_X8 6 (by decide) (index := 50) flX8_init_50 rfl rfl (v := .ref (ad (153))) rfl rfl (Nat.le_of_ble_eq_true rfl) dX8_init_78 (fun H locs hC => ?_)
  obtain ⟨F21, eF21⟩ : ∃ f : Nat → va_E, f = va_up F20 (0) (.inr (8, [.ref (ad (1)), .ref (ad (3)), .ref (ad (8)), .ref (ad (13)), .ref (ad (18)), .ref (ad (140)), .ref (ad (153)), .null])) := ⟨_, rfl⟩
  have hC : Cn g lo (155) ad F21 ss ss.heap H locs := by rw [eF21]; exact hC
  have mT_F21 : TextC g ad F21 (fun _ => 0, 0) := TextC.at mT_F20 (fun i h1 h2 => by rw [eF21, va_up_ne _ _ (by omega)])
  have mH_F21 : HullC g ad F21 hv0 := HullC.at mH_F20 (fun i h1 h2 => by rw [eF21, va_up_ne _ _ (by omega)])
  have mL_F21 : LoadC g ad F21 8 lv0 := LoadC.at mL_F20 (fun i h1 h2 => by rw [eF21, va_up_ne _ _ (by omega)])
  have mW_F21 : LoadC g ad F21 13 lv0 := LoadC.at mW_F20 (fun i h1 h2 => by rw [eF21, va_up_ne _ _ (by omega)])
  have mA_F21 : ActC g ad F21 (0, 0, fun _ => lv0) := ActC.keep mA_F20 (fun i h1 h2 => by rw [eF21, va_up_ne _ _ (by omega)])
  have mS_F21 : SlotC g ad F21 (fun _ => lv0, fun _ => false) := SlotC.keep mS_F20 (fun i h1 h2 => by rw [eF21, va_up_ne _ _ (by omega)])
  have mC_F21 : ChC g ad F21 (fun _ => 0, 1) := ChC.at mC (fun i h1 h2 => by rw [eF21, va_up_ne _ _ (by omega)])
  have k0_F21 : F21 (0) = .inr (8, [.ref (ad (1)), .ref (ad (3)), .ref (ad (8)), .ref (ad (13)), .ref (ad (18)), .ref (ad (140)), .ref (ad (153)), .null]) := by rw [eF21]; exact va_up_self _ _ _
  refine lv_aload_n B.1 B.2.1 dX8_init_81 rfl (lv_at hl 0 rfl) ?_
  refine r_nw B hAd hlo hC 5 (C := RX5) (T := TX5) (n := 5) (index := 54) rfl iwX8_init_X5 tyX5 tyX5_ok wkX8_init_81 wkX8_init_82 wkX8_init_83 (fs := [.null, .null, .null, .null, .int 0]) dfX5 (show _ ≤ 174 from by omega) (show _ ≤ 1690 from by omega) dX8_init_82 (fun H hC => ?_)
  obtain ⟨F22, eF22⟩ : ∃ f : Nat → va_E, f = va_up F21 (155) (.inr (5, [.null, .null, .null, .null, .int 0])) := ⟨_, rfl⟩
  have hC : Cn g lo (156) ad F22 ss ss.heap H locs := by rw [eF22]; exact hC
  have k0_F22 : F22 (0) = .inr (8, [.ref (ad (1)), .ref (ad (3)), .ref (ad (8)), .ref (ad (13)), .ref (ad (18)), .ref (ad (140)), .ref (ad (153)), .null]) := Eq.trans (by rw [eF22, va_up_ne _ _ (by omega)]) k0_F21
  have mT_F22 : TextC g ad F22 (fun _ => 0, 0) := TextC.at mT_F21 (fun i h1 h2 => by rw [eF22, va_up_ne _ _ (by omega)])
  have mH_F22 : HullC g ad F22 hv0 := HullC.at mH_F21 (fun i h1 h2 => by rw [eF22, va_up_ne _ _ (by omega)])
  have mL_F22 : LoadC g ad F22 8 lv0 := LoadC.at mL_F21 (fun i h1 h2 => by rw [eF22, va_up_ne _ _ (by omega)])
  have mW_F22 : LoadC g ad F22 13 lv0 := LoadC.at mW_F21 (fun i h1 h2 => by rw [eF22, va_up_ne _ _ (by omega)])
  have mA_F22 : ActC g ad F22 (0, 0, fun _ => lv0) := ActC.keep mA_F21 (fun i h1 h2 => by rw [eF22, va_up_ne _ _ (by omega)])
  have mS_F22 : SlotC g ad F22 (fun _ => lv0, fun _ => false) := SlotC.keep mS_F21 (fun i h1 h2 => by rw [eF22, va_up_ne _ _ (by omega)])
  have mC_F22 : ChC g ad F22 (fun _ => 0, 1) := ChC.at mC_F21 (fun i h1 h2 => by rw [eF22, va_up_ne _ _ (by omega)])
  have k155_F22 : F22 (155) = .inr (5, [.null, .null, .null, .null, .int 0]) := by rw [eF22]; exact va_up_self _ _ _
  refine lv_dup B.1 B.2.1 dX8_init_85 rfl ?_
  refine lv_aload_n B.1 B.2.1 dX8_init_86 rfl (lv_at hl 0 rfl) ?_
  refine r_cg B hC.1 (i := 0) (by omega) k0_F22 (C := RX8) (T := TX8) (n := 8) rfl iwX8_init_X8 1 (by decide) (index := 19) flX8_init_19 rfl (v := .ref (ad (3))) rfl dX8_init_87 ?_
  refine lv_aload_n B.1 B.2.1 dX8_init_90 rfl (lv_at hl 0 rfl) ?_
  refine r_cg B hC.1 (i := 0) (by omega) k0_F22 (C := RX8) (T := TX8) (n := 8) rfl iwX8_init_X8 3 (by decide) (index := 30) flX8_init_30 rfl (v := .ref (ad (13))) rfl dX8_init_91 ?_
  refine r_ci B hl.1 hXA hC (i := 155) (As := [.ref (ad (3)), .ref (ad (13))]) (ctX5_init l g lo ad hAd hl0 k155_F22) gX8_init_X5_init rfl wkX8_init_83 wkX8_init_84 wkX8_init_85 rfl (n := 2) rfl (by decide +kernel) ⟨Nat.le_of_ble_eq_true rfl, Nat.le_of_ble_eq_true rfl⟩ ⟨show _ ≤ 174 from by omega, show _ ≤ 1690 from by omega⟩ rfl (Nat.le_of_ble_eq_true rfl) dX8_init_94 (fun F23 H locs hp23 hC => ?_)
  obtain ⟨mQ, hx23⟩ := hp23
  have hC : Cn g lo (175) ad F23 ss ss.heap H locs := hC
  have k0_F23 : F23 (0) = .inr (8, [.ref (ad (1)), .ref (ad (3)), .ref (ad (8)), .ref (ad (13)), .ref (ad (18)), .ref (ad (140)), .ref (ad (153)), .null]) := Eq.trans (hx23 0 (by omega)) k0_F22
  have mT_F23 : TextC g ad F23 (fun _ => 0, 0) := TextC.at mT_F22 (fun i h1 h2 => hx23 i (by omega))
  have mH_F23 : HullC g ad F23 hv0 := HullC.at mH_F22 (fun i h1 h2 => hx23 i (by omega))
  have mL_F23 : LoadC g ad F23 8 lv0 := LoadC.at mL_F22 (fun i h1 h2 => hx23 i (by omega))
  have mW_F23 : LoadC g ad F23 13 lv0 := LoadC.at mW_F22 (fun i h1 h2 => hx23 i (by omega))
  have mA_F23 : ActC g ad F23 (0, 0, fun _ => lv0) := ActC.keep mA_F22 (fun i h1 h2 => hx23 i (by omega))
  have mS_F23 : SlotC g ad F23 (fun _ => lv0, fun _ => false) := SlotC.keep mS_F22 (fun i h1 h2 => hx23 i (by omega))
  have mC_F23 : ChC g ad F23 (fun _ => 0, 1) := ChC.at mC_F22 (fun i h1 h2 => hx23 i (by omega))
  refine r_cpf B (hini rfl) hC (i := 0) (by omega) k0_F23 tyX8 tyX8_ok nmX8 (T := TX8) (n := 8) rfl iwX8_init_X8 7 (by decide) (index := 59) flX8_init_59 rfl rfl (v := .ref (ad (155))) rfl rfl (Nat.le_of_ble_eq_true rfl) dX8_init_97 (fun H locs hC => ?_)
  obtain ⟨F24, eF24⟩ : ∃ f : Nat → va_E, f = va_up F23 (0) (.inr (8, [.ref (ad (1)), .ref (ad (3)), .ref (ad (8)), .ref (ad (13)), .ref (ad (18)), .ref (ad (140)), .ref (ad (153)), .ref (ad (155))])) := ⟨_, rfl⟩
  have hC : Cn g lo (175) ad F24 ss ss.heap H locs := by rw [eF24]; exact hC
  have mT_F24 : TextC g ad F24 (fun _ => 0, 0) := TextC.at mT_F23 (fun i h1 h2 => by rw [eF24, va_up_ne _ _ (by omega)])
  have mH_F24 : HullC g ad F24 hv0 := HullC.at mH_F23 (fun i h1 h2 => by rw [eF24, va_up_ne _ _ (by omega)])
  have mL_F24 : LoadC g ad F24 8 lv0 := LoadC.at mL_F23 (fun i h1 h2 => by rw [eF24, va_up_ne _ _ (by omega)])
  have mW_F24 : LoadC g ad F24 13 lv0 := LoadC.at mW_F23 (fun i h1 h2 => by rw [eF24, va_up_ne _ _ (by omega)])
  have mA_F24 : ActC g ad F24 (0, 0, fun _ => lv0) := ActC.keep mA_F23 (fun i h1 h2 => by rw [eF24, va_up_ne _ _ (by omega)])
  have mS_F24 : SlotC g ad F24 (fun _ => lv0, fun _ => false) := SlotC.keep mS_F23 (fun i h1 h2 => by rw [eF24, va_up_ne _ _ (by omega)])
  have mC_F24 : ChC g ad F24 (fun _ => 0, 1) := ChC.at mC_F23 (fun i h1 h2 => by rw [eF24, va_up_ne _ _ (by omega)])
  have mQ_F24 : SeaC g ad F24 0 (fun _ => 0) ∧ RowsC g ad F24 (0, false, fun _ => some 0, fun _ => lv0) := ⟨SeaC.at mQ.1 (fun i h1 h2 => by rw [eF24, va_up_ne _ _ (by omega)]), RowsC.at mQ.2 (fun i h1 h2 => by rw [eF24, va_up_ne _ _ (by omega)])⟩
  have k0_F24 : F24 (0) = .inr (8, [.ref (ad (1)), .ref (ad (3)), .ref (ad (8)), .ref (ad (13)), .ref (ad (18)), .ref (ad (140)), .ref (ad (153)), .ref (ad (155))]) := by rw [eF24]; exact va_up_self _ _ _
  exact r_eN B hC (⟨k0_F24, mT_F24, mH_F24, mL_F24, mA_F24, mS_F24, ⟨_, mW_F24, can0⟩, ⟨_, mC_F24⟩, ⟨_, _, mQ_F24.1⟩, _, mQ_F24.2, fun _ _ => can0⟩) dX8_init_100
