/-! CONSTRUCTORS: ShipFromItselfModel -/
theorem mr0 : XR x0 (fun i => if i = 14 then 1 else 0) (fun _ _ => 0) := ⟨⟨rfl, fun i hi => absurd hi (Nat.not_lt_zero i)⟩, ⟨rfl, rfl, rfl, fun p hp => absurd hp (Nat.not_lt_zero p)⟩, ⟨fun t ht => absurd ht (Nat.not_lt_zero t), rfl, rfl⟩, ⟨0, by decide, rfl, rfl, fun k hk => absurd hk (Nat.not_lt_zero k)⟩, fun j _ => ⟨rfl, fun z => by cases z⟩⟩
theorem wkX9_init_86 : Cond.methodLink RX9 1 objectInit ∈ wsX9_init := by decide +kernel
theorem wkX9_init_87 : Cond.instanceMethod objectInit ∈ wsX9_init := by decide +kernel
theorem wkX9_init_88 : Cond.code objectInit ⟨#[0xb1]⟩ 1 none ∈ wsX9_init := by decide +kernel
theorem wkX9_init_89 : Cond.arrayClass .int ∈ wsX9_init := by decide +kernel
theorem wkX9_init_90 : Cond.arrayClass .long ∈ wsX9_init := by decide +kernel
theorem wkX9_init_91 : Cond.arrayClass .boolean ∈ wsX9_init := by decide +kernel
theorem iwX9_init_X9 : ∀ w ∈ u_ws RX9 TX9 35, w ∈ wsX9_init := by decide +kernel
theorem flX9_init_7 : Cond.fieldLink RX9 7 RX9 (TX9 0).2.1 (TX9 0).2.2.1 ∈ wsX9_init := by decide +kernel
theorem flX9_init_13 : Cond.fieldLink RX9 13 RX9 (TX9 1).2.1 (TX9 1).2.2.1 ∈ wsX9_init := by decide +kernel
theorem flX9_init_16 : Cond.fieldLink RX9 16 RX9 (TX9 2).2.1 (TX9 2).2.2.1 ∈ wsX9_init := by decide +kernel
theorem flX9_init_19 : Cond.fieldLink RX9 19 RX9 (TX9 3).2.1 (TX9 3).2.2.1 ∈ wsX9_init := by decide +kernel
theorem flX9_init_22 : Cond.fieldLink RX9 22 RX9 (TX9 4).2.1 (TX9 4).2.2.1 ∈ wsX9_init := by decide +kernel
theorem flX9_init_25 : Cond.fieldLink RX9 25 RX9 (TX9 8).2.1 (TX9 8).2.2.1 ∈ wsX9_init := by decide +kernel
theorem flX9_init_28 : Cond.fieldLink RX9 28 RX9 (TX9 9).2.1 (TX9 9).2.2.1 ∈ wsX9_init := by decide +kernel
theorem flX9_init_31 : Cond.fieldLink RX9 31 RX9 (TX9 10).2.1 (TX9 10).2.2.1 ∈ wsX9_init := by decide +kernel
theorem flX9_init_34 : Cond.fieldLink RX9 34 RX9 (TX9 11).2.1 (TX9 11).2.2.1 ∈ wsX9_init := by decide +kernel
theorem flX9_init_37 : Cond.fieldLink RX9 37 RX9 (TX9 15).2.1 (TX9 15).2.2.1 ∈ wsX9_init := by decide +kernel
theorem flX9_init_40 : Cond.fieldLink RX9 40 RX9 (TX9 19).2.1 (TX9 19).2.2.1 ∈ wsX9_init := by decide +kernel
theorem flX9_init_43 : Cond.fieldLink RX9 43 RX9 (TX9 20).2.1 (TX9 20).2.2.1 ∈ wsX9_init := by decide +kernel
theorem flX9_init_46 : Cond.fieldLink RX9 46 RX9 (TX9 21).2.1 (TX9 21).2.2.1 ∈ wsX9_init := by decide +kernel
theorem flX9_init_49 : Cond.fieldLink RX9 49 RX9 (TX9 26).2.1 (TX9 26).2.2.1 ∈ wsX9_init := by decide +kernel
theorem flX9_init_52 : Cond.fieldLink RX9 52 RX9 (TX9 27).2.1 (TX9 27).2.2.1 ∈ wsX9_init := by decide +kernel
theorem flX9_init_55 : Cond.fieldLink RX9 55 RX9 (TX9 30).2.1 (TX9 30).2.2.1 ∈ wsX9_init := by decide +kernel
theorem flX9_init_59 : Cond.fieldLink RX9 59 RX9 (TX9 31).2.1 (TX9 31).2.2.1 ∈ wsX9_init := by decide +kernel
theorem flX9_init_63 : Cond.fieldLink RX9 63 RX9 (TX9 32).2.1 (TX9 32).2.2.1 ∈ wsX9_init := by decide +kernel
theorem flX9_init_66 : Cond.fieldLink RX9 66 RX9 (TX9 33).2.1 (TX9 33).2.2.1 ∈ wsX9_init := by decide +kernel
theorem flX9_init_69 : Cond.fieldLink RX9 69 RX9 (TX9 34).2.1 (TX9 34).2.2.1 ∈ wsX9_init := by decide +kernel
theorem flX9_init_72 : Cond.fieldLink RX9 72 RX9 (TX9 14).2.1 (TX9 14).2.2.1 ∈ wsX9_init := by decide +kernel
set_option maxHeartbeats 4000000 in
set_option maxRecDepth 100000 in
theorem ctX9_init (l : Launch) (g : Gx) (lo : Nat) (ad : Nat → Nat) (hAd : ADN ad) (hl0 : lo ≤ ad 0) {F : Nat → va_E} (hF : F (175) = .inr (9, [.null, .null, .null, .null, .null, .int 0, .int 0, .int 0, .null, .null, .null, .null, .int 0, .int 0, .int 0, .null, .int 0, .int 0, .int 0, .null, .null, .null, .int 0, .int 0, .int 0, .int 0, .null, .null, .int 0, .int 0, .null, .null, .null, .null, .null])) : MN l g lo (176) (196) ad yX9_init wsX9_init 1 12 20 1279 [.ref (ad (175))] F (fun F' => MX g ad F' x0 ∧ ∀ j, j < 175 → F' j = F j) := by
  refine enterN (cc := cX9_init) (maxL := 1) (ret := none) (own := RX9) (by decide +kernel) rfl rfl (Nat.le_of_ble_eq_true rfl) (adn_le hAd hl0 _) ?_
  intro pp ee ss mm below meth cc B hini hC hXA hlo ls hl
  have hl : lv_has ls 1 [(0, .ref (ad (175)))] := hl
  have ho : ∀ j, j < 175 → F j = F j := fun _ _ => rfl
  refine lv_aload_n B.1 B.2.1 dX9_init_0 rfl (lv_at hl 0 rfl) ?_
  refine r_oi B hl.1 (index := 1) wkX9_init_86 wkX9_init_87 wkX9_init_88 dX9_init_1 (Nat.le_of_ble_eq_true rfl) (Nat.le_of_ble_eq_true rfl) ?_
  refine lv_aload_n B.1 B.2.1 dX9_init_4 rfl (lv_at hl 0 rfl) ?_
  refine lv_bipush (v := nI 10) B.1 B.2.1 dX9_init_5 (by decide) ?_
  refine r_na (atype := .int) (ty := .int) B hAd hlo hC 0 rfl wkX9_init_89 rfl (n := 10) (a0 := (10, .inl (fun _ => 0))) (fun _ => rfl) (by decide) (by decide) (show _ ≤ 20 from by omega) (show _ ≤ 1279 from by omega) dX9_init_7 (fun H hC => ?_)
  obtain ⟨F1, eF1⟩ : ∃ f : Nat → va_E, f = va_up F (176) (.inl (g.2.2 0, 10, .inl (fun _ => 0))) := ⟨_, rfl⟩
  have hC : Cn g lo (177) ad F1 ss ss.heap H [] := by rw [eF1]; exact hC
  have hF_F1 : F1 (175) = .inr (9, [.null, .null, .null, .null, .null, .int 0, .int 0, .int 0, .null, .null, .null, .null, .int 0, .int 0, .int 0, .null, .int 0, .int 0, .int 0, .null, .null, .null, .int 0, .int 0, .int 0, .int 0, .null, .null, .int 0, .int 0, .null, .null, .null, .null, .null]) := Eq.trans (by rw [eF1, va_up_ne _ _ (by omega)]) hF
  have ho_F1 : ∀ j, j < 175 → F1 j = F j := fun j hj => Eq.trans (by rw [eF1, va_up_ne _ _ (by omega)]) (ho j hj)
  have k176_F1 : F1 (176) = .inl (g.2.2 0, 10, .inl (fun _ => 0)) := by rw [eF1]; exact va_up_self _ _ _
  refine r_cpf B (hini rfl) hC (i := 175) (by omega) hF_F1 tyX9 tyX9_ok nmX9 (T := TX9) (n := 35) rfl iwX9_init_X9 0 (by decide) (index := 7) flX9_init_7 rfl rfl (v := .ref (ad (176))) rfl rfl (Nat.le_of_ble_eq_true rfl) dX9_init_9 (fun H locs hC => ?_)
  obtain ⟨F2, eF2⟩ : ∃ f : Nat → va_E, f = va_up F1 (175) (.inr (9, [.ref (ad (176)), .null, .null, .null, .null, .int 0, .int 0, .int 0, .null, .null, .null, .null, .int 0, .int 0, .int 0, .null, .int 0, .int 0, .int 0, .null, .null, .null, .int 0, .int 0, .int 0, .int 0, .null, .null, .int 0, .int 0, .null, .null, .null, .null, .null])) := ⟨_, rfl⟩
  have hC : Cn g lo (177) ad F2 ss ss.heap H locs := by rw [eF2]; exact hC
  have k176_F2 : F2 (176) = .inl (g.2.2 0, 10, .inl (fun _ => 0)) := Eq.trans (by rw [eF2, va_up_ne _ _ (by omega)]) k176_F1
  have ho_F2 : ∀ j, j < 175 → F2 j = F j := fun j hj => Eq.trans (by rw [eF2, va_up_ne _ _ (by omega)]) (ho_F1 j hj)
  have k175_F2 : F2 (175) = .inr (9, [.ref (ad (176)), .null, .null, .null, .null, .int 0, .int 0, .int 0, .null, .null, .null, .null, .int 0, .int 0, .int 0, .null, .int 0, .int 0, .int 0, .null, .null, .null, .int 0, .int 0, .int 0, .int 0, .null, .null, .int 0, .int 0, .null, .null, .null, .null, .null]) := by rw [eF2]; exact va_up_self _ _ _
  refine lv_aload_n B.1 B.2.1 dX9_init_12 rfl (lv_at hl 0 rfl) ?_
  refine lv_bipush (v := nI 10) B.1 B.2.1 dX9_init_13 (by decide) ?_
  refine r_na (atype := .int) (ty := .int) B hAd hlo hC 0 rfl wkX9_init_89 rfl (n := 10) (a0 := (10, .inl (fun _ => 0))) (fun _ => rfl) (by decide) (by decide) (show _ ≤ 20 from by omega) (show _ ≤ 1279 from by omega) dX9_init_15 (fun H hC => ?_)
  obtain ⟨F3, eF3⟩ : ∃ f : Nat → va_E, f = va_up F2 (177) (.inl (g.2.2 0, 10, .inl (fun _ => 0))) := ⟨_, rfl⟩
  have hC : Cn g lo (178) ad F3 ss ss.heap H locs := by rw [eF3]; exact hC
  have k176_F3 : F3 (176) = .inl (g.2.2 0, 10, .inl (fun _ => 0)) := Eq.trans (by rw [eF3, va_up_ne _ _ (by omega)]) k176_F2
  have k175_F3 : F3 (175) = .inr (9, [.ref (ad (176)), .null, .null, .null, .null, .int 0, .int 0, .int 0, .null, .null, .null, .null, .int 0, .int 0, .int 0, .null, .int 0, .int 0, .int 0, .null, .null, .null, .int 0, .int 0, .int 0, .int 0, .null, .null, .int 0, .int 0, .null, .null, .null, .null, .null]) := Eq.trans (by rw [eF3, va_up_ne _ _ (by omega)]) k175_F2
  have ho_F3 : ∀ j, j < 175 → F3 j = F j := fun j hj => Eq.trans (by rw [eF3, va_up_ne _ _ (by omega)]) (ho_F2 j hj)
  have k177_F3 : F3 (177) = .inl (g.2.2 0, 10, .inl (fun _ => 0)) := by rw [eF3]; exact va_up_self _ _ _
  refine r_cpf B (hini rfl) hC (i := 175) (by omega) k175_F3 tyX9 tyX9_ok nmX9 (T := TX9) (n := 35) rfl iwX9_init_X9 1 (by decide) (index := 13) flX9_init_13 rfl rfl (v := .ref (ad (177))) rfl rfl (Nat.le_of_ble_eq_true rfl) dX9_init_17 (fun H locs hC => ?_)
  obtain ⟨F4, eF4⟩ : ∃ f : Nat → va_E, f = va_up F3 (175) (.inr (9, [.ref (ad (176)), .ref (ad (177)), .null, .null, .null, .int 0, .int 0, .int 0, .null, .null, .null, .null, .int 0, .int 0, .int 0, .null, .int 0, .int 0, .int 0, .null, .null, .null, .int 0, .int 0, .int 0, .int 0, .null, .null, .int 0, .int 0, .null, .null, .null, .null, .null])) := ⟨_, rfl⟩
  have hC : Cn g lo (178) ad F4 ss ss.heap H locs := by rw [eF4]; exact hC
  have k176_F4 : F4 (176) = .inl (g.2.2 0, 10, .inl (fun _ => 0)) := Eq.trans (by rw [eF4, va_up_ne _ _ (by omega)]) k176_F3
  have k177_F4 : F4 (177) = .inl (g.2.2 0, 10, .inl (fun _ => 0)) := Eq.trans (by rw [eF4, va_up_ne _ _ (by omega)]) k177_F3
  have ho_F4 : ∀ j, j < 175 → F4 j = F j := fun j hj => Eq.trans (by rw [eF4, va_up_ne _ _ (by omega)]) (ho_F3 j hj)
  have k175_F4 : F4 (175) = .inr (9, [.ref (ad (176)), .ref (ad (177)), .null, .null, .null, .int 0, .int 0, .int 0, .null, .null, .null, .null, .int 0, .int 0, .int 0, .null, .int 0, .int 0, .int 0, .null, .null, .null, .int 0, .int 0, .int 0, .int 0, .null, .null, .int 0, .int 0, .null, .null, .null, .null, .null]) := by rw [eF4]; exact va_up_self _ _ _
  refine lv_aload_n B.1 B.2.1 dX9_init_20 rfl (lv_at hl 0 rfl) ?_
  refine lv_bipush (v := nI 10) B.1 B.2.1 dX9_init_21 (by decide) ?_
  refine r_na (atype := .int) (ty := .int) B hAd hlo hC 0 rfl wkX9_init_89 rfl (n := 10) (a0 := (10, .inl (fun _ => 0))) (fun _ => rfl) (by decide) (by decide) (show _ ≤ 20 from by omega) (show _ ≤ 1279 from by omega) dX9_init_23 (fun H hC => ?_)
  obtain ⟨F5, eF5⟩ : ∃ f : Nat → va_E, f = va_up F4 (178) (.inl (g.2.2 0, 10, .inl (fun _ => 0))) := ⟨_, rfl⟩
  have hC : Cn g lo (179) ad F5 ss ss.heap H locs := by rw [eF5]; exact hC
  have k176_F5 : F5 (176) = .inl (g.2.2 0, 10, .inl (fun _ => 0)) := Eq.trans (by rw [eF5, va_up_ne _ _ (by omega)]) k176_F4
  have k177_F5 : F5 (177) = .inl (g.2.2 0, 10, .inl (fun _ => 0)) := Eq.trans (by rw [eF5, va_up_ne _ _ (by omega)]) k177_F4
  have k175_F5 : F5 (175) = .inr (9, [.ref (ad (176)), .ref (ad (177)), .null, .null, .null, .int 0, .int 0, .int 0, .null, .null, .null, .null, .int 0, .int 0, .int 0, .null, .int 0, .int 0, .int 0, .null, .null, .null, .int 0, .int 0, .int 0, .int 0, .null, .null, .int 0, .int 0, .null, .null, .null, .null, .null]) := Eq.trans (by rw [eF5, va_up_ne _ _ (by omega)]) k175_F4
  have ho_F5 : ∀ j, j < 175 → F5 j = F j := fun j hj => Eq.trans (by rw [eF5, va_up_ne _ _ (by omega)]) (ho_F4 j hj)
  have k178_F5 : F5 (178) = .inl (g.2.2 0, 10, .inl (fun _ => 0)) := by rw [eF5]; exact va_up_self _ _ _
  refine r_cpf B (hini rfl) hC (i := 175) (by omega) k175_F5 tyX9 tyX9_ok nmX9 (T := TX9) (n := 35) rfl iwX9_init_X9 2 (by decide) (index := 16) flX9_init_16 rfl rfl (v := .ref (ad (178))) rfl rfl (Nat.le_of_ble_eq_true rfl) dX9_init_25 (fun H locs hC => ?_)
  obtain ⟨F6, eF6⟩ : ∃ f : Nat → va_E, f = va_up F5 (175) (.inr (9, [.ref (ad (176)), .ref (ad (177)), .ref (ad (178)), .null, .null, .int 0, .int 0, .int 0, .null, .null, .null, .null, .int 0, .int 0, .int 0, .null, .int 0, .int 0, .int 0, .null, .null, .null, .int 0, .int 0, .int 0, .int 0, .null, .null, .int 0, .int 0, .null, .null, .null, .null, .null])) := ⟨_, rfl⟩
  have hC : Cn g lo (179) ad F6 ss ss.heap H locs := by rw [eF6]; exact hC
  have k176_F6 : F6 (176) = .inl (g.2.2 0, 10, .inl (fun _ => 0)) := Eq.trans (by rw [eF6, va_up_ne _ _ (by omega)]) k176_F5
  have k177_F6 : F6 (177) = .inl (g.2.2 0, 10, .inl (fun _ => 0)) := Eq.trans (by rw [eF6, va_up_ne _ _ (by omega)]) k177_F5
  have k178_F6 : F6 (178) = .inl (g.2.2 0, 10, .inl (fun _ => 0)) := Eq.trans (by rw [eF6, va_up_ne _ _ (by omega)]) k178_F5
  have ho_F6 : ∀ j, j < 175 → F6 j = F j := fun j hj => Eq.trans (by rw [eF6, va_up_ne _ _ (by omega)]) (ho_F5 j hj)
  have k175_F6 : F6 (175) = .inr (9, [.ref (ad (176)), .ref (ad (177)), .ref (ad (178)), .null, .null, .int 0, .int 0, .int 0, .null, .null, .null, .null, .int 0, .int 0, .int 0, .null, .int 0, .int 0, .int 0, .null, .null, .null, .int 0, .int 0, .int 0, .int 0, .null, .null, .int 0, .int 0, .null, .null, .null, .null, .null]) := by rw [eF6]; exact va_up_self _ _ _
  refine lv_aload_n B.1 B.2.1 dX9_init_28 rfl (lv_at hl 0 rfl) ?_
  refine lv_bipush (v := nI 10) B.1 B.2.1 dX9_init_29 (by decide) ?_
  refine r_na (atype := .int) (ty := .int) B hAd hlo hC 0 rfl wkX9_init_89 rfl (n := 10) (a0 := (10, .inl (fun _ => 0))) (fun _ => rfl) (by decide) (by decide) (show _ ≤ 20 from by omega) (show _ ≤ 1279 from by omega) dX9_init_31 (fun H hC => ?_)
  obtain ⟨F7, eF7⟩ : ∃ f : Nat → va_E, f = va_up F6 (179) (.inl (g.2.2 0, 10, .inl (fun _ => 0))) := ⟨_, rfl⟩
  have hC : Cn g lo (180) ad F7 ss ss.heap H locs := by rw [eF7]; exact hC
  have k176_F7 : F7 (176) = .inl (g.2.2 0, 10, .inl (fun _ => 0)) := Eq.trans (by rw [eF7, va_up_ne _ _ (by omega)]) k176_F6
  have k177_F7 : F7 (177) = .inl (g.2.2 0, 10, .inl (fun _ => 0)) := Eq.trans (by rw [eF7, va_up_ne _ _ (by omega)]) k177_F6
  have k178_F7 : F7 (178) = .inl (g.2.2 0, 10, .inl (fun _ => 0)) := Eq.trans (by rw [eF7, va_up_ne _ _ (by omega)]) k178_F6
  have k175_F7 : F7 (175) = .inr (9, [.ref (ad (176)), .ref (ad (177)), .ref (ad (178)), .null, .null, .int 0, .int 0, .int 0, .null, .null, .null, .null, .int 0, .int 0, .int 0, .null, .int 0, .int 0, .int 0, .null, .null, .null, .int 0, .int 0, .int 0, .int 0, .null, .null, .int 0, .int 0, .null, .null, .null, .null, .null]) := Eq.trans (by rw [eF7, va_up_ne _ _ (by omega)]) k175_F6
  have ho_F7 : ∀ j, j < 175 → F7 j = F j := fun j hj => Eq.trans (by rw [eF7, va_up_ne _ _ (by omega)]) (ho_F6 j hj)
  have k179_F7 : F7 (179) = .inl (g.2.2 0, 10, .inl (fun _ => 0)) := by rw [eF7]; exact va_up_self _ _ _
  refine r_cpf B (hini rfl) hC (i := 175) (by omega) k175_F7 tyX9 tyX9_ok nmX9 (T := TX9) (n := 35) rfl iwX9_init_X9 3 (by decide) (index := 19) flX9_init_19 rfl rfl (v := .ref (ad (179))) rfl rfl (Nat.le_of_ble_eq_true rfl) dX9_init_33 (fun H locs hC => ?_)
  obtain ⟨F8, eF8⟩ : ∃ f : Nat → va_E, f = va_up F7 (175) (.inr (9, [.ref (ad (176)), .ref (ad (177)), .ref (ad (178)), .ref (ad (179)), .null, .int 0, .int 0, .int 0, .null, .null, .null, .null, .int 0, .int 0, .int 0, .null, .int 0, .int 0, .int 0, .null, .null, .null, .int 0, .int 0, .int 0, .int 0, .null, .null, .int 0, .int 0, .null, .null, .null, .null, .null])) := ⟨_, rfl⟩
  have hC : Cn g lo (180) ad F8 ss ss.heap H locs := by rw [eF8]; exact hC
  have k176_F8 : F8 (176) = .inl (g.2.2 0, 10, .inl (fun _ => 0)) := Eq.trans (by rw [eF8, va_up_ne _ _ (by omega)]) k176_F7
  have k177_F8 : F8 (177) = .inl (g.2.2 0, 10, .inl (fun _ => 0)) := Eq.trans (by rw [eF8, va_up_ne _ _ (by omega)]) k177_F7
  have k178_F8 : F8 (178) = .inl (g.2.2 0, 10, .inl (fun _ => 0)) := Eq.trans (by rw [eF8, va_up_ne _ _ (by omega)]) k178_F7
  have k179_F8 : F8 (179) = .inl (g.2.2 0, 10, .inl (fun _ => 0)) := Eq.trans (by rw [eF8, va_up_ne _ _ (by omega)]) k179_F7
  have ho_F8 : ∀ j, j < 175 → F8 j = F j := fun j hj => Eq.trans (by rw [eF8, va_up_ne _ _ (by omega)]) (ho_F7 j hj)
  have k175_F8 : F8 (175) = .inr (9, [.ref (ad (176)), .ref (ad (177)), .ref (ad (178)), .ref (ad (179)), .null, .int 0, .int 0, .int 0, .null, .null, .null, .null, .int 0, .int 0, .int 0, .null, .int 0, .int 0, .int 0, .null, .null, .null, .int 0, .int 0, .int 0, .int 0, .null, .null, .int 0, .int 0, .null, .null, .null, .null, .null]) := by rw [eF8]; exact va_up_self _ _ _
  refine lv_aload_n B.1 B.2.1 dX9_init_36 rfl (lv_at hl 0 rfl) ?_
  refine lv_bipush (v := nI 10) B.1 B.2.1 dX9_init_37 (by decide) ?_
  refine r_na (atype := .int) (ty := .int) B hAd hlo hC 0 rfl wkX9_init_89 rfl (n := 10) (a0 := (10, .inl (fun _ => 0))) (fun _ => rfl) (by decide) (by decide) (show _ ≤ 20 from by omega) (show _ ≤ 1279 from by omega) dX9_init_39 (fun H hC => ?_)
  obtain ⟨F9, eF9⟩ : ∃ f : Nat → va_E, f = va_up F8 (180) (.inl (g.2.2 0, 10, .inl (fun _ => 0))) := ⟨_, rfl⟩
  have hC : Cn g lo (181) ad F9 ss ss.heap H locs := by rw [eF9]; exact hC
  have k176_F9 : F9 (176) = .inl (g.2.2 0, 10, .inl (fun _ => 0)) := Eq.trans (by rw [eF9, va_up_ne _ _ (by omega)]) k176_F8
  have k177_F9 : F9 (177) = .inl (g.2.2 0, 10, .inl (fun _ => 0)) := Eq.trans (by rw [eF9, va_up_ne _ _ (by omega)]) k177_F8
  have k178_F9 : F9 (178) = .inl (g.2.2 0, 10, .inl (fun _ => 0)) := Eq.trans (by rw [eF9, va_up_ne _ _ (by omega)]) k178_F8
  have k179_F9 : F9 (179) = .inl (g.2.2 0, 10, .inl (fun _ => 0)) := Eq.trans (by rw [eF9, va_up_ne _ _ (by omega)]) k179_F8
  have k175_F9 : F9 (175) = .inr (9, [.ref (ad (176)), .ref (ad (177)), .ref (ad (178)), .ref (ad (179)), .null, .int 0, .int 0, .int 0, .null, .null, .null, .null, .int 0, .int 0, .int 0, .null, .int 0, .int 0, .int 0, .null, .null, .null, .int 0, .int 0, .int 0, .int 0, .null, .null, .int 0, .int 0, .null, .null, .null, .null, .null]) := Eq.trans (by rw [eF9, va_up_ne _ _ (by omega)]) k175_F8
  have ho_F9 : ∀ j, j < 175 → F9 j = F j := fun j hj => Eq.trans (by rw [eF9, va_up_ne _ _ (by omega)]) (ho_F8 j hj)
  have k180_F9 : F9 (180) = .inl (g.2.2 0, 10, .inl (fun _ => 0)) := by rw [eF9]; exact va_up_self _ _ _
  refine r_cpf B (hini rfl) hC (i := 175) (by omega) k175_F9 tyX9 tyX9_ok nmX9 (T := TX9) (n := 35) rfl iwX9_init_X9 4 (by decide) (index := 22) flX9_init_22 rfl rfl (v := .ref (ad (180))) rfl rfl (Nat.le_of_ble_eq_true rfl) dX9_init_41 (fun H locs hC => ?_)
  obtain ⟨F10, eF10⟩ : ∃ f : Nat → va_E, f = va_up F9 (175) (.inr (9, [.ref (ad (176)), .ref (ad (177)), .ref (ad (178)), .ref (ad (179)), .ref (ad (180)), .int 0, .int 0, .int 0, .null, .null, .null, .null, .int 0, .int 0, .int 0, .null, .int 0, .int 0, .int 0, .null, .null, .null, .int 0, .int 0, .int 0, .int 0, .null, .null, .int 0, .int 0, .null, .null, .null, .null, .null])) := ⟨_, rfl⟩
  have hC : Cn g lo (181) ad F10 ss ss.heap H locs := by rw [eF10]; exact hC
  have k176_F10 : F10 (176) = .inl (g.2.2 0, 10, .inl (fun _ => 0)) := Eq.trans (by rw [eF10, va_up_ne _ _ (by omega)]) k176_F9
  have k177_F10 : F10 (177) = .inl (g.2.2 0, 10, .inl (fun _ => 0)) := Eq.trans (by rw [eF10, va_up_ne _ _ (by omega)]) k177_F9
  have k178_F10 : F10 (178) = .inl (g.2.2 0, 10, .inl (fun _ => 0)) := Eq.trans (by rw [eF10, va_up_ne _ _ (by omega)]) k178_F9
  have k179_F10 : F10 (179) = .inl (g.2.2 0, 10, .inl (fun _ => 0)) := Eq.trans (by rw [eF10, va_up_ne _ _ (by omega)]) k179_F9
  have k180_F10 : F10 (180) = .inl (g.2.2 0, 10, .inl (fun _ => 0)) := Eq.trans (by rw [eF10, va_up_ne _ _ (by omega)]) k180_F9
  have ho_F10 : ∀ j, j < 175 → F10 j = F j := fun j hj => Eq.trans (by rw [eF10, va_up_ne _ _ (by omega)]) (ho_F9 j hj)
  have k175_F10 : F10 (175) = .inr (9, [.ref (ad (176)), .ref (ad (177)), .ref (ad (178)), .ref (ad (179)), .ref (ad (180)), .int 0, .int 0, .int 0, .null, .null, .null, .null, .int 0, .int 0, .int 0, .null, .int 0, .int 0, .int 0, .null, .null, .null, .int 0, .int 0, .int 0, .int 0, .null, .null, .int 0, .int 0, .null, .null, .null, .null, .null]) := by rw [eF10]; exact va_up_self _ _ _
  refine lv_aload_n B.1 B.2.1 dX9_init_44 rfl (lv_at hl 0 rfl) ?_
  refine lv_bipush (v := nI 10) B.1 B.2.1 dX9_init_45 (by decide) ?_
  refine r_na (atype := .int) (ty := .int) B hAd hlo hC 0 rfl wkX9_init_89 rfl (n := 10) (a0 := (10, .inl (fun _ => 0))) (fun _ => rfl) (by decide) (by decide) (show _ ≤ 20 from by omega) (show _ ≤ 1279 from by omega) dX9_init_47 (fun H hC => ?_)
  obtain ⟨F11, eF11⟩ : ∃ f : Nat → va_E, f = va_up F10 (181) (.inl (g.2.2 0, 10, .inl (fun _ => 0))) := ⟨_, rfl⟩
  have hC : Cn g lo (182) ad F11 ss ss.heap H locs := by rw [eF11]; exact hC
  have k176_F11 : F11 (176) = .inl (g.2.2 0, 10, .inl (fun _ => 0)) := Eq.trans (by rw [eF11, va_up_ne _ _ (by omega)]) k176_F10
  have k177_F11 : F11 (177) = .inl (g.2.2 0, 10, .inl (fun _ => 0)) := Eq.trans (by rw [eF11, va_up_ne _ _ (by omega)]) k177_F10
  have k178_F11 : F11 (178) = .inl (g.2.2 0, 10, .inl (fun _ => 0)) := Eq.trans (by rw [eF11, va_up_ne _ _ (by omega)]) k178_F10
  have k179_F11 : F11 (179) = .inl (g.2.2 0, 10, .inl (fun _ => 0)) := Eq.trans (by rw [eF11, va_up_ne _ _ (by omega)]) k179_F10
  have k180_F11 : F11 (180) = .inl (g.2.2 0, 10, .inl (fun _ => 0)) := Eq.trans (by rw [eF11, va_up_ne _ _ (by omega)]) k180_F10
  have k175_F11 : F11 (175) = .inr (9, [.ref (ad (176)), .ref (ad (177)), .ref (ad (178)), .ref (ad (179)), .ref (ad (180)), .int 0, .int 0, .int 0, .null, .null, .null, .null, .int 0, .int 0, .int 0, .null, .int 0, .int 0, .int 0, .null, .null, .null, .int 0, .int 0, .int 0, .int 0, .null, .null, .int 0, .int 0, .null, .null, .null, .null, .null]) := Eq.trans (by rw [eF11, va_up_ne _ _ (by omega)]) k175_F10
  have ho_F11 : ∀ j, j < 175 → F11 j = F j := fun j hj => Eq.trans (by rw [eF11, va_up_ne _ _ (by omega)]) (ho_F10 j hj)
  have k181_F11 : F11 (181) = .inl (g.2.2 0, 10, .inl (fun _ => 0)) := by rw [eF11]; exact va_up_self _ _ _
  refine r_cpf B (hini rfl) hC (i := 175) (by omega) k175_F11 tyX9 tyX9_ok nmX9 (T := TX9) (n := 35) rfl iwX9_init_X9 8 (by decide) (index := 25) flX9_init_25 rfl rfl (v := .ref (ad (181))) rfl rfl (Nat.le_of_ble_eq_true rfl) dX9_init_49 (fun H locs hC => ?_)
  obtain ⟨F12, eF12⟩ : ∃ f : Nat → va_E, f = va_up F11 (175) (.inr (9, [.ref (ad (176)), .ref (ad (177)), .ref (ad (178)), .ref (ad (179)), .ref (ad (180)), .int 0, .int 0, .int 0, .ref (ad (181)), .null, .null, .null, .int 0, .int 0, .int 0, .null, .int 0, .int 0, .int 0, .null, .null, .null, .int 0, .int 0, .int 0, .int 0, .null, .null, .int 0, .int 0, .null, .null, .null, .null, .null])) := ⟨_, rfl⟩
  have hC : Cn g lo (182) ad F12 ss ss.heap H locs := by rw [eF12]; exact hC
  have k176_F12 : F12 (176) = .inl (g.2.2 0, 10, .inl (fun _ => 0)) := Eq.trans (by rw [eF12, va_up_ne _ _ (by omega)]) k176_F11
  have k177_F12 : F12 (177) = .inl (g.2.2 0, 10, .inl (fun _ => 0)) := Eq.trans (by rw [eF12, va_up_ne _ _ (by omega)]) k177_F11
  have k178_F12 : F12 (178) = .inl (g.2.2 0, 10, .inl (fun _ => 0)) := Eq.trans (by rw [eF12, va_up_ne _ _ (by omega)]) k178_F11
  have k179_F12 : F12 (179) = .inl (g.2.2 0, 10, .inl (fun _ => 0)) := Eq.trans (by rw [eF12, va_up_ne _ _ (by omega)]) k179_F11
  have k180_F12 : F12 (180) = .inl (g.2.2 0, 10, .inl (fun _ => 0)) := Eq.trans (by rw [eF12, va_up_ne _ _ (by omega)]) k180_F11
  have k181_F12 : F12 (181) = .inl (g.2.2 0, 10, .inl (fun _ => 0)) := Eq.trans (by rw [eF12, va_up_ne _ _ (by omega)]) k181_F11
  have ho_F12 : ∀ j, j < 175 → F12 j = F j := fun j hj => Eq.trans (by rw [eF12, va_up_ne _ _ (by omega)]) (ho_F11 j hj)
  have k175_F12 : F12 (175) = .inr (9, [.ref (ad (176)), .ref (ad (177)), .ref (ad (178)), .ref (ad (179)), .ref (ad (180)), .int 0, .int 0, .int 0, .ref (ad (181)), .null, .null, .null, .int 0, .int 0, .int 0, .null, .int 0, .int 0, .int 0, .null, .null, .null, .int 0, .int 0, .int 0, .int 0, .null, .null, .int 0, .int 0, .null, .null, .null, .null, .null]) := by rw [eF12]; exact va_up_self _ _ _
  refine lv_aload_n B.1 B.2.1 dX9_init_52 rfl (lv_at hl 0 rfl) ?_
  refine lv_bipush (v := nI 10) B.1 B.2.1 dX9_init_53 (by decide) ?_
  refine r_na (atype := .int) (ty := .int) B hAd hlo hC 0 rfl wkX9_init_89 rfl (n := 10) (a0 := (10, .inl (fun _ => 0))) (fun _ => rfl) (by decide) (by decide) (show _ ≤ 20 from by omega) (show _ ≤ 1279 from by omega) dX9_init_55 (fun H hC => ?_)
  obtain ⟨F13, eF13⟩ : ∃ f : Nat → va_E, f = va_up F12 (182) (.inl (g.2.2 0, 10, .inl (fun _ => 0))) := ⟨_, rfl⟩
  have hC : Cn g lo (183) ad F13 ss ss.heap H locs := by rw [eF13]; exact hC
  have k176_F13 : F13 (176) = .inl (g.2.2 0, 10, .inl (fun _ => 0)) := Eq.trans (by rw [eF13, va_up_ne _ _ (by omega)]) k176_F12
  have k177_F13 : F13 (177) = .inl (g.2.2 0, 10, .inl (fun _ => 0)) := Eq.trans (by rw [eF13, va_up_ne _ _ (by omega)]) k177_F12
  have k178_F13 : F13 (178) = .inl (g.2.2 0, 10, .inl (fun _ => 0)) := Eq.trans (by rw [eF13, va_up_ne _ _ (by omega)]) k178_F12
  have k179_F13 : F13 (179) = .inl (g.2.2 0, 10, .inl (fun _ => 0)) := Eq.trans (by rw [eF13, va_up_ne _ _ (by omega)]) k179_F12
  have k180_F13 : F13 (180) = .inl (g.2.2 0, 10, .inl (fun _ => 0)) := Eq.trans (by rw [eF13, va_up_ne _ _ (by omega)]) k180_F12
  have k181_F13 : F13 (181) = .inl (g.2.2 0, 10, .inl (fun _ => 0)) := Eq.trans (by rw [eF13, va_up_ne _ _ (by omega)]) k181_F12
  have k175_F13 : F13 (175) = .inr (9, [.ref (ad (176)), .ref (ad (177)), .ref (ad (178)), .ref (ad (179)), .ref (ad (180)), .int 0, .int 0, .int 0, .ref (ad (181)), .null, .null, .null, .int 0, .int 0, .int 0, .null, .int 0, .int 0, .int 0, .null, .null, .null, .int 0, .int 0, .int 0, .int 0, .null, .null, .int 0, .int 0, .null, .null, .null, .null, .null]) := Eq.trans (by rw [eF13, va_up_ne _ _ (by omega)]) k175_F12
  have ho_F13 : ∀ j, j < 175 → F13 j = F j := fun j hj => Eq.trans (by rw [eF13, va_up_ne _ _ (by omega)]) (ho_F12 j hj)
  have k182_F13 : F13 (182) = .inl (g.2.2 0, 10, .inl (fun _ => 0)) := by rw [eF13]; exact va_up_self _ _ _
  refine r_cpf B (hini rfl) hC (i := 175) (by omega) k175_F13 tyX9 tyX9_ok nmX9 (T := TX9) (n := 35) rfl iwX9_init_X9 9 (by decide) (index := 28) flX9_init_28 rfl rfl (v := .ref (ad (182))) rfl rfl (Nat.le_of_ble_eq_true rfl) dX9_init_57 (fun H locs hC => ?_)
  obtain ⟨F14, eF14⟩ : ∃ f : Nat → va_E, f = va_up F13 (175) (.inr (9, [.ref (ad (176)), .ref (ad (177)), .ref (ad (178)), .ref (ad (179)), .ref (ad (180)), .int 0, .int 0, .int 0, .ref (ad (181)), .ref (ad (182)), .null, .null, .int 0, .int 0, .int 0, .null, .int 0, .int 0, .int 0, .null, .null, .null, .int 0, .int 0, .int 0, .int 0, .null, .null, .int 0, .int 0, .null, .null, .null, .null, .null])) := ⟨_, rfl⟩
  have hC : Cn g lo (183) ad F14 ss ss.heap H locs := by rw [eF14]; exact hC
  have k176_F14 : F14 (176) = .inl (g.2.2 0, 10, .inl (fun _ => 0)) := Eq.trans (by rw [eF14, va_up_ne _ _ (by omega)]) k176_F13
  have k177_F14 : F14 (177) = .inl (g.2.2 0, 10, .inl (fun _ => 0)) := Eq.trans (by rw [eF14, va_up_ne _ _ (by omega)]) k177_F13
  have k178_F14 : F14 (178) = .inl (g.2.2 0, 10, .inl (fun _ => 0)) := Eq.trans (by rw [eF14, va_up_ne _ _ (by omega)]) k178_F13
  have k179_F14 : F14 (179) = .inl (g.2.2 0, 10, .inl (fun _ => 0)) := Eq.trans (by rw [eF14, va_up_ne _ _ (by omega)]) k179_F13
  have k180_F14 : F14 (180) = .inl (g.2.2 0, 10, .inl (fun _ => 0)) := Eq.trans (by rw [eF14, va_up_ne _ _ (by omega)]) k180_F13
  have k181_F14 : F14 (181) = .inl (g.2.2 0, 10, .inl (fun _ => 0)) := Eq.trans (by rw [eF14, va_up_ne _ _ (by omega)]) k181_F13
  have k182_F14 : F14 (182) = .inl (g.2.2 0, 10, .inl (fun _ => 0)) := Eq.trans (by rw [eF14, va_up_ne _ _ (by omega)]) k182_F13
  have ho_F14 : ∀ j, j < 175 → F14 j = F j := fun j hj => Eq.trans (by rw [eF14, va_up_ne _ _ (by omega)]) (ho_F13 j hj)
  have k175_F14 : F14 (175) = .inr (9, [.ref (ad (176)), .ref (ad (177)), .ref (ad (178)), .ref (ad (179)), .ref (ad (180)), .int 0, .int 0, .int 0, .ref (ad (181)), .ref (ad (182)), .null, .null, .int 0, .int 0, .int 0, .null, .int 0, .int 0, .int 0, .null, .null, .null, .int 0, .int 0, .int 0, .int 0, .null, .null, .int 0, .int 0, .null, .null, .null, .null, .null]) := by rw [eF14]; exact va_up_self _ _ _
  refine lv_aload_n B.1 B.2.1 dX9_init_60 rfl (lv_at hl 0 rfl) ?_
  refine lv_bipush (v := nI 10) B.1 B.2.1 dX9_init_61 (by decide) ?_
  refine r_na (atype := .int) (ty := .int) B hAd hlo hC 0 rfl wkX9_init_89 rfl (n := 10) (a0 := (10, .inl (fun _ => 0))) (fun _ => rfl) (by decide) (by decide) (show _ ≤ 20 from by omega) (show _ ≤ 1279 from by omega) dX9_init_63 (fun H hC => ?_)
  obtain ⟨F15, eF15⟩ : ∃ f : Nat → va_E, f = va_up F14 (183) (.inl (g.2.2 0, 10, .inl (fun _ => 0))) := ⟨_, rfl⟩
  have hC : Cn g lo (184) ad F15 ss ss.heap H locs := by rw [eF15]; exact hC
  have k176_F15 : F15 (176) = .inl (g.2.2 0, 10, .inl (fun _ => 0)) := Eq.trans (by rw [eF15, va_up_ne _ _ (by omega)]) k176_F14
  have k177_F15 : F15 (177) = .inl (g.2.2 0, 10, .inl (fun _ => 0)) := Eq.trans (by rw [eF15, va_up_ne _ _ (by omega)]) k177_F14
  have k178_F15 : F15 (178) = .inl (g.2.2 0, 10, .inl (fun _ => 0)) := Eq.trans (by rw [eF15, va_up_ne _ _ (by omega)]) k178_F14
  have k179_F15 : F15 (179) = .inl (g.2.2 0, 10, .inl (fun _ => 0)) := Eq.trans (by rw [eF15, va_up_ne _ _ (by omega)]) k179_F14
  have k180_F15 : F15 (180) = .inl (g.2.2 0, 10, .inl (fun _ => 0)) := Eq.trans (by rw [eF15, va_up_ne _ _ (by omega)]) k180_F14
  have k181_F15 : F15 (181) = .inl (g.2.2 0, 10, .inl (fun _ => 0)) := Eq.trans (by rw [eF15, va_up_ne _ _ (by omega)]) k181_F14
  have k182_F15 : F15 (182) = .inl (g.2.2 0, 10, .inl (fun _ => 0)) := Eq.trans (by rw [eF15, va_up_ne _ _ (by omega)]) k182_F14
  have k175_F15 : F15 (175) = .inr (9, [.ref (ad (176)), .ref (ad (177)), .ref (ad (178)), .ref (ad (179)), .ref (ad (180)), .int 0, .int 0, .int 0, .ref (ad (181)), .ref (ad (182)), .null, .null, .int 0, .int 0, .int 0, .null, .int 0, .int 0, .int 0, .null, .null, .null, .int 0, .int 0, .int 0, .int 0, .null, .null, .int 0, .int 0, .null, .null, .null, .null, .null]) := Eq.trans (by rw [eF15, va_up_ne _ _ (by omega)]) k175_F14
  have ho_F15 : ∀ j, j < 175 → F15 j = F j := fun j hj => Eq.trans (by rw [eF15, va_up_ne _ _ (by omega)]) (ho_F14 j hj)
  have k183_F15 : F15 (183) = .inl (g.2.2 0, 10, .inl (fun _ => 0)) := by rw [eF15]; exact va_up_self _ _ _
  refine r_cpf B (hini rfl) hC (i := 175) (by omega) k175_F15 tyX9 tyX9_ok nmX9 (T := TX9) (n := 35) rfl iwX9_init_X9 10 (by decide) (index := 31) flX9_init_31 rfl rfl (v := .ref (ad (183))) rfl rfl (Nat.le_of_ble_eq_true rfl) dX9_init_65 (fun H locs hC => ?_)
  obtain ⟨F16, eF16⟩ : ∃ f : Nat → va_E, f = va_up F15 (175) (.inr (9, [.ref (ad (176)), .ref (ad (177)), .ref (ad (178)), .ref (ad (179)), .ref (ad (180)), .int 0, .int 0, .int 0, .ref (ad (181)), .ref (ad (182)), .ref (ad (183)), .null, .int 0, .int 0, .int 0, .null, .int 0, .int 0, .int 0, .null, .null, .null, .int 0, .int 0, .int 0, .int 0, .null, .null, .int 0, .int 0, .null, .null, .null, .null, .null])) := ⟨_, rfl⟩
  have hC : Cn g lo (184) ad F16 ss ss.heap H locs := by rw [eF16]; exact hC
  have k176_F16 : F16 (176) = .inl (g.2.2 0, 10, .inl (fun _ => 0)) := Eq.trans (by rw [eF16, va_up_ne _ _ (by omega)]) k176_F15
  have k177_F16 : F16 (177) = .inl (g.2.2 0, 10, .inl (fun _ => 0)) := Eq.trans (by rw [eF16, va_up_ne _ _ (by omega)]) k177_F15
  have k178_F16 : F16 (178) = .inl (g.2.2 0, 10, .inl (fun _ => 0)) := Eq.trans (by rw [eF16, va_up_ne _ _ (by omega)]) k178_F15
  have k179_F16 : F16 (179) = .inl (g.2.2 0, 10, .inl (fun _ => 0)) := Eq.trans (by rw [eF16, va_up_ne _ _ (by omega)]) k179_F15
  have k180_F16 : F16 (180) = .inl (g.2.2 0, 10, .inl (fun _ => 0)) := Eq.trans (by rw [eF16, va_up_ne _ _ (by omega)]) k180_F15
  have k181_F16 : F16 (181) = .inl (g.2.2 0, 10, .inl (fun _ => 0)) := Eq.trans (by rw [eF16, va_up_ne _ _ (by omega)]) k181_F15
  have k182_F16 : F16 (182) = .inl (g.2.2 0, 10, .inl (fun _ => 0)) := Eq.trans (by rw [eF16, va_up_ne _ _ (by omega)]) k182_F15
  have k183_F16 : F16 (183) = .inl (g.2.2 0, 10, .inl (fun _ => 0)) := Eq.trans (by rw [eF16, va_up_ne _ _ (by omega)]) k183_F15
  have ho_F16 : ∀ j, j < 175 → F16 j = F j := fun j hj => Eq.trans (by rw [eF16, va_up_ne _ _ (by omega)]) (ho_F15 j hj)
  have k175_F16 : F16 (175) = .inr (9, [.ref (ad (176)), .ref (ad (177)), .ref (ad (178)), .ref (ad (179)), .ref (ad (180)), .int 0, .int 0, .int 0, .ref (ad (181)), .ref (ad (182)), .ref (ad (183)), .null, .int 0, .int 0, .int 0, .null, .int 0, .int 0, .int 0, .null, .null, .null, .int 0, .int 0, .int 0, .int 0, .null, .null, .int 0, .int 0, .null, .null, .null, .null, .null]) := by rw [eF16]; exact va_up_self _ _ _
  refine lv_aload_n B.1 B.2.1 dX9_init_68 rfl (lv_at hl 0 rfl) ?_
  refine lv_bipush (v := nI 10) B.1 B.2.1 dX9_init_69 (by decide) ?_
  refine r_na (atype := .int) (ty := .int) B hAd hlo hC 0 rfl wkX9_init_89 rfl (n := 10) (a0 := (10, .inl (fun _ => 0))) (fun _ => rfl) (by decide) (by decide) (show _ ≤ 20 from by omega) (show _ ≤ 1279 from by omega) dX9_init_71 (fun H hC => ?_)
  obtain ⟨F17, eF17⟩ : ∃ f : Nat → va_E, f = va_up F16 (184) (.inl (g.2.2 0, 10, .inl (fun _ => 0))) := ⟨_, rfl⟩
  have hC : Cn g lo (185) ad F17 ss ss.heap H locs := by rw [eF17]; exact hC
  have k176_F17 : F17 (176) = .inl (g.2.2 0, 10, .inl (fun _ => 0)) := Eq.trans (by rw [eF17, va_up_ne _ _ (by omega)]) k176_F16
  have k177_F17 : F17 (177) = .inl (g.2.2 0, 10, .inl (fun _ => 0)) := Eq.trans (by rw [eF17, va_up_ne _ _ (by omega)]) k177_F16
  have k178_F17 : F17 (178) = .inl (g.2.2 0, 10, .inl (fun _ => 0)) := Eq.trans (by rw [eF17, va_up_ne _ _ (by omega)]) k178_F16
  have k179_F17 : F17 (179) = .inl (g.2.2 0, 10, .inl (fun _ => 0)) := Eq.trans (by rw [eF17, va_up_ne _ _ (by omega)]) k179_F16
  have k180_F17 : F17 (180) = .inl (g.2.2 0, 10, .inl (fun _ => 0)) := Eq.trans (by rw [eF17, va_up_ne _ _ (by omega)]) k180_F16
  have k181_F17 : F17 (181) = .inl (g.2.2 0, 10, .inl (fun _ => 0)) := Eq.trans (by rw [eF17, va_up_ne _ _ (by omega)]) k181_F16
  have k182_F17 : F17 (182) = .inl (g.2.2 0, 10, .inl (fun _ => 0)) := Eq.trans (by rw [eF17, va_up_ne _ _ (by omega)]) k182_F16
  have k183_F17 : F17 (183) = .inl (g.2.2 0, 10, .inl (fun _ => 0)) := Eq.trans (by rw [eF17, va_up_ne _ _ (by omega)]) k183_F16
  have k175_F17 : F17 (175) = .inr (9, [.ref (ad (176)), .ref (ad (177)), .ref (ad (178)), .ref (ad (179)), .ref (ad (180)), .int 0, .int 0, .int 0, .ref (ad (181)), .ref (ad (182)), .ref (ad (183)), .null, .int 0, .int 0, .int 0, .null, .int 0, .int 0, .int 0, .null, .null, .null, .int 0, .int 0, .int 0, .int 0, .null, .null, .int 0, .int 0, .null, .null, .null, .null, .null]) := Eq.trans (by rw [eF17, va_up_ne _ _ (by omega)]) k175_F16
  have ho_F17 : ∀ j, j < 175 → F17 j = F j := fun j hj => Eq.trans (by rw [eF17, va_up_ne _ _ (by omega)]) (ho_F16 j hj)
  have k184_F17 : F17 (184) = .inl (g.2.2 0, 10, .inl (fun _ => 0)) := by rw [eF17]; exact va_up_self _ _ _
  refine r_cpf B (hini rfl) hC (i := 175) (by omega) k175_F17 tyX9 tyX9_ok nmX9 (T := TX9) (n := 35) rfl iwX9_init_X9 11 (by decide) (index := 34) flX9_init_34 rfl rfl (v := .ref (ad (184))) rfl rfl (Nat.le_of_ble_eq_true rfl) dX9_init_73 (fun H locs hC => ?_)
  obtain ⟨F18, eF18⟩ : ∃ f : Nat → va_E, f = va_up F17 (175) (.inr (9, [.ref (ad (176)), .ref (ad (177)), .ref (ad (178)), .ref (ad (179)), .ref (ad (180)), .int 0, .int 0, .int 0, .ref (ad (181)), .ref (ad (182)), .ref (ad (183)), .ref (ad (184)), .int 0, .int 0, .int 0, .null, .int 0, .int 0, .int 0, .null, .null, .null, .int 0, .int 0, .int 0, .int 0, .null, .null, .int 0, .int 0, .null, .null, .null, .null, .null])) := ⟨_, rfl⟩
  have hC : Cn g lo (185) ad F18 ss ss.heap H locs := by rw [eF18]; exact hC
  have k176_F18 : F18 (176) = .inl (g.2.2 0, 10, .inl (fun _ => 0)) := Eq.trans (by rw [eF18, va_up_ne _ _ (by omega)]) k176_F17
  have k177_F18 : F18 (177) = .inl (g.2.2 0, 10, .inl (fun _ => 0)) := Eq.trans (by rw [eF18, va_up_ne _ _ (by omega)]) k177_F17
  have k178_F18 : F18 (178) = .inl (g.2.2 0, 10, .inl (fun _ => 0)) := Eq.trans (by rw [eF18, va_up_ne _ _ (by omega)]) k178_F17
  have k179_F18 : F18 (179) = .inl (g.2.2 0, 10, .inl (fun _ => 0)) := Eq.trans (by rw [eF18, va_up_ne _ _ (by omega)]) k179_F17
  have k180_F18 : F18 (180) = .inl (g.2.2 0, 10, .inl (fun _ => 0)) := Eq.trans (by rw [eF18, va_up_ne _ _ (by omega)]) k180_F17
  have k181_F18 : F18 (181) = .inl (g.2.2 0, 10, .inl (fun _ => 0)) := Eq.trans (by rw [eF18, va_up_ne _ _ (by omega)]) k181_F17
  have k182_F18 : F18 (182) = .inl (g.2.2 0, 10, .inl (fun _ => 0)) := Eq.trans (by rw [eF18, va_up_ne _ _ (by omega)]) k182_F17
  have k183_F18 : F18 (183) = .inl (g.2.2 0, 10, .inl (fun _ => 0)) := Eq.trans (by rw [eF18, va_up_ne _ _ (by omega)]) k183_F17
  have k184_F18 : F18 (184) = .inl (g.2.2 0, 10, .inl (fun _ => 0)) := Eq.trans (by rw [eF18, va_up_ne _ _ (by omega)]) k184_F17
  have ho_F18 : ∀ j, j < 175 → F18 j = F j := fun j hj => Eq.trans (by rw [eF18, va_up_ne _ _ (by omega)]) (ho_F17 j hj)
  have k175_F18 : F18 (175) = .inr (9, [.ref (ad (176)), .ref (ad (177)), .ref (ad (178)), .ref (ad (179)), .ref (ad (180)), .int 0, .int 0, .int 0, .ref (ad (181)), .ref (ad (182)), .ref (ad (183)), .ref (ad (184)), .int 0, .int 0, .int 0, .null, .int 0, .int 0, .int 0, .null, .null, .null, .int 0, .int 0, .int 0, .int 0, .null, .null, .int 0, .int 0, .null, .null, .null, .null, .null]) := by rw [eF18]; exact va_up_self _ _ _
  refine lv_aload_n B.1 B.2.1 dX9_init_76 rfl (lv_at hl 0 rfl) ?_
  refine lv_bipush (v := nI 72) B.1 B.2.1 dX9_init_77 (by decide) ?_
  refine r_na (atype := .int) (ty := .int) B hAd hlo hC 0 rfl wkX9_init_89 rfl (n := 72) (a0 := (72, .inl (fun _ => 0))) (fun _ => rfl) (by decide) (by decide) (show _ ≤ 20 from by omega) (show _ ≤ 1279 from by omega) dX9_init_79 (fun H hC => ?_)
  obtain ⟨F19, eF19⟩ : ∃ f : Nat → va_E, f = va_up F18 (185) (.inl (g.2.2 0, 72, .inl (fun _ => 0))) := ⟨_, rfl⟩
  have hC : Cn g lo (186) ad F19 ss ss.heap H locs := by rw [eF19]; exact hC
  have k176_F19 : F19 (176) = .inl (g.2.2 0, 10, .inl (fun _ => 0)) := Eq.trans (by rw [eF19, va_up_ne _ _ (by omega)]) k176_F18
  have k177_F19 : F19 (177) = .inl (g.2.2 0, 10, .inl (fun _ => 0)) := Eq.trans (by rw [eF19, va_up_ne _ _ (by omega)]) k177_F18
  have k178_F19 : F19 (178) = .inl (g.2.2 0, 10, .inl (fun _ => 0)) := Eq.trans (by rw [eF19, va_up_ne _ _ (by omega)]) k178_F18
  have k179_F19 : F19 (179) = .inl (g.2.2 0, 10, .inl (fun _ => 0)) := Eq.trans (by rw [eF19, va_up_ne _ _ (by omega)]) k179_F18
  have k180_F19 : F19 (180) = .inl (g.2.2 0, 10, .inl (fun _ => 0)) := Eq.trans (by rw [eF19, va_up_ne _ _ (by omega)]) k180_F18
  have k181_F19 : F19 (181) = .inl (g.2.2 0, 10, .inl (fun _ => 0)) := Eq.trans (by rw [eF19, va_up_ne _ _ (by omega)]) k181_F18
  have k182_F19 : F19 (182) = .inl (g.2.2 0, 10, .inl (fun _ => 0)) := Eq.trans (by rw [eF19, va_up_ne _ _ (by omega)]) k182_F18
  have k183_F19 : F19 (183) = .inl (g.2.2 0, 10, .inl (fun _ => 0)) := Eq.trans (by rw [eF19, va_up_ne _ _ (by omega)]) k183_F18
  have k184_F19 : F19 (184) = .inl (g.2.2 0, 10, .inl (fun _ => 0)) := Eq.trans (by rw [eF19, va_up_ne _ _ (by omega)]) k184_F18
  have k175_F19 : F19 (175) = .inr (9, [.ref (ad (176)), .ref (ad (177)), .ref (ad (178)), .ref (ad (179)), .ref (ad (180)), .int 0, .int 0, .int 0, .ref (ad (181)), .ref (ad (182)), .ref (ad (183)), .ref (ad (184)), .int 0, .int 0, .int 0, .null, .int 0, .int 0, .int 0, .null, .null, .null, .int 0, .int 0, .int 0, .int 0, .null, .null, .int 0, .int 0, .null, .null, .null, .null, .null]) := Eq.trans (by rw [eF19, va_up_ne _ _ (by omega)]) k175_F18
  have ho_F19 : ∀ j, j < 175 → F19 j = F j := fun j hj => Eq.trans (by rw [eF19, va_up_ne _ _ (by omega)]) (ho_F18 j hj)
  have k185_F19 : F19 (185) = .inl (g.2.2 0, 72, .inl (fun _ => 0)) := by rw [eF19]; exact va_up_self _ _ _
  refine r_cpf B (hini rfl) hC (i := 175) (by omega) k175_F19 tyX9 tyX9_ok nmX9 (T := TX9) (n := 35) rfl iwX9_init_X9 15 (by decide) (index := 37) flX9_init_37 rfl rfl (v := .ref (ad (185))) rfl rfl (Nat.le_of_ble_eq_true rfl) dX9_init_81 (fun H locs hC => ?_)
  obtain ⟨F20, eF20⟩ : ∃ f : Nat → va_E, f = va_up F19 (175) (.inr (9, [.ref (ad (176)), .ref (ad (177)), .ref (ad (178)), .ref (ad (179)), .ref (ad (180)), .int 0, .int 0, .int 0, .ref (ad (181)), .ref (ad (182)), .ref (ad (183)), .ref (ad (184)), .int 0, .int 0, .int 0, .ref (ad (185)), .int 0, .int 0, .int 0, .null, .null, .null, .int 0, .int 0, .int 0, .int 0, .null, .null, .int 0, .int 0, .null, .null, .null, .null, .null])) := ⟨_, rfl⟩
  have hC : Cn g lo (186) ad F20 ss ss.heap H locs := by rw [eF20]; exact hC
  have k176_F20 : F20 (176) = .inl (g.2.2 0, 10, .inl (fun _ => 0)) := Eq.trans (by rw [eF20, va_up_ne _ _ (by omega)]) k176_F19
  have k177_F20 : F20 (177) = .inl (g.2.2 0, 10, .inl (fun _ => 0)) := Eq.trans (by rw [eF20, va_up_ne _ _ (by omega)]) k177_F19
  have k178_F20 : F20 (178) = .inl (g.2.2 0, 10, .inl (fun _ => 0)) := Eq.trans (by rw [eF20, va_up_ne _ _ (by omega)]) k178_F19
  have k179_F20 : F20 (179) = .inl (g.2.2 0, 10, .inl (fun _ => 0)) := Eq.trans (by rw [eF20, va_up_ne _ _ (by omega)]) k179_F19
  have k180_F20 : F20 (180) = .inl (g.2.2 0, 10, .inl (fun _ => 0)) := Eq.trans (by rw [eF20, va_up_ne _ _ (by omega)]) k180_F19
  have k181_F20 : F20 (181) = .inl (g.2.2 0, 10, .inl (fun _ => 0)) := Eq.trans (by rw [eF20, va_up_ne _ _ (by omega)]) k181_F19
  have k182_F20 : F20 (182) = .inl (g.2.2 0, 10, .inl (fun _ => 0)) := Eq.trans (by rw [eF20, va_up_ne _ _ (by omega)]) k182_F19
  have k183_F20 : F20 (183) = .inl (g.2.2 0, 10, .inl (fun _ => 0)) := Eq.trans (by rw [eF20, va_up_ne _ _ (by omega)]) k183_F19
  have k184_F20 : F20 (184) = .inl (g.2.2 0, 10, .inl (fun _ => 0)) := Eq.trans (by rw [eF20, va_up_ne _ _ (by omega)]) k184_F19
  have k185_F20 : F20 (185) = .inl (g.2.2 0, 72, .inl (fun _ => 0)) := Eq.trans (by rw [eF20, va_up_ne _ _ (by omega)]) k185_F19
  have ho_F20 : ∀ j, j < 175 → F20 j = F j := fun j hj => Eq.trans (by rw [eF20, va_up_ne _ _ (by omega)]) (ho_F19 j hj)
  have k175_F20 : F20 (175) = .inr (9, [.ref (ad (176)), .ref (ad (177)), .ref (ad (178)), .ref (ad (179)), .ref (ad (180)), .int 0, .int 0, .int 0, .ref (ad (181)), .ref (ad (182)), .ref (ad (183)), .ref (ad (184)), .int 0, .int 0, .int 0, .ref (ad (185)), .int 0, .int 0, .int 0, .null, .null, .null, .int 0, .int 0, .int 0, .int 0, .null, .null, .int 0, .int 0, .null, .null, .null, .null, .null]) := by rw [eF20]; exact va_up_self _ _ _
  refine lv_aload_n B.1 B.2.1 dX9_init_84 rfl (lv_at hl 0 rfl) ?_
  refine lv_bipush (v := nI 60) B.1 B.2.1 dX9_init_85 (by decide) ?_
  refine r_na (atype := .int) (ty := .int) B hAd hlo hC 0 rfl wkX9_init_89 rfl (n := 60) (a0 := (60, .inl (fun _ => 0))) (fun _ => rfl) (by decide) (by decide) (show _ ≤ 20 from by omega) (show _ ≤ 1279 from by omega) dX9_init_87 (fun H hC => ?_)
  obtain ⟨F21, eF21⟩ : ∃ f : Nat → va_E, f = va_up F20 (186) (.inl (g.2.2 0, 60, .inl (fun _ => 0))) := ⟨_, rfl⟩
  have hC : Cn g lo (187) ad F21 ss ss.heap H locs := by rw [eF21]; exact hC
  have k176_F21 : F21 (176) = .inl (g.2.2 0, 10, .inl (fun _ => 0)) := Eq.trans (by rw [eF21, va_up_ne _ _ (by omega)]) k176_F20
  have k177_F21 : F21 (177) = .inl (g.2.2 0, 10, .inl (fun _ => 0)) := Eq.trans (by rw [eF21, va_up_ne _ _ (by omega)]) k177_F20
  have k178_F21 : F21 (178) = .inl (g.2.2 0, 10, .inl (fun _ => 0)) := Eq.trans (by rw [eF21, va_up_ne _ _ (by omega)]) k178_F20
  have k179_F21 : F21 (179) = .inl (g.2.2 0, 10, .inl (fun _ => 0)) := Eq.trans (by rw [eF21, va_up_ne _ _ (by omega)]) k179_F20
  have k180_F21 : F21 (180) = .inl (g.2.2 0, 10, .inl (fun _ => 0)) := Eq.trans (by rw [eF21, va_up_ne _ _ (by omega)]) k180_F20
  have k181_F21 : F21 (181) = .inl (g.2.2 0, 10, .inl (fun _ => 0)) := Eq.trans (by rw [eF21, va_up_ne _ _ (by omega)]) k181_F20
  have k182_F21 : F21 (182) = .inl (g.2.2 0, 10, .inl (fun _ => 0)) := Eq.trans (by rw [eF21, va_up_ne _ _ (by omega)]) k182_F20
  have k183_F21 : F21 (183) = .inl (g.2.2 0, 10, .inl (fun _ => 0)) := Eq.trans (by rw [eF21, va_up_ne _ _ (by omega)]) k183_F20
  have k184_F21 : F21 (184) = .inl (g.2.2 0, 10, .inl (fun _ => 0)) := Eq.trans (by rw [eF21, va_up_ne _ _ (by omega)]) k184_F20
  have k185_F21 : F21 (185) = .inl (g.2.2 0, 72, .inl (fun _ => 0)) := Eq.trans (by rw [eF21, va_up_ne _ _ (by omega)]) k185_F20
  have k175_F21 : F21 (175) = .inr (9, [.ref (ad (176)), .ref (ad (177)), .ref (ad (178)), .ref (ad (179)), .ref (ad (180)), .int 0, .int 0, .int 0, .ref (ad (181)), .ref (ad (182)), .ref (ad (183)), .ref (ad (184)), .int 0, .int 0, .int 0, .ref (ad (185)), .int 0, .int 0, .int 0, .null, .null, .null, .int 0, .int 0, .int 0, .int 0, .null, .null, .int 0, .int 0, .null, .null, .null, .null, .null]) := Eq.trans (by rw [eF21, va_up_ne _ _ (by omega)]) k175_F20
  have ho_F21 : ∀ j, j < 175 → F21 j = F j := fun j hj => Eq.trans (by rw [eF21, va_up_ne _ _ (by omega)]) (ho_F20 j hj)
  have k186_F21 : F21 (186) = .inl (g.2.2 0, 60, .inl (fun _ => 0)) := by rw [eF21]; exact va_up_self _ _ _
  refine r_cpf B (hini rfl) hC (i := 175) (by omega) k175_F21 tyX9 tyX9_ok nmX9 (T := TX9) (n := 35) rfl iwX9_init_X9 19 (by decide) (index := 40) flX9_init_40 rfl rfl (v := .ref (ad (186))) rfl rfl (Nat.le_of_ble_eq_true rfl) dX9_init_89 (fun H locs hC => ?_)
  obtain ⟨F22, eF22⟩ : ∃ f : Nat → va_E, f = va_up F21 (175) (.inr (9, [.ref (ad (176)), .ref (ad (177)), .ref (ad (178)), .ref (ad (179)), .ref (ad (180)), .int 0, .int 0, .int 0, .ref (ad (181)), .ref (ad (182)), .ref (ad (183)), .ref (ad (184)), .int 0, .int 0, .int 0, .ref (ad (185)), .int 0, .int 0, .int 0, .ref (ad (186)), .null, .null, .int 0, .int 0, .int 0, .int 0, .null, .null, .int 0, .int 0, .null, .null, .null, .null, .null])) := ⟨_, rfl⟩
  have hC : Cn g lo (187) ad F22 ss ss.heap H locs := by rw [eF22]; exact hC
  have k176_F22 : F22 (176) = .inl (g.2.2 0, 10, .inl (fun _ => 0)) := Eq.trans (by rw [eF22, va_up_ne _ _ (by omega)]) k176_F21
  have k177_F22 : F22 (177) = .inl (g.2.2 0, 10, .inl (fun _ => 0)) := Eq.trans (by rw [eF22, va_up_ne _ _ (by omega)]) k177_F21
  have k178_F22 : F22 (178) = .inl (g.2.2 0, 10, .inl (fun _ => 0)) := Eq.trans (by rw [eF22, va_up_ne _ _ (by omega)]) k178_F21
  have k179_F22 : F22 (179) = .inl (g.2.2 0, 10, .inl (fun _ => 0)) := Eq.trans (by rw [eF22, va_up_ne _ _ (by omega)]) k179_F21
  have k180_F22 : F22 (180) = .inl (g.2.2 0, 10, .inl (fun _ => 0)) := Eq.trans (by rw [eF22, va_up_ne _ _ (by omega)]) k180_F21
  have k181_F22 : F22 (181) = .inl (g.2.2 0, 10, .inl (fun _ => 0)) := Eq.trans (by rw [eF22, va_up_ne _ _ (by omega)]) k181_F21
  have k182_F22 : F22 (182) = .inl (g.2.2 0, 10, .inl (fun _ => 0)) := Eq.trans (by rw [eF22, va_up_ne _ _ (by omega)]) k182_F21
  have k183_F22 : F22 (183) = .inl (g.2.2 0, 10, .inl (fun _ => 0)) := Eq.trans (by rw [eF22, va_up_ne _ _ (by omega)]) k183_F21
  have k184_F22 : F22 (184) = .inl (g.2.2 0, 10, .inl (fun _ => 0)) := Eq.trans (by rw [eF22, va_up_ne _ _ (by omega)]) k184_F21
  have k185_F22 : F22 (185) = .inl (g.2.2 0, 72, .inl (fun _ => 0)) := Eq.trans (by rw [eF22, va_up_ne _ _ (by omega)]) k185_F21
  have k186_F22 : F22 (186) = .inl (g.2.2 0, 60, .inl (fun _ => 0)) := Eq.trans (by rw [eF22, va_up_ne _ _ (by omega)]) k186_F21
  have ho_F22 : ∀ j, j < 175 → F22 j = F j := fun j hj => Eq.trans (by rw [eF22, va_up_ne _ _ (by omega)]) (ho_F21 j hj)
  have k175_F22 : F22 (175) = .inr (9, [.ref (ad (176)), .ref (ad (177)), .ref (ad (178)), .ref (ad (179)), .ref (ad (180)), .int 0, .int 0, .int 0, .ref (ad (181)), .ref (ad (182)), .ref (ad (183)), .ref (ad (184)), .int 0, .int 0, .int 0, .ref (ad (185)), .int 0, .int 0, .int 0, .ref (ad (186)), .null, .null, .int 0, .int 0, .int 0, .int 0, .null, .null, .int 0, .int 0, .null, .null, .null, .null, .null]) := by rw [eF22]; exact va_up_self _ _ _
  refine lv_aload_n B.1 B.2.1 dX9_init_92 rfl (lv_at hl 0 rfl) ?_
  refine lv_bipush (v := nI 60) B.1 B.2.1 dX9_init_93 (by decide) ?_
  refine r_na (atype := .int) (ty := .int) B hAd hlo hC 0 rfl wkX9_init_89 rfl (n := 60) (a0 := (60, .inl (fun _ => 0))) (fun _ => rfl) (by decide) (by decide) (show _ ≤ 20 from by omega) (show _ ≤ 1279 from by omega) dX9_init_95 (fun H hC => ?_)
  obtain ⟨F23, eF23⟩ : ∃ f : Nat → va_E, f = va_up F22 (187) (.inl (g.2.2 0, 60, .inl (fun _ => 0))) := ⟨_, rfl⟩
  have hC : Cn g lo (188) ad F23 ss ss.heap H locs := by rw [eF23]; exact hC
  have k176_F23 : F23 (176) = .inl (g.2.2 0, 10, .inl (fun _ => 0)) := Eq.trans (by rw [eF23, va_up_ne _ _ (by omega)]) k176_F22
  have k177_F23 : F23 (177) = .inl (g.2.2 0, 10, .inl (fun _ => 0)) := Eq.trans (by rw [eF23, va_up_ne _ _ (by omega)]) k177_F22
  have k178_F23 : F23 (178) = .inl (g.2.2 0, 10, .inl (fun _ => 0)) := Eq.trans (by rw [eF23, va_up_ne _ _ (by omega)]) k178_F22
  have k179_F23 : F23 (179) = .inl (g.2.2 0, 10, .inl (fun _ => 0)) := Eq.trans (by rw [eF23, va_up_ne _ _ (by omega)]) k179_F22
  have k180_F23 : F23 (180) = .inl (g.2.2 0, 10, .inl (fun _ => 0)) := Eq.trans (by rw [eF23, va_up_ne _ _ (by omega)]) k180_F22
  have k181_F23 : F23 (181) = .inl (g.2.2 0, 10, .inl (fun _ => 0)) := Eq.trans (by rw [eF23, va_up_ne _ _ (by omega)]) k181_F22
  have k182_F23 : F23 (182) = .inl (g.2.2 0, 10, .inl (fun _ => 0)) := Eq.trans (by rw [eF23, va_up_ne _ _ (by omega)]) k182_F22
  have k183_F23 : F23 (183) = .inl (g.2.2 0, 10, .inl (fun _ => 0)) := Eq.trans (by rw [eF23, va_up_ne _ _ (by omega)]) k183_F22
  have k184_F23 : F23 (184) = .inl (g.2.2 0, 10, .inl (fun _ => 0)) := Eq.trans (by rw [eF23, va_up_ne _ _ (by omega)]) k184_F22
  have k185_F23 : F23 (185) = .inl (g.2.2 0, 72, .inl (fun _ => 0)) := Eq.trans (by rw [eF23, va_up_ne _ _ (by omega)]) k185_F22
  have k186_F23 : F23 (186) = .inl (g.2.2 0, 60, .inl (fun _ => 0)) := Eq.trans (by rw [eF23, va_up_ne _ _ (by omega)]) k186_F22
  have k175_F23 : F23 (175) = .inr (9, [.ref (ad (176)), .ref (ad (177)), .ref (ad (178)), .ref (ad (179)), .ref (ad (180)), .int 0, .int 0, .int 0, .ref (ad (181)), .ref (ad (182)), .ref (ad (183)), .ref (ad (184)), .int 0, .int 0, .int 0, .ref (ad (185)), .int 0, .int 0, .int 0, .ref (ad (186)), .null, .null, .int 0, .int 0, .int 0, .int 0, .null, .null, .int 0, .int 0, .null, .null, .null, .null, .null]) := Eq.trans (by rw [eF23, va_up_ne _ _ (by omega)]) k175_F22
  have ho_F23 : ∀ j, j < 175 → F23 j = F j := fun j hj => Eq.trans (by rw [eF23, va_up_ne _ _ (by omega)]) (ho_F22 j hj)
  have k187_F23 : F23 (187) = .inl (g.2.2 0, 60, .inl (fun _ => 0)) := by rw [eF23]; exact va_up_self _ _ _
  refine r_cpf B (hini rfl) hC (i := 175) (by omega) k175_F23 tyX9 tyX9_ok nmX9 (T := TX9) (n := 35) rfl iwX9_init_X9 20 (by decide) (index := 43) flX9_init_43 rfl rfl (v := .ref (ad (187))) rfl rfl (Nat.le_of_ble_eq_true rfl) dX9_init_97 (fun H locs hC => ?_)
  obtain ⟨F24, eF24⟩ : ∃ f : Nat → va_E, f = va_up F23 (175) (.inr (9, [.ref (ad (176)), .ref (ad (177)), .ref (ad (178)), .ref (ad (179)), .ref (ad (180)), .int 0, .int 0, .int 0, .ref (ad (181)), .ref (ad (182)), .ref (ad (183)), .ref (ad (184)), .int 0, .int 0, .int 0, .ref (ad (185)), .int 0, .int 0, .int 0, .ref (ad (186)), .ref (ad (187)), .null, .int 0, .int 0, .int 0, .int 0, .null, .null, .int 0, .int 0, .null, .null, .null, .null, .null])) := ⟨_, rfl⟩
  have hC : Cn g lo (188) ad F24 ss ss.heap H locs := by rw [eF24]; exact hC
  have k176_F24 : F24 (176) = .inl (g.2.2 0, 10, .inl (fun _ => 0)) := Eq.trans (by rw [eF24, va_up_ne _ _ (by omega)]) k176_F23
  have k177_F24 : F24 (177) = .inl (g.2.2 0, 10, .inl (fun _ => 0)) := Eq.trans (by rw [eF24, va_up_ne _ _ (by omega)]) k177_F23
  have k178_F24 : F24 (178) = .inl (g.2.2 0, 10, .inl (fun _ => 0)) := Eq.trans (by rw [eF24, va_up_ne _ _ (by omega)]) k178_F23
  have k179_F24 : F24 (179) = .inl (g.2.2 0, 10, .inl (fun _ => 0)) := Eq.trans (by rw [eF24, va_up_ne _ _ (by omega)]) k179_F23
  have k180_F24 : F24 (180) = .inl (g.2.2 0, 10, .inl (fun _ => 0)) := Eq.trans (by rw [eF24, va_up_ne _ _ (by omega)]) k180_F23
  have k181_F24 : F24 (181) = .inl (g.2.2 0, 10, .inl (fun _ => 0)) := Eq.trans (by rw [eF24, va_up_ne _ _ (by omega)]) k181_F23
  have k182_F24 : F24 (182) = .inl (g.2.2 0, 10, .inl (fun _ => 0)) := Eq.trans (by rw [eF24, va_up_ne _ _ (by omega)]) k182_F23
  have k183_F24 : F24 (183) = .inl (g.2.2 0, 10, .inl (fun _ => 0)) := Eq.trans (by rw [eF24, va_up_ne _ _ (by omega)]) k183_F23
  have k184_F24 : F24 (184) = .inl (g.2.2 0, 10, .inl (fun _ => 0)) := Eq.trans (by rw [eF24, va_up_ne _ _ (by omega)]) k184_F23
  have k185_F24 : F24 (185) = .inl (g.2.2 0, 72, .inl (fun _ => 0)) := Eq.trans (by rw [eF24, va_up_ne _ _ (by omega)]) k185_F23
  have k186_F24 : F24 (186) = .inl (g.2.2 0, 60, .inl (fun _ => 0)) := Eq.trans (by rw [eF24, va_up_ne _ _ (by omega)]) k186_F23
  have k187_F24 : F24 (187) = .inl (g.2.2 0, 60, .inl (fun _ => 0)) := Eq.trans (by rw [eF24, va_up_ne _ _ (by omega)]) k187_F23
  have ho_F24 : ∀ j, j < 175 → F24 j = F j := fun j hj => Eq.trans (by rw [eF24, va_up_ne _ _ (by omega)]) (ho_F23 j hj)
  have k175_F24 : F24 (175) = .inr (9, [.ref (ad (176)), .ref (ad (177)), .ref (ad (178)), .ref (ad (179)), .ref (ad (180)), .int 0, .int 0, .int 0, .ref (ad (181)), .ref (ad (182)), .ref (ad (183)), .ref (ad (184)), .int 0, .int 0, .int 0, .ref (ad (185)), .int 0, .int 0, .int 0, .ref (ad (186)), .ref (ad (187)), .null, .int 0, .int 0, .int 0, .int 0, .null, .null, .int 0, .int 0, .null, .null, .null, .null, .null]) := by rw [eF24]; exact va_up_self _ _ _
  refine lv_aload_n B.1 B.2.1 dX9_init_100 rfl (lv_at hl 0 rfl) ?_
  refine lv_bipush (v := nI 60) B.1 B.2.1 dX9_init_101 (by decide) ?_
  refine r_na (atype := .int) (ty := .int) B hAd hlo hC 0 rfl wkX9_init_89 rfl (n := 60) (a0 := (60, .inl (fun _ => 0))) (fun _ => rfl) (by decide) (by decide) (show _ ≤ 20 from by omega) (show _ ≤ 1279 from by omega) dX9_init_103 (fun H hC => ?_)
  obtain ⟨F25, eF25⟩ : ∃ f : Nat → va_E, f = va_up F24 (188) (.inl (g.2.2 0, 60, .inl (fun _ => 0))) := ⟨_, rfl⟩
  have hC : Cn g lo (189) ad F25 ss ss.heap H locs := by rw [eF25]; exact hC
  have k176_F25 : F25 (176) = .inl (g.2.2 0, 10, .inl (fun _ => 0)) := Eq.trans (by rw [eF25, va_up_ne _ _ (by omega)]) k176_F24
  have k177_F25 : F25 (177) = .inl (g.2.2 0, 10, .inl (fun _ => 0)) := Eq.trans (by rw [eF25, va_up_ne _ _ (by omega)]) k177_F24
  have k178_F25 : F25 (178) = .inl (g.2.2 0, 10, .inl (fun _ => 0)) := Eq.trans (by rw [eF25, va_up_ne _ _ (by omega)]) k178_F24
  have k179_F25 : F25 (179) = .inl (g.2.2 0, 10, .inl (fun _ => 0)) := Eq.trans (by rw [eF25, va_up_ne _ _ (by omega)]) k179_F24
  have k180_F25 : F25 (180) = .inl (g.2.2 0, 10, .inl (fun _ => 0)) := Eq.trans (by rw [eF25, va_up_ne _ _ (by omega)]) k180_F24
  have k181_F25 : F25 (181) = .inl (g.2.2 0, 10, .inl (fun _ => 0)) := Eq.trans (by rw [eF25, va_up_ne _ _ (by omega)]) k181_F24
  have k182_F25 : F25 (182) = .inl (g.2.2 0, 10, .inl (fun _ => 0)) := Eq.trans (by rw [eF25, va_up_ne _ _ (by omega)]) k182_F24
  have k183_F25 : F25 (183) = .inl (g.2.2 0, 10, .inl (fun _ => 0)) := Eq.trans (by rw [eF25, va_up_ne _ _ (by omega)]) k183_F24
  have k184_F25 : F25 (184) = .inl (g.2.2 0, 10, .inl (fun _ => 0)) := Eq.trans (by rw [eF25, va_up_ne _ _ (by omega)]) k184_F24
  have k185_F25 : F25 (185) = .inl (g.2.2 0, 72, .inl (fun _ => 0)) := Eq.trans (by rw [eF25, va_up_ne _ _ (by omega)]) k185_F24
  have k186_F25 : F25 (186) = .inl (g.2.2 0, 60, .inl (fun _ => 0)) := Eq.trans (by rw [eF25, va_up_ne _ _ (by omega)]) k186_F24
  have k187_F25 : F25 (187) = .inl (g.2.2 0, 60, .inl (fun _ => 0)) := Eq.trans (by rw [eF25, va_up_ne _ _ (by omega)]) k187_F24
  have k175_F25 : F25 (175) = .inr (9, [.ref (ad (176)), .ref (ad (177)), .ref (ad (178)), .ref (ad (179)), .ref (ad (180)), .int 0, .int 0, .int 0, .ref (ad (181)), .ref (ad (182)), .ref (ad (183)), .ref (ad (184)), .int 0, .int 0, .int 0, .ref (ad (185)), .int 0, .int 0, .int 0, .ref (ad (186)), .ref (ad (187)), .null, .int 0, .int 0, .int 0, .int 0, .null, .null, .int 0, .int 0, .null, .null, .null, .null, .null]) := Eq.trans (by rw [eF25, va_up_ne _ _ (by omega)]) k175_F24
  have ho_F25 : ∀ j, j < 175 → F25 j = F j := fun j hj => Eq.trans (by rw [eF25, va_up_ne _ _ (by omega)]) (ho_F24 j hj)
  have k188_F25 : F25 (188) = .inl (g.2.2 0, 60, .inl (fun _ => 0)) := by rw [eF25]; exact va_up_self _ _ _
  refine r_cpf B (hini rfl) hC (i := 175) (by omega) k175_F25 tyX9 tyX9_ok nmX9 (T := TX9) (n := 35) rfl iwX9_init_X9 21 (by decide) (index := 46) flX9_init_46 rfl rfl (v := .ref (ad (188))) rfl rfl (Nat.le_of_ble_eq_true rfl) dX9_init_105 (fun H locs hC => ?_)
  obtain ⟨F26, eF26⟩ : ∃ f : Nat → va_E, f = va_up F25 (175) (.inr (9, [.ref (ad (176)), .ref (ad (177)), .ref (ad (178)), .ref (ad (179)), .ref (ad (180)), .int 0, .int 0, .int 0, .ref (ad (181)), .ref (ad (182)), .ref (ad (183)), .ref (ad (184)), .int 0, .int 0, .int 0, .ref (ad (185)), .int 0, .int 0, .int 0, .ref (ad (186)), .ref (ad (187)), .ref (ad (188)), .int 0, .int 0, .int 0, .int 0, .null, .null, .int 0, .int 0, .null, .null, .null, .null, .null])) := ⟨_, rfl⟩
  have hC : Cn g lo (189) ad F26 ss ss.heap H locs := by rw [eF26]; exact hC
  have k176_F26 : F26 (176) = .inl (g.2.2 0, 10, .inl (fun _ => 0)) := Eq.trans (by rw [eF26, va_up_ne _ _ (by omega)]) k176_F25
  have k177_F26 : F26 (177) = .inl (g.2.2 0, 10, .inl (fun _ => 0)) := Eq.trans (by rw [eF26, va_up_ne _ _ (by omega)]) k177_F25
  have k178_F26 : F26 (178) = .inl (g.2.2 0, 10, .inl (fun _ => 0)) := Eq.trans (by rw [eF26, va_up_ne _ _ (by omega)]) k178_F25
  have k179_F26 : F26 (179) = .inl (g.2.2 0, 10, .inl (fun _ => 0)) := Eq.trans (by rw [eF26, va_up_ne _ _ (by omega)]) k179_F25
  have k180_F26 : F26 (180) = .inl (g.2.2 0, 10, .inl (fun _ => 0)) := Eq.trans (by rw [eF26, va_up_ne _ _ (by omega)]) k180_F25
  have k181_F26 : F26 (181) = .inl (g.2.2 0, 10, .inl (fun _ => 0)) := Eq.trans (by rw [eF26, va_up_ne _ _ (by omega)]) k181_F25
  have k182_F26 : F26 (182) = .inl (g.2.2 0, 10, .inl (fun _ => 0)) := Eq.trans (by rw [eF26, va_up_ne _ _ (by omega)]) k182_F25
  have k183_F26 : F26 (183) = .inl (g.2.2 0, 10, .inl (fun _ => 0)) := Eq.trans (by rw [eF26, va_up_ne _ _ (by omega)]) k183_F25
  have k184_F26 : F26 (184) = .inl (g.2.2 0, 10, .inl (fun _ => 0)) := Eq.trans (by rw [eF26, va_up_ne _ _ (by omega)]) k184_F25
  have k185_F26 : F26 (185) = .inl (g.2.2 0, 72, .inl (fun _ => 0)) := Eq.trans (by rw [eF26, va_up_ne _ _ (by omega)]) k185_F25
  have k186_F26 : F26 (186) = .inl (g.2.2 0, 60, .inl (fun _ => 0)) := Eq.trans (by rw [eF26, va_up_ne _ _ (by omega)]) k186_F25
  have k187_F26 : F26 (187) = .inl (g.2.2 0, 60, .inl (fun _ => 0)) := Eq.trans (by rw [eF26, va_up_ne _ _ (by omega)]) k187_F25
  have k188_F26 : F26 (188) = .inl (g.2.2 0, 60, .inl (fun _ => 0)) := Eq.trans (by rw [eF26, va_up_ne _ _ (by omega)]) k188_F25
  have ho_F26 : ∀ j, j < 175 → F26 j = F j := fun j hj => Eq.trans (by rw [eF26, va_up_ne _ _ (by omega)]) (ho_F25 j hj)
  have k175_F26 : F26 (175) = .inr (9, [.ref (ad (176)), .ref (ad (177)), .ref (ad (178)), .ref (ad (179)), .ref (ad (180)), .int 0, .int 0, .int 0, .ref (ad (181)), .ref (ad (182)), .ref (ad (183)), .ref (ad (184)), .int 0, .int 0, .int 0, .ref (ad (185)), .int 0, .int 0, .int 0, .ref (ad (186)), .ref (ad (187)), .ref (ad (188)), .int 0, .int 0, .int 0, .int 0, .null, .null, .int 0, .int 0, .null, .null, .null, .null, .null]) := by rw [eF26]; exact va_up_self _ _ _
  refine lv_aload_n B.1 B.2.1 dX9_init_108 rfl (lv_at hl 0 rfl) ?_
  refine lv_sipush (v := nI 768) B.1 B.2.1 dX9_init_109 (by decide) ?_
  refine r_na (atype := .int) (ty := .int) B hAd hlo hC 0 rfl wkX9_init_89 rfl (n := 768) (a0 := (768, .inl (fun _ => 0))) (fun _ => rfl) (by decide) (by decide) (show _ ≤ 20 from by omega) (show _ ≤ 1279 from by omega) dX9_init_112 (fun H hC => ?_)
  obtain ⟨F27, eF27⟩ : ∃ f : Nat → va_E, f = va_up F26 (189) (.inl (g.2.2 0, 768, .inl (fun _ => 0))) := ⟨_, rfl⟩
  have hC : Cn g lo (190) ad F27 ss ss.heap H locs := by rw [eF27]; exact hC
  have k176_F27 : F27 (176) = .inl (g.2.2 0, 10, .inl (fun _ => 0)) := Eq.trans (by rw [eF27, va_up_ne _ _ (by omega)]) k176_F26
  have k177_F27 : F27 (177) = .inl (g.2.2 0, 10, .inl (fun _ => 0)) := Eq.trans (by rw [eF27, va_up_ne _ _ (by omega)]) k177_F26
  have k178_F27 : F27 (178) = .inl (g.2.2 0, 10, .inl (fun _ => 0)) := Eq.trans (by rw [eF27, va_up_ne _ _ (by omega)]) k178_F26
  have k179_F27 : F27 (179) = .inl (g.2.2 0, 10, .inl (fun _ => 0)) := Eq.trans (by rw [eF27, va_up_ne _ _ (by omega)]) k179_F26
  have k180_F27 : F27 (180) = .inl (g.2.2 0, 10, .inl (fun _ => 0)) := Eq.trans (by rw [eF27, va_up_ne _ _ (by omega)]) k180_F26
  have k181_F27 : F27 (181) = .inl (g.2.2 0, 10, .inl (fun _ => 0)) := Eq.trans (by rw [eF27, va_up_ne _ _ (by omega)]) k181_F26
  have k182_F27 : F27 (182) = .inl (g.2.2 0, 10, .inl (fun _ => 0)) := Eq.trans (by rw [eF27, va_up_ne _ _ (by omega)]) k182_F26
  have k183_F27 : F27 (183) = .inl (g.2.2 0, 10, .inl (fun _ => 0)) := Eq.trans (by rw [eF27, va_up_ne _ _ (by omega)]) k183_F26
  have k184_F27 : F27 (184) = .inl (g.2.2 0, 10, .inl (fun _ => 0)) := Eq.trans (by rw [eF27, va_up_ne _ _ (by omega)]) k184_F26
  have k185_F27 : F27 (185) = .inl (g.2.2 0, 72, .inl (fun _ => 0)) := Eq.trans (by rw [eF27, va_up_ne _ _ (by omega)]) k185_F26
  have k186_F27 : F27 (186) = .inl (g.2.2 0, 60, .inl (fun _ => 0)) := Eq.trans (by rw [eF27, va_up_ne _ _ (by omega)]) k186_F26
  have k187_F27 : F27 (187) = .inl (g.2.2 0, 60, .inl (fun _ => 0)) := Eq.trans (by rw [eF27, va_up_ne _ _ (by omega)]) k187_F26
  have k188_F27 : F27 (188) = .inl (g.2.2 0, 60, .inl (fun _ => 0)) := Eq.trans (by rw [eF27, va_up_ne _ _ (by omega)]) k188_F26
  have k175_F27 : F27 (175) = .inr (9, [.ref (ad (176)), .ref (ad (177)), .ref (ad (178)), .ref (ad (179)), .ref (ad (180)), .int 0, .int 0, .int 0, .ref (ad (181)), .ref (ad (182)), .ref (ad (183)), .ref (ad (184)), .int 0, .int 0, .int 0, .ref (ad (185)), .int 0, .int 0, .int 0, .ref (ad (186)), .ref (ad (187)), .ref (ad (188)), .int 0, .int 0, .int 0, .int 0, .null, .null, .int 0, .int 0, .null, .null, .null, .null, .null]) := Eq.trans (by rw [eF27, va_up_ne _ _ (by omega)]) k175_F26
  have ho_F27 : ∀ j, j < 175 → F27 j = F j := fun j hj => Eq.trans (by rw [eF27, va_up_ne _ _ (by omega)]) (ho_F26 j hj)
  have k189_F27 : F27 (189) = .inl (g.2.2 0, 768, .inl (fun _ => 0)) := by rw [eF27]; exact va_up_self _ _ _
  refine r_cpf B (hini rfl) hC (i := 175) (by omega) k175_F27 tyX9 tyX9_ok nmX9 (T := TX9) (n := 35) rfl iwX9_init_X9 26 (by decide) (index := 49) flX9_init_49 rfl rfl (v := .ref (ad (189))) rfl rfl (Nat.le_of_ble_eq_true rfl) dX9_init_114 (fun H locs hC => ?_)
  obtain ⟨F28, eF28⟩ : ∃ f : Nat → va_E, f = va_up F27 (175) (.inr (9, [.ref (ad (176)), .ref (ad (177)), .ref (ad (178)), .ref (ad (179)), .ref (ad (180)), .int 0, .int 0, .int 0, .ref (ad (181)), .ref (ad (182)), .ref (ad (183)), .ref (ad (184)), .int 0, .int 0, .int 0, .ref (ad (185)), .int 0, .int 0, .int 0, .ref (ad (186)), .ref (ad (187)), .ref (ad (188)), .int 0, .int 0, .int 0, .int 0, .ref (ad (189)), .null, .int 0, .int 0, .null, .null, .null, .null, .null])) := ⟨_, rfl⟩
  have hC : Cn g lo (190) ad F28 ss ss.heap H locs := by rw [eF28]; exact hC
  have k176_F28 : F28 (176) = .inl (g.2.2 0, 10, .inl (fun _ => 0)) := Eq.trans (by rw [eF28, va_up_ne _ _ (by omega)]) k176_F27
  have k177_F28 : F28 (177) = .inl (g.2.2 0, 10, .inl (fun _ => 0)) := Eq.trans (by rw [eF28, va_up_ne _ _ (by omega)]) k177_F27
  have k178_F28 : F28 (178) = .inl (g.2.2 0, 10, .inl (fun _ => 0)) := Eq.trans (by rw [eF28, va_up_ne _ _ (by omega)]) k178_F27
  have k179_F28 : F28 (179) = .inl (g.2.2 0, 10, .inl (fun _ => 0)) := Eq.trans (by rw [eF28, va_up_ne _ _ (by omega)]) k179_F27
  have k180_F28 : F28 (180) = .inl (g.2.2 0, 10, .inl (fun _ => 0)) := Eq.trans (by rw [eF28, va_up_ne _ _ (by omega)]) k180_F27
  have k181_F28 : F28 (181) = .inl (g.2.2 0, 10, .inl (fun _ => 0)) := Eq.trans (by rw [eF28, va_up_ne _ _ (by omega)]) k181_F27
  have k182_F28 : F28 (182) = .inl (g.2.2 0, 10, .inl (fun _ => 0)) := Eq.trans (by rw [eF28, va_up_ne _ _ (by omega)]) k182_F27
  have k183_F28 : F28 (183) = .inl (g.2.2 0, 10, .inl (fun _ => 0)) := Eq.trans (by rw [eF28, va_up_ne _ _ (by omega)]) k183_F27
  have k184_F28 : F28 (184) = .inl (g.2.2 0, 10, .inl (fun _ => 0)) := Eq.trans (by rw [eF28, va_up_ne _ _ (by omega)]) k184_F27
  have k185_F28 : F28 (185) = .inl (g.2.2 0, 72, .inl (fun _ => 0)) := Eq.trans (by rw [eF28, va_up_ne _ _ (by omega)]) k185_F27
  have k186_F28 : F28 (186) = .inl (g.2.2 0, 60, .inl (fun _ => 0)) := Eq.trans (by rw [eF28, va_up_ne _ _ (by omega)]) k186_F27
  have k187_F28 : F28 (187) = .inl (g.2.2 0, 60, .inl (fun _ => 0)) := Eq.trans (by rw [eF28, va_up_ne _ _ (by omega)]) k187_F27
  have k188_F28 : F28 (188) = .inl (g.2.2 0, 60, .inl (fun _ => 0)) := Eq.trans (by rw [eF28, va_up_ne _ _ (by omega)]) k188_F27
  have k189_F28 : F28 (189) = .inl (g.2.2 0, 768, .inl (fun _ => 0)) := Eq.trans (by rw [eF28, va_up_ne _ _ (by omega)]) k189_F27
  have ho_F28 : ∀ j, j < 175 → F28 j = F j := fun j hj => Eq.trans (by rw [eF28, va_up_ne _ _ (by omega)]) (ho_F27 j hj)
  have k175_F28 : F28 (175) = .inr (9, [.ref (ad (176)), .ref (ad (177)), .ref (ad (178)), .ref (ad (179)), .ref (ad (180)), .int 0, .int 0, .int 0, .ref (ad (181)), .ref (ad (182)), .ref (ad (183)), .ref (ad (184)), .int 0, .int 0, .int 0, .ref (ad (185)), .int 0, .int 0, .int 0, .ref (ad (186)), .ref (ad (187)), .ref (ad (188)), .int 0, .int 0, .int 0, .int 0, .ref (ad (189)), .null, .int 0, .int 0, .null, .null, .null, .null, .null]) := by rw [eF28]; exact va_up_self _ _ _
  refine lv_aload_n B.1 B.2.1 dX9_init_117 rfl (lv_at hl 0 rfl) ?_
  refine lv_iconst (v := nI 3) B.1 B.2.1 dX9_init_118 (by decide) ?_
  refine r_na (atype := .int) (ty := .int) B hAd hlo hC 0 rfl wkX9_init_89 rfl (n := 3) (a0 := (3, .inl (fun _ => 0))) (fun _ => rfl) (by decide) (by decide) (show _ ≤ 20 from by omega) (show _ ≤ 1279 from by omega) dX9_init_119 (fun H hC => ?_)
  obtain ⟨F29, eF29⟩ : ∃ f : Nat → va_E, f = va_up F28 (190) (.inl (g.2.2 0, 3, .inl (fun _ => 0))) := ⟨_, rfl⟩
  have hC : Cn g lo (191) ad F29 ss ss.heap H locs := by rw [eF29]; exact hC
  have k176_F29 : F29 (176) = .inl (g.2.2 0, 10, .inl (fun _ => 0)) := Eq.trans (by rw [eF29, va_up_ne _ _ (by omega)]) k176_F28
  have k177_F29 : F29 (177) = .inl (g.2.2 0, 10, .inl (fun _ => 0)) := Eq.trans (by rw [eF29, va_up_ne _ _ (by omega)]) k177_F28
  have k178_F29 : F29 (178) = .inl (g.2.2 0, 10, .inl (fun _ => 0)) := Eq.trans (by rw [eF29, va_up_ne _ _ (by omega)]) k178_F28
  have k179_F29 : F29 (179) = .inl (g.2.2 0, 10, .inl (fun _ => 0)) := Eq.trans (by rw [eF29, va_up_ne _ _ (by omega)]) k179_F28
  have k180_F29 : F29 (180) = .inl (g.2.2 0, 10, .inl (fun _ => 0)) := Eq.trans (by rw [eF29, va_up_ne _ _ (by omega)]) k180_F28
  have k181_F29 : F29 (181) = .inl (g.2.2 0, 10, .inl (fun _ => 0)) := Eq.trans (by rw [eF29, va_up_ne _ _ (by omega)]) k181_F28
  have k182_F29 : F29 (182) = .inl (g.2.2 0, 10, .inl (fun _ => 0)) := Eq.trans (by rw [eF29, va_up_ne _ _ (by omega)]) k182_F28
  have k183_F29 : F29 (183) = .inl (g.2.2 0, 10, .inl (fun _ => 0)) := Eq.trans (by rw [eF29, va_up_ne _ _ (by omega)]) k183_F28
  have k184_F29 : F29 (184) = .inl (g.2.2 0, 10, .inl (fun _ => 0)) := Eq.trans (by rw [eF29, va_up_ne _ _ (by omega)]) k184_F28
  have k185_F29 : F29 (185) = .inl (g.2.2 0, 72, .inl (fun _ => 0)) := Eq.trans (by rw [eF29, va_up_ne _ _ (by omega)]) k185_F28
  have k186_F29 : F29 (186) = .inl (g.2.2 0, 60, .inl (fun _ => 0)) := Eq.trans (by rw [eF29, va_up_ne _ _ (by omega)]) k186_F28
  have k187_F29 : F29 (187) = .inl (g.2.2 0, 60, .inl (fun _ => 0)) := Eq.trans (by rw [eF29, va_up_ne _ _ (by omega)]) k187_F28
  have k188_F29 : F29 (188) = .inl (g.2.2 0, 60, .inl (fun _ => 0)) := Eq.trans (by rw [eF29, va_up_ne _ _ (by omega)]) k188_F28
  have k189_F29 : F29 (189) = .inl (g.2.2 0, 768, .inl (fun _ => 0)) := Eq.trans (by rw [eF29, va_up_ne _ _ (by omega)]) k189_F28
  have k175_F29 : F29 (175) = .inr (9, [.ref (ad (176)), .ref (ad (177)), .ref (ad (178)), .ref (ad (179)), .ref (ad (180)), .int 0, .int 0, .int 0, .ref (ad (181)), .ref (ad (182)), .ref (ad (183)), .ref (ad (184)), .int 0, .int 0, .int 0, .ref (ad (185)), .int 0, .int 0, .int 0, .ref (ad (186)), .ref (ad (187)), .ref (ad (188)), .int 0, .int 0, .int 0, .int 0, .ref (ad (189)), .null, .int 0, .int 0, .null, .null, .null, .null, .null]) := Eq.trans (by rw [eF29, va_up_ne _ _ (by omega)]) k175_F28
  have ho_F29 : ∀ j, j < 175 → F29 j = F j := fun j hj => Eq.trans (by rw [eF29, va_up_ne _ _ (by omega)]) (ho_F28 j hj)
  have k190_F29 : F29 (190) = .inl (g.2.2 0, 3, .inl (fun _ => 0)) := by rw [eF29]; exact va_up_self _ _ _
  refine r_cpf B (hini rfl) hC (i := 175) (by omega) k175_F29 tyX9 tyX9_ok nmX9 (T := TX9) (n := 35) rfl iwX9_init_X9 27 (by decide) (index := 52) flX9_init_52 rfl rfl (v := .ref (ad (190))) rfl rfl (Nat.le_of_ble_eq_true rfl) dX9_init_121 (fun H locs hC => ?_)
  obtain ⟨F30, eF30⟩ : ∃ f : Nat → va_E, f = va_up F29 (175) (.inr (9, [.ref (ad (176)), .ref (ad (177)), .ref (ad (178)), .ref (ad (179)), .ref (ad (180)), .int 0, .int 0, .int 0, .ref (ad (181)), .ref (ad (182)), .ref (ad (183)), .ref (ad (184)), .int 0, .int 0, .int 0, .ref (ad (185)), .int 0, .int 0, .int 0, .ref (ad (186)), .ref (ad (187)), .ref (ad (188)), .int 0, .int 0, .int 0, .int 0, .ref (ad (189)), .ref (ad (190)), .int 0, .int 0, .null, .null, .null, .null, .null])) := ⟨_, rfl⟩
  have hC : Cn g lo (191) ad F30 ss ss.heap H locs := by rw [eF30]; exact hC
  have k176_F30 : F30 (176) = .inl (g.2.2 0, 10, .inl (fun _ => 0)) := Eq.trans (by rw [eF30, va_up_ne _ _ (by omega)]) k176_F29
  have k177_F30 : F30 (177) = .inl (g.2.2 0, 10, .inl (fun _ => 0)) := Eq.trans (by rw [eF30, va_up_ne _ _ (by omega)]) k177_F29
  have k178_F30 : F30 (178) = .inl (g.2.2 0, 10, .inl (fun _ => 0)) := Eq.trans (by rw [eF30, va_up_ne _ _ (by omega)]) k178_F29
  have k179_F30 : F30 (179) = .inl (g.2.2 0, 10, .inl (fun _ => 0)) := Eq.trans (by rw [eF30, va_up_ne _ _ (by omega)]) k179_F29
  have k180_F30 : F30 (180) = .inl (g.2.2 0, 10, .inl (fun _ => 0)) := Eq.trans (by rw [eF30, va_up_ne _ _ (by omega)]) k180_F29
  have k181_F30 : F30 (181) = .inl (g.2.2 0, 10, .inl (fun _ => 0)) := Eq.trans (by rw [eF30, va_up_ne _ _ (by omega)]) k181_F29
  have k182_F30 : F30 (182) = .inl (g.2.2 0, 10, .inl (fun _ => 0)) := Eq.trans (by rw [eF30, va_up_ne _ _ (by omega)]) k182_F29
  have k183_F30 : F30 (183) = .inl (g.2.2 0, 10, .inl (fun _ => 0)) := Eq.trans (by rw [eF30, va_up_ne _ _ (by omega)]) k183_F29
  have k184_F30 : F30 (184) = .inl (g.2.2 0, 10, .inl (fun _ => 0)) := Eq.trans (by rw [eF30, va_up_ne _ _ (by omega)]) k184_F29
  have k185_F30 : F30 (185) = .inl (g.2.2 0, 72, .inl (fun _ => 0)) := Eq.trans (by rw [eF30, va_up_ne _ _ (by omega)]) k185_F29
  have k186_F30 : F30 (186) = .inl (g.2.2 0, 60, .inl (fun _ => 0)) := Eq.trans (by rw [eF30, va_up_ne _ _ (by omega)]) k186_F29
  have k187_F30 : F30 (187) = .inl (g.2.2 0, 60, .inl (fun _ => 0)) := Eq.trans (by rw [eF30, va_up_ne _ _ (by omega)]) k187_F29
  have k188_F30 : F30 (188) = .inl (g.2.2 0, 60, .inl (fun _ => 0)) := Eq.trans (by rw [eF30, va_up_ne _ _ (by omega)]) k188_F29
  have k189_F30 : F30 (189) = .inl (g.2.2 0, 768, .inl (fun _ => 0)) := Eq.trans (by rw [eF30, va_up_ne _ _ (by omega)]) k189_F29
  have k190_F30 : F30 (190) = .inl (g.2.2 0, 3, .inl (fun _ => 0)) := Eq.trans (by rw [eF30, va_up_ne _ _ (by omega)]) k190_F29
  have ho_F30 : ∀ j, j < 175 → F30 j = F j := fun j hj => Eq.trans (by rw [eF30, va_up_ne _ _ (by omega)]) (ho_F29 j hj)
  have k175_F30 : F30 (175) = .inr (9, [.ref (ad (176)), .ref (ad (177)), .ref (ad (178)), .ref (ad (179)), .ref (ad (180)), .int 0, .int 0, .int 0, .ref (ad (181)), .ref (ad (182)), .ref (ad (183)), .ref (ad (184)), .int 0, .int 0, .int 0, .ref (ad (185)), .int 0, .int 0, .int 0, .ref (ad (186)), .ref (ad (187)), .ref (ad (188)), .int 0, .int 0, .int 0, .int 0, .ref (ad (189)), .ref (ad (190)), .int 0, .int 0, .null, .null, .null, .null, .null]) := by rw [eF30]; exact va_up_self _ _ _
  refine lv_aload_n B.1 B.2.1 dX9_init_124 rfl (lv_at hl 0 rfl) ?_
  refine lv_bipush (v := nI 100) B.1 B.2.1 dX9_init_125 (by decide) ?_
  refine r_na (atype := .long) (ty := .long) B hAd hlo hC 2 rfl wkX9_init_90 rfl (n := 100) (a0 := (100, .inr (.inl (fun _ => 0)))) (fun _ => rfl) (by decide) (by decide) (show _ ≤ 20 from by omega) (show _ ≤ 1279 from by omega) dX9_init_127 (fun H hC => ?_)
  obtain ⟨F31, eF31⟩ : ∃ f : Nat → va_E, f = va_up F30 (191) (.inl (g.2.2 2, 100, .inr (.inl (fun _ => 0)))) := ⟨_, rfl⟩
  have hC : Cn g lo (192) ad F31 ss ss.heap H locs := by rw [eF31]; exact hC
  have k176_F31 : F31 (176) = .inl (g.2.2 0, 10, .inl (fun _ => 0)) := Eq.trans (by rw [eF31, va_up_ne _ _ (by omega)]) k176_F30
  have k177_F31 : F31 (177) = .inl (g.2.2 0, 10, .inl (fun _ => 0)) := Eq.trans (by rw [eF31, va_up_ne _ _ (by omega)]) k177_F30
  have k178_F31 : F31 (178) = .inl (g.2.2 0, 10, .inl (fun _ => 0)) := Eq.trans (by rw [eF31, va_up_ne _ _ (by omega)]) k178_F30
  have k179_F31 : F31 (179) = .inl (g.2.2 0, 10, .inl (fun _ => 0)) := Eq.trans (by rw [eF31, va_up_ne _ _ (by omega)]) k179_F30
  have k180_F31 : F31 (180) = .inl (g.2.2 0, 10, .inl (fun _ => 0)) := Eq.trans (by rw [eF31, va_up_ne _ _ (by omega)]) k180_F30
  have k181_F31 : F31 (181) = .inl (g.2.2 0, 10, .inl (fun _ => 0)) := Eq.trans (by rw [eF31, va_up_ne _ _ (by omega)]) k181_F30
  have k182_F31 : F31 (182) = .inl (g.2.2 0, 10, .inl (fun _ => 0)) := Eq.trans (by rw [eF31, va_up_ne _ _ (by omega)]) k182_F30
  have k183_F31 : F31 (183) = .inl (g.2.2 0, 10, .inl (fun _ => 0)) := Eq.trans (by rw [eF31, va_up_ne _ _ (by omega)]) k183_F30
  have k184_F31 : F31 (184) = .inl (g.2.2 0, 10, .inl (fun _ => 0)) := Eq.trans (by rw [eF31, va_up_ne _ _ (by omega)]) k184_F30
  have k185_F31 : F31 (185) = .inl (g.2.2 0, 72, .inl (fun _ => 0)) := Eq.trans (by rw [eF31, va_up_ne _ _ (by omega)]) k185_F30
  have k186_F31 : F31 (186) = .inl (g.2.2 0, 60, .inl (fun _ => 0)) := Eq.trans (by rw [eF31, va_up_ne _ _ (by omega)]) k186_F30
  have k187_F31 : F31 (187) = .inl (g.2.2 0, 60, .inl (fun _ => 0)) := Eq.trans (by rw [eF31, va_up_ne _ _ (by omega)]) k187_F30
  have k188_F31 : F31 (188) = .inl (g.2.2 0, 60, .inl (fun _ => 0)) := Eq.trans (by rw [eF31, va_up_ne _ _ (by omega)]) k188_F30
  have k189_F31 : F31 (189) = .inl (g.2.2 0, 768, .inl (fun _ => 0)) := Eq.trans (by rw [eF31, va_up_ne _ _ (by omega)]) k189_F30
  have k190_F31 : F31 (190) = .inl (g.2.2 0, 3, .inl (fun _ => 0)) := Eq.trans (by rw [eF31, va_up_ne _ _ (by omega)]) k190_F30
  have k175_F31 : F31 (175) = .inr (9, [.ref (ad (176)), .ref (ad (177)), .ref (ad (178)), .ref (ad (179)), .ref (ad (180)), .int 0, .int 0, .int 0, .ref (ad (181)), .ref (ad (182)), .ref (ad (183)), .ref (ad (184)), .int 0, .int 0, .int 0, .ref (ad (185)), .int 0, .int 0, .int 0, .ref (ad (186)), .ref (ad (187)), .ref (ad (188)), .int 0, .int 0, .int 0, .int 0, .ref (ad (189)), .ref (ad (190)), .int 0, .int 0, .null, .null, .null, .null, .null]) := Eq.trans (by rw [eF31, va_up_ne _ _ (by omega)]) k175_F30
  have ho_F31 : ∀ j, j < 175 → F31 j = F j := fun j hj => Eq.trans (by rw [eF31, va_up_ne _ _ (by omega)]) (ho_F30 j hj)
  have k191_F31 : F31 (191) = .inl (g.2.2 2, 100, .inr (.inl (fun _ => 0))) := by rw [eF31]; exact va_up_self _ _ _
  refine r_cpf B (hini rfl) hC (i := 175) (by omega) k175_F31 tyX9 tyX9_ok nmX9 (T := TX9) (n := 35) rfl iwX9_init_X9 30 (by decide) (index := 55) flX9_init_55 rfl rfl (v := .ref (ad (191))) rfl rfl (Nat.le_of_ble_eq_true rfl) dX9_init_129 (fun H locs hC => ?_)
  obtain ⟨F32, eF32⟩ : ∃ f : Nat → va_E, f = va_up F31 (175) (.inr (9, [.ref (ad (176)), .ref (ad (177)), .ref (ad (178)), .ref (ad (179)), .ref (ad (180)), .int 0, .int 0, .int 0, .ref (ad (181)), .ref (ad (182)), .ref (ad (183)), .ref (ad (184)), .int 0, .int 0, .int 0, .ref (ad (185)), .int 0, .int 0, .int 0, .ref (ad (186)), .ref (ad (187)), .ref (ad (188)), .int 0, .int 0, .int 0, .int 0, .ref (ad (189)), .ref (ad (190)), .int 0, .int 0, .ref (ad (191)), .null, .null, .null, .null])) := ⟨_, rfl⟩
  have hC : Cn g lo (192) ad F32 ss ss.heap H locs := by rw [eF32]; exact hC
  have k176_F32 : F32 (176) = .inl (g.2.2 0, 10, .inl (fun _ => 0)) := Eq.trans (by rw [eF32, va_up_ne _ _ (by omega)]) k176_F31
  have k177_F32 : F32 (177) = .inl (g.2.2 0, 10, .inl (fun _ => 0)) := Eq.trans (by rw [eF32, va_up_ne _ _ (by omega)]) k177_F31
  have k178_F32 : F32 (178) = .inl (g.2.2 0, 10, .inl (fun _ => 0)) := Eq.trans (by rw [eF32, va_up_ne _ _ (by omega)]) k178_F31
  have k179_F32 : F32 (179) = .inl (g.2.2 0, 10, .inl (fun _ => 0)) := Eq.trans (by rw [eF32, va_up_ne _ _ (by omega)]) k179_F31
  have k180_F32 : F32 (180) = .inl (g.2.2 0, 10, .inl (fun _ => 0)) := Eq.trans (by rw [eF32, va_up_ne _ _ (by omega)]) k180_F31
  have k181_F32 : F32 (181) = .inl (g.2.2 0, 10, .inl (fun _ => 0)) := Eq.trans (by rw [eF32, va_up_ne _ _ (by omega)]) k181_F31
  have k182_F32 : F32 (182) = .inl (g.2.2 0, 10, .inl (fun _ => 0)) := Eq.trans (by rw [eF32, va_up_ne _ _ (by omega)]) k182_F31
  have k183_F32 : F32 (183) = .inl (g.2.2 0, 10, .inl (fun _ => 0)) := Eq.trans (by rw [eF32, va_up_ne _ _ (by omega)]) k183_F31
  have k184_F32 : F32 (184) = .inl (g.2.2 0, 10, .inl (fun _ => 0)) := Eq.trans (by rw [eF32, va_up_ne _ _ (by omega)]) k184_F31
  have k185_F32 : F32 (185) = .inl (g.2.2 0, 72, .inl (fun _ => 0)) := Eq.trans (by rw [eF32, va_up_ne _ _ (by omega)]) k185_F31
  have k186_F32 : F32 (186) = .inl (g.2.2 0, 60, .inl (fun _ => 0)) := Eq.trans (by rw [eF32, va_up_ne _ _ (by omega)]) k186_F31
  have k187_F32 : F32 (187) = .inl (g.2.2 0, 60, .inl (fun _ => 0)) := Eq.trans (by rw [eF32, va_up_ne _ _ (by omega)]) k187_F31
  have k188_F32 : F32 (188) = .inl (g.2.2 0, 60, .inl (fun _ => 0)) := Eq.trans (by rw [eF32, va_up_ne _ _ (by omega)]) k188_F31
  have k189_F32 : F32 (189) = .inl (g.2.2 0, 768, .inl (fun _ => 0)) := Eq.trans (by rw [eF32, va_up_ne _ _ (by omega)]) k189_F31
  have k190_F32 : F32 (190) = .inl (g.2.2 0, 3, .inl (fun _ => 0)) := Eq.trans (by rw [eF32, va_up_ne _ _ (by omega)]) k190_F31
  have k191_F32 : F32 (191) = .inl (g.2.2 2, 100, .inr (.inl (fun _ => 0))) := Eq.trans (by rw [eF32, va_up_ne _ _ (by omega)]) k191_F31
  have ho_F32 : ∀ j, j < 175 → F32 j = F j := fun j hj => Eq.trans (by rw [eF32, va_up_ne _ _ (by omega)]) (ho_F31 j hj)
  have k175_F32 : F32 (175) = .inr (9, [.ref (ad (176)), .ref (ad (177)), .ref (ad (178)), .ref (ad (179)), .ref (ad (180)), .int 0, .int 0, .int 0, .ref (ad (181)), .ref (ad (182)), .ref (ad (183)), .ref (ad (184)), .int 0, .int 0, .int 0, .ref (ad (185)), .int 0, .int 0, .int 0, .ref (ad (186)), .ref (ad (187)), .ref (ad (188)), .int 0, .int 0, .int 0, .int 0, .ref (ad (189)), .ref (ad (190)), .int 0, .int 0, .ref (ad (191)), .null, .null, .null, .null]) := by rw [eF32]; exact va_up_self _ _ _
  refine lv_aload_n B.1 B.2.1 dX9_init_132 rfl (lv_at hl 0 rfl) ?_
  refine lv_iconst (v := nI 2) B.1 B.2.1 dX9_init_133 (by decide) ?_
  refine r_na (atype := .boolean) (ty := .boolean) B hAd hlo hC 3 rfl wkX9_init_91 rfl (n := 2) (a0 := (2, .inl (fun _ => 0))) (fun _ => rfl) (by decide) (by decide) (show _ ≤ 20 from by omega) (show _ ≤ 1279 from by omega) dX9_init_134 (fun H hC => ?_)
  obtain ⟨F33, eF33⟩ : ∃ f : Nat → va_E, f = va_up F32 (192) (.inl (g.2.2 3, 2, .inl (fun _ => 0))) := ⟨_, rfl⟩
  have hC : Cn g lo (193) ad F33 ss ss.heap H locs := by rw [eF33]; exact hC
  have k176_F33 : F33 (176) = .inl (g.2.2 0, 10, .inl (fun _ => 0)) := Eq.trans (by rw [eF33, va_up_ne _ _ (by omega)]) k176_F32
  have k177_F33 : F33 (177) = .inl (g.2.2 0, 10, .inl (fun _ => 0)) := Eq.trans (by rw [eF33, va_up_ne _ _ (by omega)]) k177_F32
  have k178_F33 : F33 (178) = .inl (g.2.2 0, 10, .inl (fun _ => 0)) := Eq.trans (by rw [eF33, va_up_ne _ _ (by omega)]) k178_F32
  have k179_F33 : F33 (179) = .inl (g.2.2 0, 10, .inl (fun _ => 0)) := Eq.trans (by rw [eF33, va_up_ne _ _ (by omega)]) k179_F32
  have k180_F33 : F33 (180) = .inl (g.2.2 0, 10, .inl (fun _ => 0)) := Eq.trans (by rw [eF33, va_up_ne _ _ (by omega)]) k180_F32
  have k181_F33 : F33 (181) = .inl (g.2.2 0, 10, .inl (fun _ => 0)) := Eq.trans (by rw [eF33, va_up_ne _ _ (by omega)]) k181_F32
  have k182_F33 : F33 (182) = .inl (g.2.2 0, 10, .inl (fun _ => 0)) := Eq.trans (by rw [eF33, va_up_ne _ _ (by omega)]) k182_F32
  have k183_F33 : F33 (183) = .inl (g.2.2 0, 10, .inl (fun _ => 0)) := Eq.trans (by rw [eF33, va_up_ne _ _ (by omega)]) k183_F32
  have k184_F33 : F33 (184) = .inl (g.2.2 0, 10, .inl (fun _ => 0)) := Eq.trans (by rw [eF33, va_up_ne _ _ (by omega)]) k184_F32
  have k185_F33 : F33 (185) = .inl (g.2.2 0, 72, .inl (fun _ => 0)) := Eq.trans (by rw [eF33, va_up_ne _ _ (by omega)]) k185_F32
  have k186_F33 : F33 (186) = .inl (g.2.2 0, 60, .inl (fun _ => 0)) := Eq.trans (by rw [eF33, va_up_ne _ _ (by omega)]) k186_F32
  have k187_F33 : F33 (187) = .inl (g.2.2 0, 60, .inl (fun _ => 0)) := Eq.trans (by rw [eF33, va_up_ne _ _ (by omega)]) k187_F32
  have k188_F33 : F33 (188) = .inl (g.2.2 0, 60, .inl (fun _ => 0)) := Eq.trans (by rw [eF33, va_up_ne _ _ (by omega)]) k188_F32
  have k189_F33 : F33 (189) = .inl (g.2.2 0, 768, .inl (fun _ => 0)) := Eq.trans (by rw [eF33, va_up_ne _ _ (by omega)]) k189_F32
  have k190_F33 : F33 (190) = .inl (g.2.2 0, 3, .inl (fun _ => 0)) := Eq.trans (by rw [eF33, va_up_ne _ _ (by omega)]) k190_F32
  have k191_F33 : F33 (191) = .inl (g.2.2 2, 100, .inr (.inl (fun _ => 0))) := Eq.trans (by rw [eF33, va_up_ne _ _ (by omega)]) k191_F32
  have k175_F33 : F33 (175) = .inr (9, [.ref (ad (176)), .ref (ad (177)), .ref (ad (178)), .ref (ad (179)), .ref (ad (180)), .int 0, .int 0, .int 0, .ref (ad (181)), .ref (ad (182)), .ref (ad (183)), .ref (ad (184)), .int 0, .int 0, .int 0, .ref (ad (185)), .int 0, .int 0, .int 0, .ref (ad (186)), .ref (ad (187)), .ref (ad (188)), .int 0, .int 0, .int 0, .int 0, .ref (ad (189)), .ref (ad (190)), .int 0, .int 0, .ref (ad (191)), .null, .null, .null, .null]) := Eq.trans (by rw [eF33, va_up_ne _ _ (by omega)]) k175_F32
  have ho_F33 : ∀ j, j < 175 → F33 j = F j := fun j hj => Eq.trans (by rw [eF33, va_up_ne _ _ (by omega)]) (ho_F32 j hj)
  have k192_F33 : F33 (192) = .inl (g.2.2 3, 2, .inl (fun _ => 0)) := by rw [eF33]; exact va_up_self _ _ _
  refine r_cpf B (hini rfl) hC (i := 175) (by omega) k175_F33 tyX9 tyX9_ok nmX9 (T := TX9) (n := 35) rfl iwX9_init_X9 31 (by decide) (index := 59) flX9_init_59 rfl rfl (v := .ref (ad (192))) rfl rfl (Nat.le_of_ble_eq_true rfl) dX9_init_136 (fun H locs hC => ?_)
  obtain ⟨F34, eF34⟩ : ∃ f : Nat → va_E, f = va_up F33 (175) (.inr (9, [.ref (ad (176)), .ref (ad (177)), .ref (ad (178)), .ref (ad (179)), .ref (ad (180)), .int 0, .int 0, .int 0, .ref (ad (181)), .ref (ad (182)), .ref (ad (183)), .ref (ad (184)), .int 0, .int 0, .int 0, .ref (ad (185)), .int 0, .int 0, .int 0, .ref (ad (186)), .ref (ad (187)), .ref (ad (188)), .int 0, .int 0, .int 0, .int 0, .ref (ad (189)), .ref (ad (190)), .int 0, .int 0, .ref (ad (191)), .ref (ad (192)), .null, .null, .null])) := ⟨_, rfl⟩
  have hC : Cn g lo (193) ad F34 ss ss.heap H locs := by rw [eF34]; exact hC
  have k176_F34 : F34 (176) = .inl (g.2.2 0, 10, .inl (fun _ => 0)) := Eq.trans (by rw [eF34, va_up_ne _ _ (by omega)]) k176_F33
  have k177_F34 : F34 (177) = .inl (g.2.2 0, 10, .inl (fun _ => 0)) := Eq.trans (by rw [eF34, va_up_ne _ _ (by omega)]) k177_F33
  have k178_F34 : F34 (178) = .inl (g.2.2 0, 10, .inl (fun _ => 0)) := Eq.trans (by rw [eF34, va_up_ne _ _ (by omega)]) k178_F33
  have k179_F34 : F34 (179) = .inl (g.2.2 0, 10, .inl (fun _ => 0)) := Eq.trans (by rw [eF34, va_up_ne _ _ (by omega)]) k179_F33
  have k180_F34 : F34 (180) = .inl (g.2.2 0, 10, .inl (fun _ => 0)) := Eq.trans (by rw [eF34, va_up_ne _ _ (by omega)]) k180_F33
  have k181_F34 : F34 (181) = .inl (g.2.2 0, 10, .inl (fun _ => 0)) := Eq.trans (by rw [eF34, va_up_ne _ _ (by omega)]) k181_F33
  have k182_F34 : F34 (182) = .inl (g.2.2 0, 10, .inl (fun _ => 0)) := Eq.trans (by rw [eF34, va_up_ne _ _ (by omega)]) k182_F33
  have k183_F34 : F34 (183) = .inl (g.2.2 0, 10, .inl (fun _ => 0)) := Eq.trans (by rw [eF34, va_up_ne _ _ (by omega)]) k183_F33
  have k184_F34 : F34 (184) = .inl (g.2.2 0, 10, .inl (fun _ => 0)) := Eq.trans (by rw [eF34, va_up_ne _ _ (by omega)]) k184_F33
  have k185_F34 : F34 (185) = .inl (g.2.2 0, 72, .inl (fun _ => 0)) := Eq.trans (by rw [eF34, va_up_ne _ _ (by omega)]) k185_F33
  have k186_F34 : F34 (186) = .inl (g.2.2 0, 60, .inl (fun _ => 0)) := Eq.trans (by rw [eF34, va_up_ne _ _ (by omega)]) k186_F33
  have k187_F34 : F34 (187) = .inl (g.2.2 0, 60, .inl (fun _ => 0)) := Eq.trans (by rw [eF34, va_up_ne _ _ (by omega)]) k187_F33
  have k188_F34 : F34 (188) = .inl (g.2.2 0, 60, .inl (fun _ => 0)) := Eq.trans (by rw [eF34, va_up_ne _ _ (by omega)]) k188_F33
  have k189_F34 : F34 (189) = .inl (g.2.2 0, 768, .inl (fun _ => 0)) := Eq.trans (by rw [eF34, va_up_ne _ _ (by omega)]) k189_F33
  have k190_F34 : F34 (190) = .inl (g.2.2 0, 3, .inl (fun _ => 0)) := Eq.trans (by rw [eF34, va_up_ne _ _ (by omega)]) k190_F33
  have k191_F34 : F34 (191) = .inl (g.2.2 2, 100, .inr (.inl (fun _ => 0))) := Eq.trans (by rw [eF34, va_up_ne _ _ (by omega)]) k191_F33
  have k192_F34 : F34 (192) = .inl (g.2.2 3, 2, .inl (fun _ => 0)) := Eq.trans (by rw [eF34, va_up_ne _ _ (by omega)]) k192_F33
  have ho_F34 : ∀ j, j < 175 → F34 j = F j := fun j hj => Eq.trans (by rw [eF34, va_up_ne _ _ (by omega)]) (ho_F33 j hj)
  have k175_F34 : F34 (175) = .inr (9, [.ref (ad (176)), .ref (ad (177)), .ref (ad (178)), .ref (ad (179)), .ref (ad (180)), .int 0, .int 0, .int 0, .ref (ad (181)), .ref (ad (182)), .ref (ad (183)), .ref (ad (184)), .int 0, .int 0, .int 0, .ref (ad (185)), .int 0, .int 0, .int 0, .ref (ad (186)), .ref (ad (187)), .ref (ad (188)), .int 0, .int 0, .int 0, .int 0, .ref (ad (189)), .ref (ad (190)), .int 0, .int 0, .ref (ad (191)), .ref (ad (192)), .null, .null, .null]) := by rw [eF34]; exact va_up_self _ _ _
  refine lv_aload_n B.1 B.2.1 dX9_init_139 rfl (lv_at hl 0 rfl) ?_
  refine lv_bipush (v := nI 60) B.1 B.2.1 dX9_init_140 (by decide) ?_
  refine r_na (atype := .int) (ty := .int) B hAd hlo hC 0 rfl wkX9_init_89 rfl (n := 60) (a0 := (60, .inl (fun _ => 0))) (fun _ => rfl) (by decide) (by decide) (show _ ≤ 20 from by omega) (show _ ≤ 1279 from by omega) dX9_init_142 (fun H hC => ?_)
  obtain ⟨F35, eF35⟩ : ∃ f : Nat → va_E, f = va_up F34 (193) (.inl (g.2.2 0, 60, .inl (fun _ => 0))) := ⟨_, rfl⟩
  have hC : Cn g lo (194) ad F35 ss ss.heap H locs := by rw [eF35]; exact hC
  have k176_F35 : F35 (176) = .inl (g.2.2 0, 10, .inl (fun _ => 0)) := Eq.trans (by rw [eF35, va_up_ne _ _ (by omega)]) k176_F34
  have k177_F35 : F35 (177) = .inl (g.2.2 0, 10, .inl (fun _ => 0)) := Eq.trans (by rw [eF35, va_up_ne _ _ (by omega)]) k177_F34
  have k178_F35 : F35 (178) = .inl (g.2.2 0, 10, .inl (fun _ => 0)) := Eq.trans (by rw [eF35, va_up_ne _ _ (by omega)]) k178_F34
  have k179_F35 : F35 (179) = .inl (g.2.2 0, 10, .inl (fun _ => 0)) := Eq.trans (by rw [eF35, va_up_ne _ _ (by omega)]) k179_F34
  have k180_F35 : F35 (180) = .inl (g.2.2 0, 10, .inl (fun _ => 0)) := Eq.trans (by rw [eF35, va_up_ne _ _ (by omega)]) k180_F34
  have k181_F35 : F35 (181) = .inl (g.2.2 0, 10, .inl (fun _ => 0)) := Eq.trans (by rw [eF35, va_up_ne _ _ (by omega)]) k181_F34
  have k182_F35 : F35 (182) = .inl (g.2.2 0, 10, .inl (fun _ => 0)) := Eq.trans (by rw [eF35, va_up_ne _ _ (by omega)]) k182_F34
  have k183_F35 : F35 (183) = .inl (g.2.2 0, 10, .inl (fun _ => 0)) := Eq.trans (by rw [eF35, va_up_ne _ _ (by omega)]) k183_F34
  have k184_F35 : F35 (184) = .inl (g.2.2 0, 10, .inl (fun _ => 0)) := Eq.trans (by rw [eF35, va_up_ne _ _ (by omega)]) k184_F34
  have k185_F35 : F35 (185) = .inl (g.2.2 0, 72, .inl (fun _ => 0)) := Eq.trans (by rw [eF35, va_up_ne _ _ (by omega)]) k185_F34
  have k186_F35 : F35 (186) = .inl (g.2.2 0, 60, .inl (fun _ => 0)) := Eq.trans (by rw [eF35, va_up_ne _ _ (by omega)]) k186_F34
  have k187_F35 : F35 (187) = .inl (g.2.2 0, 60, .inl (fun _ => 0)) := Eq.trans (by rw [eF35, va_up_ne _ _ (by omega)]) k187_F34
  have k188_F35 : F35 (188) = .inl (g.2.2 0, 60, .inl (fun _ => 0)) := Eq.trans (by rw [eF35, va_up_ne _ _ (by omega)]) k188_F34
  have k189_F35 : F35 (189) = .inl (g.2.2 0, 768, .inl (fun _ => 0)) := Eq.trans (by rw [eF35, va_up_ne _ _ (by omega)]) k189_F34
  have k190_F35 : F35 (190) = .inl (g.2.2 0, 3, .inl (fun _ => 0)) := Eq.trans (by rw [eF35, va_up_ne _ _ (by omega)]) k190_F34
  have k191_F35 : F35 (191) = .inl (g.2.2 2, 100, .inr (.inl (fun _ => 0))) := Eq.trans (by rw [eF35, va_up_ne _ _ (by omega)]) k191_F34
  have k192_F35 : F35 (192) = .inl (g.2.2 3, 2, .inl (fun _ => 0)) := Eq.trans (by rw [eF35, va_up_ne _ _ (by omega)]) k192_F34
  have k175_F35 : F35 (175) = .inr (9, [.ref (ad (176)), .ref (ad (177)), .ref (ad (178)), .ref (ad (179)), .ref (ad (180)), .int 0, .int 0, .int 0, .ref (ad (181)), .ref (ad (182)), .ref (ad (183)), .ref (ad (184)), .int 0, .int 0, .int 0, .ref (ad (185)), .int 0, .int 0, .int 0, .ref (ad (186)), .ref (ad (187)), .ref (ad (188)), .int 0, .int 0, .int 0, .int 0, .ref (ad (189)), .ref (ad (190)), .int 0, .int 0, .ref (ad (191)), .ref (ad (192)), .null, .null, .null]) := Eq.trans (by rw [eF35, va_up_ne _ _ (by omega)]) k175_F34
  have ho_F35 : ∀ j, j < 175 → F35 j = F j := fun j hj => Eq.trans (by rw [eF35, va_up_ne _ _ (by omega)]) (ho_F34 j hj)
  have k193_F35 : F35 (193) = .inl (g.2.2 0, 60, .inl (fun _ => 0)) := by rw [eF35]; exact va_up_self _ _ _
  refine r_cpf B (hini rfl) hC (i := 175) (by omega) k175_F35 tyX9 tyX9_ok nmX9 (T := TX9) (n := 35) rfl iwX9_init_X9 32 (by decide) (index := 63) flX9_init_63 rfl rfl (v := .ref (ad (193))) rfl rfl (Nat.le_of_ble_eq_true rfl) dX9_init_144 (fun H locs hC => ?_)
  obtain ⟨F36, eF36⟩ : ∃ f : Nat → va_E, f = va_up F35 (175) (.inr (9, [.ref (ad (176)), .ref (ad (177)), .ref (ad (178)), .ref (ad (179)), .ref (ad (180)), .int 0, .int 0, .int 0, .ref (ad (181)), .ref (ad (182)), .ref (ad (183)), .ref (ad (184)), .int 0, .int 0, .int 0, .ref (ad (185)), .int 0, .int 0, .int 0, .ref (ad (186)), .ref (ad (187)), .ref (ad (188)), .int 0, .int 0, .int 0, .int 0, .ref (ad (189)), .ref (ad (190)), .int 0, .int 0, .ref (ad (191)), .ref (ad (192)), .ref (ad (193)), .null, .null])) := ⟨_, rfl⟩
  have hC : Cn g lo (194) ad F36 ss ss.heap H locs := by rw [eF36]; exact hC
  have k176_F36 : F36 (176) = .inl (g.2.2 0, 10, .inl (fun _ => 0)) := Eq.trans (by rw [eF36, va_up_ne _ _ (by omega)]) k176_F35
  have k177_F36 : F36 (177) = .inl (g.2.2 0, 10, .inl (fun _ => 0)) := Eq.trans (by rw [eF36, va_up_ne _ _ (by omega)]) k177_F35
  have k178_F36 : F36 (178) = .inl (g.2.2 0, 10, .inl (fun _ => 0)) := Eq.trans (by rw [eF36, va_up_ne _ _ (by omega)]) k178_F35
  have k179_F36 : F36 (179) = .inl (g.2.2 0, 10, .inl (fun _ => 0)) := Eq.trans (by rw [eF36, va_up_ne _ _ (by omega)]) k179_F35
  have k180_F36 : F36 (180) = .inl (g.2.2 0, 10, .inl (fun _ => 0)) := Eq.trans (by rw [eF36, va_up_ne _ _ (by omega)]) k180_F35
  have k181_F36 : F36 (181) = .inl (g.2.2 0, 10, .inl (fun _ => 0)) := Eq.trans (by rw [eF36, va_up_ne _ _ (by omega)]) k181_F35
  have k182_F36 : F36 (182) = .inl (g.2.2 0, 10, .inl (fun _ => 0)) := Eq.trans (by rw [eF36, va_up_ne _ _ (by omega)]) k182_F35
  have k183_F36 : F36 (183) = .inl (g.2.2 0, 10, .inl (fun _ => 0)) := Eq.trans (by rw [eF36, va_up_ne _ _ (by omega)]) k183_F35
  have k184_F36 : F36 (184) = .inl (g.2.2 0, 10, .inl (fun _ => 0)) := Eq.trans (by rw [eF36, va_up_ne _ _ (by omega)]) k184_F35
  have k185_F36 : F36 (185) = .inl (g.2.2 0, 72, .inl (fun _ => 0)) := Eq.trans (by rw [eF36, va_up_ne _ _ (by omega)]) k185_F35
  have k186_F36 : F36 (186) = .inl (g.2.2 0, 60, .inl (fun _ => 0)) := Eq.trans (by rw [eF36, va_up_ne _ _ (by omega)]) k186_F35
  have k187_F36 : F36 (187) = .inl (g.2.2 0, 60, .inl (fun _ => 0)) := Eq.trans (by rw [eF36, va_up_ne _ _ (by omega)]) k187_F35
  have k188_F36 : F36 (188) = .inl (g.2.2 0, 60, .inl (fun _ => 0)) := Eq.trans (by rw [eF36, va_up_ne _ _ (by omega)]) k188_F35
  have k189_F36 : F36 (189) = .inl (g.2.2 0, 768, .inl (fun _ => 0)) := Eq.trans (by rw [eF36, va_up_ne _ _ (by omega)]) k189_F35
  have k190_F36 : F36 (190) = .inl (g.2.2 0, 3, .inl (fun _ => 0)) := Eq.trans (by rw [eF36, va_up_ne _ _ (by omega)]) k190_F35
  have k191_F36 : F36 (191) = .inl (g.2.2 2, 100, .inr (.inl (fun _ => 0))) := Eq.trans (by rw [eF36, va_up_ne _ _ (by omega)]) k191_F35
  have k192_F36 : F36 (192) = .inl (g.2.2 3, 2, .inl (fun _ => 0)) := Eq.trans (by rw [eF36, va_up_ne _ _ (by omega)]) k192_F35
  have k193_F36 : F36 (193) = .inl (g.2.2 0, 60, .inl (fun _ => 0)) := Eq.trans (by rw [eF36, va_up_ne _ _ (by omega)]) k193_F35
  have ho_F36 : ∀ j, j < 175 → F36 j = F j := fun j hj => Eq.trans (by rw [eF36, va_up_ne _ _ (by omega)]) (ho_F35 j hj)
  have k175_F36 : F36 (175) = .inr (9, [.ref (ad (176)), .ref (ad (177)), .ref (ad (178)), .ref (ad (179)), .ref (ad (180)), .int 0, .int 0, .int 0, .ref (ad (181)), .ref (ad (182)), .ref (ad (183)), .ref (ad (184)), .int 0, .int 0, .int 0, .ref (ad (185)), .int 0, .int 0, .int 0, .ref (ad (186)), .ref (ad (187)), .ref (ad (188)), .int 0, .int 0, .int 0, .int 0, .ref (ad (189)), .ref (ad (190)), .int 0, .int 0, .ref (ad (191)), .ref (ad (192)), .ref (ad (193)), .null, .null]) := by rw [eF36]; exact va_up_self _ _ _
  refine lv_aload_n B.1 B.2.1 dX9_init_147 rfl (lv_at hl 0 rfl) ?_
  refine lv_iconst (v := nI 2) B.1 B.2.1 dX9_init_148 (by decide) ?_
  refine r_na (atype := .int) (ty := .int) B hAd hlo hC 0 rfl wkX9_init_89 rfl (n := 2) (a0 := (2, .inl (fun _ => 0))) (fun _ => rfl) (by decide) (by decide) (show _ ≤ 20 from by omega) (show _ ≤ 1279 from by omega) dX9_init_149 (fun H hC => ?_)
  obtain ⟨F37, eF37⟩ : ∃ f : Nat → va_E, f = va_up F36 (194) (.inl (g.2.2 0, 2, .inl (fun _ => 0))) := ⟨_, rfl⟩
  have hC : Cn g lo (195) ad F37 ss ss.heap H locs := by rw [eF37]; exact hC
  have k176_F37 : F37 (176) = .inl (g.2.2 0, 10, .inl (fun _ => 0)) := Eq.trans (by rw [eF37, va_up_ne _ _ (by omega)]) k176_F36
  have k177_F37 : F37 (177) = .inl (g.2.2 0, 10, .inl (fun _ => 0)) := Eq.trans (by rw [eF37, va_up_ne _ _ (by omega)]) k177_F36
  have k178_F37 : F37 (178) = .inl (g.2.2 0, 10, .inl (fun _ => 0)) := Eq.trans (by rw [eF37, va_up_ne _ _ (by omega)]) k178_F36
  have k179_F37 : F37 (179) = .inl (g.2.2 0, 10, .inl (fun _ => 0)) := Eq.trans (by rw [eF37, va_up_ne _ _ (by omega)]) k179_F36
  have k180_F37 : F37 (180) = .inl (g.2.2 0, 10, .inl (fun _ => 0)) := Eq.trans (by rw [eF37, va_up_ne _ _ (by omega)]) k180_F36
  have k181_F37 : F37 (181) = .inl (g.2.2 0, 10, .inl (fun _ => 0)) := Eq.trans (by rw [eF37, va_up_ne _ _ (by omega)]) k181_F36
  have k182_F37 : F37 (182) = .inl (g.2.2 0, 10, .inl (fun _ => 0)) := Eq.trans (by rw [eF37, va_up_ne _ _ (by omega)]) k182_F36
  have k183_F37 : F37 (183) = .inl (g.2.2 0, 10, .inl (fun _ => 0)) := Eq.trans (by rw [eF37, va_up_ne _ _ (by omega)]) k183_F36
  have k184_F37 : F37 (184) = .inl (g.2.2 0, 10, .inl (fun _ => 0)) := Eq.trans (by rw [eF37, va_up_ne _ _ (by omega)]) k184_F36
  have k185_F37 : F37 (185) = .inl (g.2.2 0, 72, .inl (fun _ => 0)) := Eq.trans (by rw [eF37, va_up_ne _ _ (by omega)]) k185_F36
  have k186_F37 : F37 (186) = .inl (g.2.2 0, 60, .inl (fun _ => 0)) := Eq.trans (by rw [eF37, va_up_ne _ _ (by omega)]) k186_F36
  have k187_F37 : F37 (187) = .inl (g.2.2 0, 60, .inl (fun _ => 0)) := Eq.trans (by rw [eF37, va_up_ne _ _ (by omega)]) k187_F36
  have k188_F37 : F37 (188) = .inl (g.2.2 0, 60, .inl (fun _ => 0)) := Eq.trans (by rw [eF37, va_up_ne _ _ (by omega)]) k188_F36
  have k189_F37 : F37 (189) = .inl (g.2.2 0, 768, .inl (fun _ => 0)) := Eq.trans (by rw [eF37, va_up_ne _ _ (by omega)]) k189_F36
  have k190_F37 : F37 (190) = .inl (g.2.2 0, 3, .inl (fun _ => 0)) := Eq.trans (by rw [eF37, va_up_ne _ _ (by omega)]) k190_F36
  have k191_F37 : F37 (191) = .inl (g.2.2 2, 100, .inr (.inl (fun _ => 0))) := Eq.trans (by rw [eF37, va_up_ne _ _ (by omega)]) k191_F36
  have k192_F37 : F37 (192) = .inl (g.2.2 3, 2, .inl (fun _ => 0)) := Eq.trans (by rw [eF37, va_up_ne _ _ (by omega)]) k192_F36
  have k193_F37 : F37 (193) = .inl (g.2.2 0, 60, .inl (fun _ => 0)) := Eq.trans (by rw [eF37, va_up_ne _ _ (by omega)]) k193_F36
  have k175_F37 : F37 (175) = .inr (9, [.ref (ad (176)), .ref (ad (177)), .ref (ad (178)), .ref (ad (179)), .ref (ad (180)), .int 0, .int 0, .int 0, .ref (ad (181)), .ref (ad (182)), .ref (ad (183)), .ref (ad (184)), .int 0, .int 0, .int 0, .ref (ad (185)), .int 0, .int 0, .int 0, .ref (ad (186)), .ref (ad (187)), .ref (ad (188)), .int 0, .int 0, .int 0, .int 0, .ref (ad (189)), .ref (ad (190)), .int 0, .int 0, .ref (ad (191)), .ref (ad (192)), .ref (ad (193)), .null, .null]) := Eq.trans (by rw [eF37, va_up_ne _ _ (by omega)]) k175_F36
  have ho_F37 : ∀ j, j < 175 → F37 j = F j := fun j hj => Eq.trans (by rw [eF37, va_up_ne _ _ (by omega)]) (ho_F36 j hj)
  have k194_F37 : F37 (194) = .inl (g.2.2 0, 2, .inl (fun _ => 0)) := by rw [eF37]; exact va_up_self _ _ _
  refine r_cpf B (hini rfl) hC (i := 175) (by omega) k175_F37 tyX9 tyX9_ok nmX9 (T := TX9) (n := 35) rfl iwX9_init_X9 33 (by decide) (index := 66) flX9_init_66 rfl rfl (v := .ref (ad (194))) rfl rfl (Nat.le_of_ble_eq_true rfl) dX9_init_151 (fun H locs hC => ?_)
  obtain ⟨F38, eF38⟩ : ∃ f : Nat → va_E, f = va_up F37 (175) (.inr (9, [.ref (ad (176)), .ref (ad (177)), .ref (ad (178)), .ref (ad (179)), .ref (ad (180)), .int 0, .int 0, .int 0, .ref (ad (181)), .ref (ad (182)), .ref (ad (183)), .ref (ad (184)), .int 0, .int 0, .int 0, .ref (ad (185)), .int 0, .int 0, .int 0, .ref (ad (186)), .ref (ad (187)), .ref (ad (188)), .int 0, .int 0, .int 0, .int 0, .ref (ad (189)), .ref (ad (190)), .int 0, .int 0, .ref (ad (191)), .ref (ad (192)), .ref (ad (193)), .ref (ad (194)), .null])) := ⟨_, rfl⟩
  have hC : Cn g lo (195) ad F38 ss ss.heap H locs := by rw [eF38]; exact hC
  have k176_F38 : F38 (176) = .inl (g.2.2 0, 10, .inl (fun _ => 0)) := Eq.trans (by rw [eF38, va_up_ne _ _ (by omega)]) k176_F37
  have k177_F38 : F38 (177) = .inl (g.2.2 0, 10, .inl (fun _ => 0)) := Eq.trans (by rw [eF38, va_up_ne _ _ (by omega)]) k177_F37
  have k178_F38 : F38 (178) = .inl (g.2.2 0, 10, .inl (fun _ => 0)) := Eq.trans (by rw [eF38, va_up_ne _ _ (by omega)]) k178_F37
  have k179_F38 : F38 (179) = .inl (g.2.2 0, 10, .inl (fun _ => 0)) := Eq.trans (by rw [eF38, va_up_ne _ _ (by omega)]) k179_F37
  have k180_F38 : F38 (180) = .inl (g.2.2 0, 10, .inl (fun _ => 0)) := Eq.trans (by rw [eF38, va_up_ne _ _ (by omega)]) k180_F37
  have k181_F38 : F38 (181) = .inl (g.2.2 0, 10, .inl (fun _ => 0)) := Eq.trans (by rw [eF38, va_up_ne _ _ (by omega)]) k181_F37
  have k182_F38 : F38 (182) = .inl (g.2.2 0, 10, .inl (fun _ => 0)) := Eq.trans (by rw [eF38, va_up_ne _ _ (by omega)]) k182_F37
  have k183_F38 : F38 (183) = .inl (g.2.2 0, 10, .inl (fun _ => 0)) := Eq.trans (by rw [eF38, va_up_ne _ _ (by omega)]) k183_F37
  have k184_F38 : F38 (184) = .inl (g.2.2 0, 10, .inl (fun _ => 0)) := Eq.trans (by rw [eF38, va_up_ne _ _ (by omega)]) k184_F37
  have k185_F38 : F38 (185) = .inl (g.2.2 0, 72, .inl (fun _ => 0)) := Eq.trans (by rw [eF38, va_up_ne _ _ (by omega)]) k185_F37
  have k186_F38 : F38 (186) = .inl (g.2.2 0, 60, .inl (fun _ => 0)) := Eq.trans (by rw [eF38, va_up_ne _ _ (by omega)]) k186_F37
  have k187_F38 : F38 (187) = .inl (g.2.2 0, 60, .inl (fun _ => 0)) := Eq.trans (by rw [eF38, va_up_ne _ _ (by omega)]) k187_F37
  have k188_F38 : F38 (188) = .inl (g.2.2 0, 60, .inl (fun _ => 0)) := Eq.trans (by rw [eF38, va_up_ne _ _ (by omega)]) k188_F37
  have k189_F38 : F38 (189) = .inl (g.2.2 0, 768, .inl (fun _ => 0)) := Eq.trans (by rw [eF38, va_up_ne _ _ (by omega)]) k189_F37
  have k190_F38 : F38 (190) = .inl (g.2.2 0, 3, .inl (fun _ => 0)) := Eq.trans (by rw [eF38, va_up_ne _ _ (by omega)]) k190_F37
  have k191_F38 : F38 (191) = .inl (g.2.2 2, 100, .inr (.inl (fun _ => 0))) := Eq.trans (by rw [eF38, va_up_ne _ _ (by omega)]) k191_F37
  have k192_F38 : F38 (192) = .inl (g.2.2 3, 2, .inl (fun _ => 0)) := Eq.trans (by rw [eF38, va_up_ne _ _ (by omega)]) k192_F37
  have k193_F38 : F38 (193) = .inl (g.2.2 0, 60, .inl (fun _ => 0)) := Eq.trans (by rw [eF38, va_up_ne _ _ (by omega)]) k193_F37
  have k194_F38 : F38 (194) = .inl (g.2.2 0, 2, .inl (fun _ => 0)) := Eq.trans (by rw [eF38, va_up_ne _ _ (by omega)]) k194_F37
  have ho_F38 : ∀ j, j < 175 → F38 j = F j := fun j hj => Eq.trans (by rw [eF38, va_up_ne _ _ (by omega)]) (ho_F37 j hj)
  have k175_F38 : F38 (175) = .inr (9, [.ref (ad (176)), .ref (ad (177)), .ref (ad (178)), .ref (ad (179)), .ref (ad (180)), .int 0, .int 0, .int 0, .ref (ad (181)), .ref (ad (182)), .ref (ad (183)), .ref (ad (184)), .int 0, .int 0, .int 0, .ref (ad (185)), .int 0, .int 0, .int 0, .ref (ad (186)), .ref (ad (187)), .ref (ad (188)), .int 0, .int 0, .int 0, .int 0, .ref (ad (189)), .ref (ad (190)), .int 0, .int 0, .ref (ad (191)), .ref (ad (192)), .ref (ad (193)), .ref (ad (194)), .null]) := by rw [eF38]; exact va_up_self _ _ _
  refine lv_aload_n B.1 B.2.1 dX9_init_154 rfl (lv_at hl 0 rfl) ?_
  refine lv_iconst (v := nI 2) B.1 B.2.1 dX9_init_155 (by decide) ?_
  refine r_na (atype := .boolean) (ty := .boolean) B hAd hlo hC 3 rfl wkX9_init_91 rfl (n := 2) (a0 := (2, .inl (fun _ => 0))) (fun _ => rfl) (by decide) (by decide) (show _ ≤ 20 from by omega) (show _ ≤ 1279 from by omega) dX9_init_156 (fun H hC => ?_)
  obtain ⟨F39, eF39⟩ : ∃ f : Nat → va_E, f = va_up F38 (195) (.inl (g.2.2 3, 2, .inl (fun _ => 0))) := ⟨_, rfl⟩
  have hC : Cn g lo (196) ad F39 ss ss.heap H locs := by rw [eF39]; exact hC
  have k176_F39 : F39 (176) = .inl (g.2.2 0, 10, .inl (fun _ => 0)) := Eq.trans (by rw [eF39, va_up_ne _ _ (by omega)]) k176_F38
  have k177_F39 : F39 (177) = .inl (g.2.2 0, 10, .inl (fun _ => 0)) := Eq.trans (by rw [eF39, va_up_ne _ _ (by omega)]) k177_F38
  have k178_F39 : F39 (178) = .inl (g.2.2 0, 10, .inl (fun _ => 0)) := Eq.trans (by rw [eF39, va_up_ne _ _ (by omega)]) k178_F38
  have k179_F39 : F39 (179) = .inl (g.2.2 0, 10, .inl (fun _ => 0)) := Eq.trans (by rw [eF39, va_up_ne _ _ (by omega)]) k179_F38
  have k180_F39 : F39 (180) = .inl (g.2.2 0, 10, .inl (fun _ => 0)) := Eq.trans (by rw [eF39, va_up_ne _ _ (by omega)]) k180_F38
  have k181_F39 : F39 (181) = .inl (g.2.2 0, 10, .inl (fun _ => 0)) := Eq.trans (by rw [eF39, va_up_ne _ _ (by omega)]) k181_F38
  have k182_F39 : F39 (182) = .inl (g.2.2 0, 10, .inl (fun _ => 0)) := Eq.trans (by rw [eF39, va_up_ne _ _ (by omega)]) k182_F38
  have k183_F39 : F39 (183) = .inl (g.2.2 0, 10, .inl (fun _ => 0)) := Eq.trans (by rw [eF39, va_up_ne _ _ (by omega)]) k183_F38
  have k184_F39 : F39 (184) = .inl (g.2.2 0, 10, .inl (fun _ => 0)) := Eq.trans (by rw [eF39, va_up_ne _ _ (by omega)]) k184_F38
  have k185_F39 : F39 (185) = .inl (g.2.2 0, 72, .inl (fun _ => 0)) := Eq.trans (by rw [eF39, va_up_ne _ _ (by omega)]) k185_F38
  have k186_F39 : F39 (186) = .inl (g.2.2 0, 60, .inl (fun _ => 0)) := Eq.trans (by rw [eF39, va_up_ne _ _ (by omega)]) k186_F38
  have k187_F39 : F39 (187) = .inl (g.2.2 0, 60, .inl (fun _ => 0)) := Eq.trans (by rw [eF39, va_up_ne _ _ (by omega)]) k187_F38
  have k188_F39 : F39 (188) = .inl (g.2.2 0, 60, .inl (fun _ => 0)) := Eq.trans (by rw [eF39, va_up_ne _ _ (by omega)]) k188_F38
  have k189_F39 : F39 (189) = .inl (g.2.2 0, 768, .inl (fun _ => 0)) := Eq.trans (by rw [eF39, va_up_ne _ _ (by omega)]) k189_F38
  have k190_F39 : F39 (190) = .inl (g.2.2 0, 3, .inl (fun _ => 0)) := Eq.trans (by rw [eF39, va_up_ne _ _ (by omega)]) k190_F38
  have k191_F39 : F39 (191) = .inl (g.2.2 2, 100, .inr (.inl (fun _ => 0))) := Eq.trans (by rw [eF39, va_up_ne _ _ (by omega)]) k191_F38
  have k192_F39 : F39 (192) = .inl (g.2.2 3, 2, .inl (fun _ => 0)) := Eq.trans (by rw [eF39, va_up_ne _ _ (by omega)]) k192_F38
  have k193_F39 : F39 (193) = .inl (g.2.2 0, 60, .inl (fun _ => 0)) := Eq.trans (by rw [eF39, va_up_ne _ _ (by omega)]) k193_F38
  have k194_F39 : F39 (194) = .inl (g.2.2 0, 2, .inl (fun _ => 0)) := Eq.trans (by rw [eF39, va_up_ne _ _ (by omega)]) k194_F38
  have k175_F39 : F39 (175) = .inr (9, [.ref (ad (176)), .ref (ad (177)), .ref (ad (178)), .ref (ad (179)), .ref (ad (180)), .int 0, .int 0, .int 0, .ref (ad (181)), .ref (ad (182)), .ref (ad (183)), .ref (ad (184)), .int 0, .int 0, .int 0, .ref (ad (185)), .int 0, .int 0, .int 0, .ref (ad (186)), .ref (ad (187)), .ref (ad (188)), .int 0, .int 0, .int 0, .int 0, .ref (ad (189)), .ref (ad (190)), .int 0, .int 0, .ref (ad (191)), .ref (ad (192)), .ref (ad (193)), .ref (ad (194)), .null]) := Eq.trans (by rw [eF39, va_up_ne _ _ (by omega)]) k175_F38
  have ho_F39 : ∀ j, j < 175 → F39 j = F j := fun j hj => Eq.trans (by rw [eF39, va_up_ne _ _ (by omega)]) (ho_F38 j hj)
  have k195_F39 : F39 (195) = .inl (g.2.2 3, 2, .inl (fun _ => 0)) := by rw [eF39]; exact va_up_self _ _ _
  refine r_cpf B (hini rfl) hC (i := 175) (by omega) k175_F39 tyX9 tyX9_ok nmX9 (T := TX9) (n := 35) rfl iwX9_init_X9 34 (by decide) (index := 69) flX9_init_69 rfl rfl (v := .ref (ad (195))) rfl rfl (Nat.le_of_ble_eq_true rfl) dX9_init_158 (fun H locs hC => ?_)
  obtain ⟨F40, eF40⟩ : ∃ f : Nat → va_E, f = va_up F39 (175) (.inr (9, [.ref (ad (176)), .ref (ad (177)), .ref (ad (178)), .ref (ad (179)), .ref (ad (180)), .int 0, .int 0, .int 0, .ref (ad (181)), .ref (ad (182)), .ref (ad (183)), .ref (ad (184)), .int 0, .int 0, .int 0, .ref (ad (185)), .int 0, .int 0, .int 0, .ref (ad (186)), .ref (ad (187)), .ref (ad (188)), .int 0, .int 0, .int 0, .int 0, .ref (ad (189)), .ref (ad (190)), .int 0, .int 0, .ref (ad (191)), .ref (ad (192)), .ref (ad (193)), .ref (ad (194)), .ref (ad (195))])) := ⟨_, rfl⟩
  have hC : Cn g lo (196) ad F40 ss ss.heap H locs := by rw [eF40]; exact hC
  have k176_F40 : F40 (176) = .inl (g.2.2 0, 10, .inl (fun _ => 0)) := Eq.trans (by rw [eF40, va_up_ne _ _ (by omega)]) k176_F39
  have k177_F40 : F40 (177) = .inl (g.2.2 0, 10, .inl (fun _ => 0)) := Eq.trans (by rw [eF40, va_up_ne _ _ (by omega)]) k177_F39
  have k178_F40 : F40 (178) = .inl (g.2.2 0, 10, .inl (fun _ => 0)) := Eq.trans (by rw [eF40, va_up_ne _ _ (by omega)]) k178_F39
  have k179_F40 : F40 (179) = .inl (g.2.2 0, 10, .inl (fun _ => 0)) := Eq.trans (by rw [eF40, va_up_ne _ _ (by omega)]) k179_F39
  have k180_F40 : F40 (180) = .inl (g.2.2 0, 10, .inl (fun _ => 0)) := Eq.trans (by rw [eF40, va_up_ne _ _ (by omega)]) k180_F39
  have k181_F40 : F40 (181) = .inl (g.2.2 0, 10, .inl (fun _ => 0)) := Eq.trans (by rw [eF40, va_up_ne _ _ (by omega)]) k181_F39
  have k182_F40 : F40 (182) = .inl (g.2.2 0, 10, .inl (fun _ => 0)) := Eq.trans (by rw [eF40, va_up_ne _ _ (by omega)]) k182_F39
  have k183_F40 : F40 (183) = .inl (g.2.2 0, 10, .inl (fun _ => 0)) := Eq.trans (by rw [eF40, va_up_ne _ _ (by omega)]) k183_F39
  have k184_F40 : F40 (184) = .inl (g.2.2 0, 10, .inl (fun _ => 0)) := Eq.trans (by rw [eF40, va_up_ne _ _ (by omega)]) k184_F39
  have k185_F40 : F40 (185) = .inl (g.2.2 0, 72, .inl (fun _ => 0)) := Eq.trans (by rw [eF40, va_up_ne _ _ (by omega)]) k185_F39
  have k186_F40 : F40 (186) = .inl (g.2.2 0, 60, .inl (fun _ => 0)) := Eq.trans (by rw [eF40, va_up_ne _ _ (by omega)]) k186_F39
  have k187_F40 : F40 (187) = .inl (g.2.2 0, 60, .inl (fun _ => 0)) := Eq.trans (by rw [eF40, va_up_ne _ _ (by omega)]) k187_F39
  have k188_F40 : F40 (188) = .inl (g.2.2 0, 60, .inl (fun _ => 0)) := Eq.trans (by rw [eF40, va_up_ne _ _ (by omega)]) k188_F39
  have k189_F40 : F40 (189) = .inl (g.2.2 0, 768, .inl (fun _ => 0)) := Eq.trans (by rw [eF40, va_up_ne _ _ (by omega)]) k189_F39
  have k190_F40 : F40 (190) = .inl (g.2.2 0, 3, .inl (fun _ => 0)) := Eq.trans (by rw [eF40, va_up_ne _ _ (by omega)]) k190_F39
  have k191_F40 : F40 (191) = .inl (g.2.2 2, 100, .inr (.inl (fun _ => 0))) := Eq.trans (by rw [eF40, va_up_ne _ _ (by omega)]) k191_F39
  have k192_F40 : F40 (192) = .inl (g.2.2 3, 2, .inl (fun _ => 0)) := Eq.trans (by rw [eF40, va_up_ne _ _ (by omega)]) k192_F39
  have k193_F40 : F40 (193) = .inl (g.2.2 0, 60, .inl (fun _ => 0)) := Eq.trans (by rw [eF40, va_up_ne _ _ (by omega)]) k193_F39
  have k194_F40 : F40 (194) = .inl (g.2.2 0, 2, .inl (fun _ => 0)) := Eq.trans (by rw [eF40, va_up_ne _ _ (by omega)]) k194_F39
  have k195_F40 : F40 (195) = .inl (g.2.2 3, 2, .inl (fun _ => 0)) := Eq.trans (by rw [eF40, va_up_ne _ _ (by omega)]) k195_F39
  have ho_F40 : ∀ j, j < 175 → F40 j = F j := fun j hj => Eq.trans (by rw [eF40, va_up_ne _ _ (by omega)]) (ho_F39 j hj)
  have k175_F40 : F40 (175) = .inr (9, [.ref (ad (176)), .ref (ad (177)), .ref (ad (178)), .ref (ad (179)), .ref (ad (180)), .int 0, .int 0, .int 0, .ref (ad (181)), .ref (ad (182)), .ref (ad (183)), .ref (ad (184)), .int 0, .int 0, .int 0, .ref (ad (185)), .int 0, .int 0, .int 0, .ref (ad (186)), .ref (ad (187)), .ref (ad (188)), .int 0, .int 0, .int 0, .int 0, .ref (ad (189)), .ref (ad (190)), .int 0, .int 0, .ref (ad (191)), .ref (ad (192)), .ref (ad (193)), .ref (ad (194)), .ref (ad (195))]) := by rw [eF40]; exact va_up_self _ _ _
  refine lv_aload_n B.1 B.2.1 dX9_init_161 rfl (lv_at hl 0 rfl) ?_
  refine lv_iconst (v := nI 1) B.1 B.2.1 dX9_init_162 (by decide) ?_
  refine r_cpn B hC (i := 175) (by omega) k175_F40 tyX9 tyX9_ok nmX9 (C := RX9) (T := TX9) (n := 35) rfl iwX9_init_X9 14 (by decide) (index := 72) flX9_init_72 rfl rfl (v := .int (nI 1)) rfl rfl (Nat.le_of_ble_eq_true rfl) dX9_init_163 (fun H locs hC => ?_)
  obtain ⟨F41, eF41⟩ : ∃ f : Nat → va_E, f = va_up F40 (175) (.inr (9, [.ref (ad (176)), .ref (ad (177)), .ref (ad (178)), .ref (ad (179)), .ref (ad (180)), .int 0, .int 0, .int 0, .ref (ad (181)), .ref (ad (182)), .ref (ad (183)), .ref (ad (184)), .int 0, .int 0, .int (nI 1), .ref (ad (185)), .int 0, .int 0, .int 0, .ref (ad (186)), .ref (ad (187)), .ref (ad (188)), .int 0, .int 0, .int 0, .int 0, .ref (ad (189)), .ref (ad (190)), .int 0, .int 0, .ref (ad (191)), .ref (ad (192)), .ref (ad (193)), .ref (ad (194)), .ref (ad (195))])) := ⟨_, rfl⟩
  have hC : Cn g lo (196) ad F41 ss ss.heap H locs := by rw [eF41]; exact hC
  have k176_F41 : F41 (176) = .inl (g.2.2 0, 10, .inl (fun _ => 0)) := Eq.trans (by rw [eF41, va_up_ne _ _ (by omega)]) k176_F40
  have k177_F41 : F41 (177) = .inl (g.2.2 0, 10, .inl (fun _ => 0)) := Eq.trans (by rw [eF41, va_up_ne _ _ (by omega)]) k177_F40
  have k178_F41 : F41 (178) = .inl (g.2.2 0, 10, .inl (fun _ => 0)) := Eq.trans (by rw [eF41, va_up_ne _ _ (by omega)]) k178_F40
  have k179_F41 : F41 (179) = .inl (g.2.2 0, 10, .inl (fun _ => 0)) := Eq.trans (by rw [eF41, va_up_ne _ _ (by omega)]) k179_F40
  have k180_F41 : F41 (180) = .inl (g.2.2 0, 10, .inl (fun _ => 0)) := Eq.trans (by rw [eF41, va_up_ne _ _ (by omega)]) k180_F40
  have k181_F41 : F41 (181) = .inl (g.2.2 0, 10, .inl (fun _ => 0)) := Eq.trans (by rw [eF41, va_up_ne _ _ (by omega)]) k181_F40
  have k182_F41 : F41 (182) = .inl (g.2.2 0, 10, .inl (fun _ => 0)) := Eq.trans (by rw [eF41, va_up_ne _ _ (by omega)]) k182_F40
  have k183_F41 : F41 (183) = .inl (g.2.2 0, 10, .inl (fun _ => 0)) := Eq.trans (by rw [eF41, va_up_ne _ _ (by omega)]) k183_F40
  have k184_F41 : F41 (184) = .inl (g.2.2 0, 10, .inl (fun _ => 0)) := Eq.trans (by rw [eF41, va_up_ne _ _ (by omega)]) k184_F40
  have k185_F41 : F41 (185) = .inl (g.2.2 0, 72, .inl (fun _ => 0)) := Eq.trans (by rw [eF41, va_up_ne _ _ (by omega)]) k185_F40
  have k186_F41 : F41 (186) = .inl (g.2.2 0, 60, .inl (fun _ => 0)) := Eq.trans (by rw [eF41, va_up_ne _ _ (by omega)]) k186_F40
  have k187_F41 : F41 (187) = .inl (g.2.2 0, 60, .inl (fun _ => 0)) := Eq.trans (by rw [eF41, va_up_ne _ _ (by omega)]) k187_F40
  have k188_F41 : F41 (188) = .inl (g.2.2 0, 60, .inl (fun _ => 0)) := Eq.trans (by rw [eF41, va_up_ne _ _ (by omega)]) k188_F40
  have k189_F41 : F41 (189) = .inl (g.2.2 0, 768, .inl (fun _ => 0)) := Eq.trans (by rw [eF41, va_up_ne _ _ (by omega)]) k189_F40
  have k190_F41 : F41 (190) = .inl (g.2.2 0, 3, .inl (fun _ => 0)) := Eq.trans (by rw [eF41, va_up_ne _ _ (by omega)]) k190_F40
  have k191_F41 : F41 (191) = .inl (g.2.2 2, 100, .inr (.inl (fun _ => 0))) := Eq.trans (by rw [eF41, va_up_ne _ _ (by omega)]) k191_F40
  have k192_F41 : F41 (192) = .inl (g.2.2 3, 2, .inl (fun _ => 0)) := Eq.trans (by rw [eF41, va_up_ne _ _ (by omega)]) k192_F40
  have k193_F41 : F41 (193) = .inl (g.2.2 0, 60, .inl (fun _ => 0)) := Eq.trans (by rw [eF41, va_up_ne _ _ (by omega)]) k193_F40
  have k194_F41 : F41 (194) = .inl (g.2.2 0, 2, .inl (fun _ => 0)) := Eq.trans (by rw [eF41, va_up_ne _ _ (by omega)]) k194_F40
  have k195_F41 : F41 (195) = .inl (g.2.2 3, 2, .inl (fun _ => 0)) := Eq.trans (by rw [eF41, va_up_ne _ _ (by omega)]) k195_F40
  have ho_F41 : ∀ j, j < 175 → F41 j = F j := fun j hj => Eq.trans (by rw [eF41, va_up_ne _ _ (by omega)]) (ho_F40 j hj)
  have k175_F41 : F41 (175) = .inr (9, [.ref (ad (176)), .ref (ad (177)), .ref (ad (178)), .ref (ad (179)), .ref (ad (180)), .int 0, .int 0, .int 0, .ref (ad (181)), .ref (ad (182)), .ref (ad (183)), .ref (ad (184)), .int 0, .int 0, .int (nI 1), .ref (ad (185)), .int 0, .int 0, .int 0, .ref (ad (186)), .ref (ad (187)), .ref (ad (188)), .int 0, .int 0, .int 0, .int 0, .ref (ad (189)), .ref (ad (190)), .int 0, .int 0, .ref (ad (191)), .ref (ad (192)), .ref (ad (193)), .ref (ad (194)), .ref (ad (195))]) := by rw [eF41]; exact va_up_self _ _ _
  exact r_eN B hC (⟨⟨fun i => if i = 14 then 1 else 0, fun _ _ => 0, fun _ => 0, ⟨k175_F41, fun i h1 h2 => by rcases (show i = 176 ∨ i = 177 ∨ i = 178 ∨ i = 179 ∨ i = 180 ∨ i = 181 ∨ i = 182 ∨ i = 183 ∨ i = 184 ∨ i = 185 ∨ i = 186 ∨ i = 187 ∨ i = 188 ∨ i = 189 ∨ i = 190 ∨ i = 191 ∨ i = 192 ∨ i = 193 ∨ i = 194 ∨ i = 195 by omega) with rfl | rfl | rfl | rfl | rfl | rfl | rfl | rfl | rfl | rfl | rfl | rfl | rfl | rfl | rfl | rfl | rfl | rfl | rfl | rfl; exact k176_F41; exact k177_F41; exact k178_F41; exact k179_F41; exact k180_F41; exact k181_F41; exact k182_F41; exact k183_F41; exact k184_F41; exact k185_F41; exact k186_F41; exact k187_F41; exact k188_F41; exact k189_F41; exact k190_F41; exact k191_F41; exact k192_F41; exact k193_F41; exact k194_F41; exact k195_F41⟩, mr0⟩, ho_F41⟩) dX9_init_166
