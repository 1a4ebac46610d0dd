/-! CONSTRUCTORS with rows of Loads -/
theorem wkX0_init_16 : Cond.methodLink RX0 3 objectInit ∈ wsX0_init := by decide +kernel
theorem wkX0_init_17 : Cond.instanceMethod objectInit ∈ wsX0_init := by decide +kernel
theorem wkX0_init_18 : Cond.code objectInit ⟨#[0xb1]⟩ 1 none ∈ wsX0_init := by decide +kernel
theorem wkX0_init_19 : Cond.classLink RX0 9 RX3 ∈ wsX0_init := by decide +kernel
theorem wkX0_init_20 : Cond.instantiable RX3 6 ∈ wsX0_init := by decide +kernel
theorem wkX0_init_21 : Cond.initialized RX3 ∈ wsX0_init := by decide +kernel
theorem wkX0_init_22 : Cond.methodLink RX0 24 yX3_init ∈ wsX0_init := by decide +kernel
theorem wkX0_init_23 : Cond.instanceMethod yX3_init ∈ wsX0_init := by decide +kernel
theorem iwX0_init_X0 : ∀ w ∈ u_ws RX0 TX0 3, w ∈ wsX0_init := by decide +kernel
theorem iwX0_init_X3 : ∀ w ∈ u_ws RX3 TX3 6, w ∈ wsX0_init := by decide +kernel
theorem flX0_init_11 : Cond.fieldLink RX0 11 RX0 (TX0 0).2.1 (TX0 0).2.2.1 ∈ wsX0_init := by decide +kernel
theorem flX0_init_17 : Cond.fieldLink RX0 17 RX0 (TX0 1).2.1 (TX0 1).2.2.1 ∈ wsX0_init := by decide +kernel
theorem flX0_init_21 : Cond.fieldLink RX0 21 RX0 (TX0 2).2.1 (TX0 2).2.2.1 ∈ wsX0_init := by decide +kernel
set_option maxHeartbeats 4000000 in
set_option maxRecDepth 100000 in
theorem ctX0_init (l : Launch) (g : Gx) (lo : Nat) (ad : Nat → Nat) (hAd : ADN ad) (hl0 : lo ≤ ad 0) {F : Nat → va_E} (hF : F (18) = .inr (0, [.null, .int 0, .int 0])) : MN l g lo (19) (140) ad yX0_init wsX0_init 2 33 121 1128 [.ref (ad (18))] F (fun F' => ActC g ad F' (0, 0, fun _ => lv0) ∧ ∀ j, j < 18 → F' j = F j) := by
  refine enterN (cc := cX0_init) (maxL := 2) (ret := none) (own := RX0) (by decide +kernel) rfl rfl (Nat.le_of_ble_eq_true rfl) (adn_le hAd hl0 _) ?_
  intro pp ee ss mm below meth cc B hini hC hXA hlo ls hl
  have hl : lv_has ls 2 [(0, .ref (ad (18)))] := hl
  have ho : ∀ j, j < 18 → F j = F j := fun _ _ => rfl
  refine lv_aload_n B.1 B.2.1 dX0_init_0 rfl (lv_at hl 0 rfl) ?_
  refine r_oi B hl.1 (index := 3) wkX0_init_16 wkX0_init_17 wkX0_init_18 dX0_init_1 (Nat.le_of_ble_eq_true rfl) (Nat.le_of_ble_eq_true rfl) ?_
  refine lv_aload_n B.1 B.2.1 dX0_init_4 rfl (lv_at hl 0 rfl) ?_
  refine lv_bipush (v := nI 24) B.1 B.2.1 dX0_init_5 (by decide) ?_
  refine r_nq B hAd hlo hXA.1 hC (index := 9) wkX0_init_19 (n := 24) (by decide) (show _ ≤ 121 from by omega) (show _ ≤ 1128 from by omega) dX0_init_7 (fun H hC => ?_)
  obtain ⟨F1, eF1⟩ : ∃ f : Nat → va_E, f = va_up F (19) (.inl (g.2.2 4, 24, .inr (.inr (.inr (.inr (fun _ => none)))))) := ⟨_, rfl⟩
  have hC : Cn g lo (20) ad F1 ss ss.heap H [] := by rw [eF1]; exact hC
  have hF_F1 : F1 (18) = .inr (0, [.null, .int 0, .int 0]) := Eq.trans (by rw [eF1, va_up_ne _ _ (by omega)]) hF
  have ho_F1 : ∀ j, j < 18 → F1 j = F j := fun j hj => Eq.trans (by rw [eF1, va_up_ne _ _ (by omega)]) (ho j hj)
  have k19_F1 : F1 (19) = .inl (g.2.2 4, 24, .inr (.inr (.inr (.inr (fun _ => none))))) := by rw [eF1]; exact va_up_self _ _ _
  refine r_cpf B (hini rfl) hC (i := 18) (by omega) hF_F1 tyX0 tyX0_ok nmX0 (T := TX0) (n := 3) rfl iwX0_init_X0 0 (by decide) (index := 11) flX0_init_11 rfl rfl (v := .ref (ad (19))) rfl rfl (Nat.le_of_ble_eq_true rfl) dX0_init_10 (fun H locs hC => ?_)
  obtain ⟨F2, eF2⟩ : ∃ f : Nat → va_E, f = va_up F1 (18) (.inr (0, [.ref (ad (19)), .int 0, .int 0])) := ⟨_, rfl⟩
  have hC : Cn g lo (20) ad F2 ss ss.heap H locs := by rw [eF2]; exact hC
  have k19_F2 : F2 (19) = .inl (g.2.2 4, 24, .inr (.inr (.inr (.inr (fun _ => none))))) := Eq.trans (by rw [eF2, va_up_ne _ _ (by omega)]) k19_F1
  have ho_F2 : ∀ j, j < 18 → F2 j = F j := fun j hj => Eq.trans (by rw [eF2, va_up_ne _ _ (by omega)]) (ho_F1 j hj)
  have k18_F2 : F2 (18) = .inr (0, [.ref (ad (19)), .int 0, .int 0]) := by rw [eF2]; exact va_up_self _ _ _
  refine lv_aload_n B.1 B.2.1 dX0_init_13 rfl (lv_at hl 0 rfl) ?_
  refine lv_iconst (v := nI 0) B.1 B.2.1 dX0_init_14 (by decide) ?_
  refine r_cpn B hC (i := 18) (by omega) k18_F2 tyX0 tyX0_ok nmX0 (C := RX0) (T := TX0) (n := 3) rfl iwX0_init_X0 1 (by decide) (index := 17) flX0_init_17 rfl rfl (v := .int (nI 0)) rfl rfl (Nat.le_of_ble_eq_true rfl) dX0_init_15 (fun H locs hC => ?_)
  obtain ⟨F3, eF3⟩ : ∃ f : Nat → va_E, f = va_up F2 (18) (.inr (0, [.ref (ad (19)), .int (nI 0), .int 0])) := ⟨_, rfl⟩
  have hC : Cn g lo (20) ad F3 ss ss.heap H locs := by rw [eF3]; exact hC
  have k19_F3 : F3 (19) = .inl (g.2.2 4, 24, .inr (.inr (.inr (.inr (fun _ => none))))) := Eq.trans (by rw [eF3, va_up_ne _ _ (by omega)]) k19_F2
  have ho_F3 : ∀ j, j < 18 → F3 j = F j := fun j hj => Eq.trans (by rw [eF3, va_up_ne _ _ (by omega)]) (ho_F2 j hj)
  have k18_F3 : F3 (18) = .inr (0, [.ref (ad (19)), .int (nI 0), .int 0]) := by rw [eF3]; exact va_up_self _ _ _
  refine lv_aload_n B.1 B.2.1 dX0_init_18 rfl (lv_at hl 0 rfl) ?_
  refine lv_iconst (v := nI 0) B.1 B.2.1 dX0_init_19 (by decide) ?_
  refine r_cpn B hC (i := 18) (by omega) k18_F3 tyX0 tyX0_ok nmX0 (C := RX0) (T := TX0) (n := 3) rfl iwX0_init_X0 2 (by decide) (index := 21) flX0_init_21 rfl rfl (v := .int (nI 0)) rfl rfl (Nat.le_of_ble_eq_true rfl) dX0_init_20 (fun H locs hC => ?_)
  obtain ⟨F4, eF4⟩ : ∃ f : Nat → va_E, f = va_up F3 (18) (.inr (0, [.ref (ad (19)), .int (nI 0), .int (nI 0)])) := ⟨_, rfl⟩
  have hC : Cn g lo (20) ad F4 ss ss.heap H locs := by rw [eF4]; exact hC
  have k19_F4 : F4 (19) = .inl (g.2.2 4, 24, .inr (.inr (.inr (.inr (fun _ => none))))) := Eq.trans (by rw [eF4, va_up_ne _ _ (by omega)]) k19_F3
  have ho_F4 : ∀ j, j < 18 → F4 j = F j := fun j hj => Eq.trans (by rw [eF4, va_up_ne _ _ (by omega)]) (ho_F3 j hj)
  have k18_F4 : F4 (18) = .inr (0, [.ref (ad (19)), .int (nI 0), .int (nI 0)]) := by rw [eF4]; exact va_up_self _ _ _
  refine lv_iconst (v := nI 0) B.1 B.2.1 dX0_init_23 (by decide) ?_
  refine lv_istore_n (lv' := [(1, .int (nI 0)), (0, .ref (ad (18)))]) B.1 B.2.1 dX0_init_24 rfl hl (by decide) rfl (fun ls hl => ?_)
  have loop25 : ∀ (k i : Nat) (G : Nat → va_E), i + k = 24 → G 18 = .inr (0, [.ref (ad (19)), .int (nI 0), .int (nI 0)]) → G 19 = .inl (g.2.2 4, 24, .inr (.inr (.inr (.inr (fun j => if j < i then some (ad (20 + 5 * j)) else none))))) → (∀ j, j < i → LoadC g ad G (20 + 5 * j) lv0) → (∀ j, j < 18 → G j = F j) → ∀ (H : Heap) (locs : List Loc) (ls : Array Slot), Cn g lo (20 + 5 * i) ad G ss ss.heap H locs → lv_has ls 2 [(1, .int (nI i)), (0, .ref (ad (18)))] → W pp l ee { frames := 2, cells := 121, slots := 1128, locals := 33 } ss mm ([.ref (ad (18))] : List Value).toArray below meth cc H locs (1 + 5 * i) (24 + 46 * i) (MQ below (va_Qv (fun F' => ActC g ad F' (0, 0, fun _ => lv0) ∧ ∀ j, j < 18 → F' j = F j) (fun F' t => Wd g lo (140) ad F' t ∧ t.heap.size = ad (140)) (fun q => lo ≤ q)) ([.ref (ad (18))] : List Value).toArray ss 121 1128 (fun q => lo ≤ q)) (F0 mm 25 ls []) := by
    intro k
    induction k with
    | zero =>
      intro i G hik hb0 h1  hm ho H locs ls hC hl
      refine lv_iload_n B.1 B.2.1 dX0_init_25 rfl (lv_at hl 0 rfl) ?_
      refine lv_bipush (v := nI 24) B.1 B.2.1 dX0_init_26 (by decide) ?_
      refine lv_icmp_ge (tgt := 50) B.1 B.2.1 dX0_init_28 (by decide) (fun _ => ?_) (fun z => absurd (nI_le (by omega) (by omega)) z)
      have hC := cn_cong (f' := fun k => some (ad (20 + 5 * k))) hC (i := 19) (by omega) h1 (fun j hj => if_pos (by omega))
      have hC : Cn g lo (140) ad (va_up G 19 (.inl (g.2.2 4, 24, .inr (.inr (.inr (.inr (fun k => some (ad (20 + 5 * k))))))))) ss ss.heap H locs := (show 20 + 5 * i = 140 by omega) ▸ hC
      obtain ⟨F21, eF21⟩ : ∃ f : Nat → va_E, f = va_up G (19) (.inl (g.2.2 4, 24, .inr (.inr (.inr (.inr (fun k => some (ad (20 + 5 * k)))))))) := ⟨_, rfl⟩
      have hC : Cn g lo (140) ad F21 ss ss.heap H locs := by rw [eF21]; exact hC
      have hb0_F21 : F21 (18) = .inr (0, [.ref (ad (19)), .int (nI 0), .int (nI 0)]) := Eq.trans (by rw [eF21, va_up_ne _ _ (by omega)]) hb0
      have hm_F21 : ∀ j, j < i → LoadC g ad F21 (20 + 5 * j) lv0 := fun j hj => LoadC.at (hm j hj) (fun i h1 h2 => by rw [eF21, va_up_ne _ _ (by omega)])
      have ho_F21 : ∀ j, j < 18 → F21 j = F j := fun j hj => Eq.trans (by rw [eF21, va_up_ne _ _ (by omega)]) (ho j hj)
      have k19_F21 : F21 (19) = .inl (g.2.2 4, 24, .inr (.inr (.inr (.inr (fun k => some (ad (20 + 5 * k))))))) := by rw [eF21]; exact va_up_self _ _ _
      refine W.widen (k := 121) (n := 1128) (by omega) (by omega) ?_
      exact r_eN B hC (⟨⟨hb0_F21, k19_F21, fun k hk => hm_F21 k (by omega)⟩, ho_F21⟩) dX0_init_50
    | succ k ih =>
      intro i G hik hb0 h1  hm ho H locs ls hC hl
      refine lv_iload_n B.1 B.2.1 dX0_init_25 rfl (lv_at hl 0 rfl) ?_
      refine lv_bipush (v := nI 24) B.1 B.2.1 dX0_init_26 (by decide) ?_
      refine lv_icmp_ge (tgt := 50) B.1 B.2.1 dX0_init_28 (by decide) (fun z => absurd z (nI_ge (by omega) (by omega))) (fun _ => ?_)
      refine lv_aload_n B.1 B.2.1 dX0_init_31 rfl (lv_at hl 1 rfl) ?_
      refine r_cg B hC.1 (i := 18) (by omega) hb0 (C := RX0) (T := TX0) (n := 3) rfl iwX0_init_X0 0 (by decide) (index := 11) flX0_init_11 rfl (v := .ref (ad (19))) rfl dX0_init_32 ?_
      refine lv_iload_n B.1 B.2.1 dX0_init_35 rfl (lv_at hl 0 rfl) ?_
      refine r_nw B hAd hlo hC 3 (C := RX3) (T := TX3) (n := 6) (index := 9) rfl iwX0_init_X3 tyX3 tyX3_ok wkX0_init_19 wkX0_init_20 wkX0_init_21 (fs := [.null, .null, .null, .null, .int 0, .int 0]) dfX3 (show _ ≤ 121 from by omega) (show _ ≤ 1128 from by omega) dX0_init_36 (fun H hC => ?_)
      obtain ⟨F21, eF21⟩ : ∃ f : Nat → va_E, f = va_up G (20 + 5 * i) (.inr (3, [.null, .null, .null, .null, .int 0, .int 0])) := ⟨_, rfl⟩
      have hC : Cn g lo (20 + 5 * i + 1) ad F21 ss ss.heap H locs := by rw [eF21]; exact hC
      have hb0_F21 : F21 (18) = .inr (0, [.ref (ad (19)), .int (nI 0), .int (nI 0)]) := Eq.trans (by rw [eF21, va_up_ne _ _ (by omega)]) hb0
      have h1_F21 : F21 (19) = .inl (g.2.2 4, 24, .inr (.inr (.inr (.inr (fun j => if j < i then some (ad (20 + 5 * j)) else none))))) := Eq.trans (by rw [eF21, va_up_ne _ _ (by omega)]) h1
      have hm_F21 : ∀ j, j < i → LoadC g ad F21 (20 + 5 * j) lv0 := fun j hj => LoadC.at (hm j hj) (fun i h1 h2 => by rw [eF21, va_up_ne _ _ (by omega)])
      have ho_F21 : ∀ j, j < 18 → F21 j = F j := fun j hj => Eq.trans (by rw [eF21, va_up_ne _ _ (by omega)]) (ho j hj)
      have k205i_F21 : F21 (20 + 5 * i) = .inr (3, [.null, .null, .null, .null, .int 0, .int 0]) := by rw [eF21]; exact va_up_self _ _ _
      refine lv_dup B.1 B.2.1 dX0_init_39 rfl ?_
      refine r_ci B hl.1 hXA hC (i := 20 + 5 * i) (As := []) (ctX3_init l g lo ad hAd hl0 (b := 20 + 5 * i) k205i_F21) gX0_init_X3_init rfl wkX0_init_21 wkX0_init_22 wkX0_init_23 rfl (n := 0) rfl (by decide +kernel) ⟨Nat.le_of_ble_eq_true rfl, Nat.le_of_ble_eq_true rfl⟩ ⟨show _ ≤ 121 from by omega, show _ ≤ 1128 from by omega⟩ rfl (Nat.le_of_ble_eq_true rfl) dX0_init_40 (fun F22 H locs hp22 hC => ?_)
      obtain ⟨hn, hx22⟩ := hp22
      have hC : Cn g lo (20 + 5 * i + 5) ad F22 ss ss.heap H locs := hC
      have hb0_F22 : F22 (18) = .inr (0, [.ref (ad (19)), .int (nI 0), .int (nI 0)]) := Eq.trans (hx22 18 (by omega)) hb0_F21
      have h1_F22 : F22 (19) = .inl (g.2.2 4, 24, .inr (.inr (.inr (.inr (fun j => if j < i then some (ad (20 + 5 * j)) else none))))) := Eq.trans (hx22 19 (by omega)) h1_F21
      have hm_F22 : ∀ j, j < i → LoadC g ad F22 (20 + 5 * j) lv0 := fun j hj => LoadC.at (hm_F21 j hj) (fun i h1 h2 => hx22 i (by omega))
      have ho_F22 : ∀ j, j < 18 → F22 j = F j := fun j hj => Eq.trans (hx22 j (by omega)) (ho_F21 j hj)
      refine r_caq B hC (i := 19) (by omega) h1_F22 (j := i) (by omega) (by decide) (b := 20 + 5 * i) (by omega) hn.1 dX0_init_43 (fun H locs hC => ?_)
      rw [lq_s (fun j => ad (20 + 5 * j)) i] at hC
      obtain ⟨F23, eF23⟩ : ∃ f : Nat → va_E, f = va_up F22 (19) (.inl (g.2.2 4, 24, .inr (.inr (.inr (.inr (fun j => if j < i + 1 then some (ad (20 + 5 * j)) else none)))))) := ⟨_, rfl⟩
      have hC : Cn g lo (20 + 5 * i + 5) ad F23 ss ss.heap H locs := by rw [eF23]; exact hC
      have hb0_F23 : F23 (18) = .inr (0, [.ref (ad (19)), .int (nI 0), .int (nI 0)]) := Eq.trans (by rw [eF23, va_up_ne _ _ (by omega)]) hb0_F22
      have hm_F23 : ∀ j, j < i → LoadC g ad F23 (20 + 5 * j) lv0 := fun j hj => LoadC.at (hm_F22 j hj) (fun i h1 h2 => by rw [eF23, va_up_ne _ _ (by omega)])
      have hn_F23 : LoadC g ad F23 (20 + 5 * i) lv0 := LoadC.at hn (fun i h1 h2 => by rw [eF23, va_up_ne _ _ (by omega)])
      have ho_F23 : ∀ j, j < 18 → F23 j = F j := fun j hj => Eq.trans (by rw [eF23, va_up_ne _ _ (by omega)]) (ho_F22 j hj)
      have k19_F23 : F23 (19) = .inl (g.2.2 4, 24, .inr (.inr (.inr (.inr (fun j => if j < i + 1 then some (ad (20 + 5 * j)) else none))))) := by rw [eF23]; exact va_up_self _ _ _
      refine lv_iinc (v := nI (i + 1)) (lv' := [(1, .int (nI (i + 1))), (0, .ref (ad (18)))]) B.1 B.2.1 dX0_init_44 hl (k := 0) rfl (nI_1 _) (by decide) rfl (fun ls hl => ?_)
      refine lv_goto (tgt := 25) B.1 B.2.1 dX0_init_47 (by decide) ?_
      refine W.widen (k := 1 + 5 * (i + 1)) (n := 24 + 46 * (i + 1)) (by omega) (by omega) ?_
      exact ih (i + 1) F23 (by omega) hb0_F23 k19_F23  (fun j hj => by rcases Nat.lt_succ_iff_lt_or_eq.mp hj with z | z; exact hm_F23 j z; rw [z]; exact hn_F23) ho_F23 _ _ ls ((show 20 + 5 * i + 5 = 20 + 5 * (i + 1) by omega) ▸ hC) (lv_sub hl [0, 1] rfl)
  exact loop25 24 0 F4 (by omega) k18_F4 (by rw [k19_F4]; congr)  (fun j hj => absurd hj (Nat.not_lt_zero j)) ho_F4 _ _ ls hC (lv_sub hl [0, 1] rfl)
theorem wkX6_init_24 : Cond.methodLink RX6 3 objectInit ∈ wsX6_init := by decide +kernel
theorem wkX6_init_25 : Cond.instanceMethod objectInit ∈ wsX6_init := by decide +kernel
theorem wkX6_init_26 : Cond.code objectInit ⟨#[0xb1]⟩ 1 none ∈ wsX6_init := by decide +kernel
theorem wkX6_init_27 : Cond.classLink RX6 9 RX3 ∈ wsX6_init := by decide +kernel
theorem wkX6_init_28 : Cond.arrayClass .boolean ∈ wsX6_init := by decide +kernel
theorem wkX6_init_29 : Cond.instantiable RX3 6 ∈ wsX6_init := by decide +kernel
theorem wkX6_init_30 : Cond.initialized RX3 ∈ wsX6_init := by decide +kernel
theorem wkX6_init_31 : Cond.methodLink RX6 21 yX3_init ∈ wsX6_init := by decide +kernel
theorem wkX6_init_32 : Cond.instanceMethod yX3_init ∈ wsX6_init := by decide +kernel
theorem iwX6_init_X3 : ∀ w ∈ u_ws RX3 TX3 6, w ∈ wsX6_init := by decide +kernel
theorem iwX6_init_X6 : ∀ w ∈ u_ws RX6 TX6 2, w ∈ wsX6_init := by decide +kernel
theorem flX6_init_11 : Cond.fieldLink RX6 11 RX6 (TX6 0).2.1 (TX6 0).2.2.1 ∈ wsX6_init := by decide +kernel
theorem flX6_init_17 : Cond.fieldLink RX6 17 RX6 (TX6 1).2.1 (TX6 1).2.2.1 ∈ wsX6_init := by decide +kernel
set_option maxHeartbeats 4000000 in
set_option maxRecDepth 100000 in
theorem ctX6_init (l : Launch) (g : Gx) (lo : Nat) (ad : Nat → Nat) (hAd : ADN ad) (hl0 : lo ≤ ad 0) {F : Nat → va_E} (hF : F (140) = .inr (6, [.null, .null])) : MN l g lo (141) (153) ad yX6_init wsX6_init 2 33 12 96 [.ref (ad (140))] F (fun F' => SlotC g ad F' (fun _ => lv0, fun _ => false) ∧ ∀ j, j < 140 → F' j = F j) := by
  refine enterN (cc := cX6_init) (maxL := 2) (ret := none) (own := RX6) (by decide +kernel) rfl rfl (Nat.le_of_ble_eq_true rfl) (adn_le hAd hl0 _) ?_
  intro pp ee ss mm below meth cc B hini hC hXA hlo ls hl
  have hl : lv_has ls 2 [(0, .ref (ad (140)))] := hl
  have ho : ∀ j, j < 140 → F j = F j := fun _ _ => rfl
  refine lv_aload_n B.1 B.2.1 dX6_init_0 rfl (lv_at hl 0 rfl) ?_
  refine r_oi B hl.1 (index := 3) wkX6_init_24 wkX6_init_25 wkX6_init_26 dX6_init_1 (Nat.le_of_ble_eq_true rfl) (Nat.le_of_ble_eq_true rfl) ?_
  refine lv_aload_n B.1 B.2.1 dX6_init_4 rfl (lv_at hl 0 rfl) ?_
  refine lv_iconst (v := nI 2) B.1 B.2.1 dX6_init_5 (by decide) ?_
  refine r_nq B hAd hlo hXA.1 hC (index := 9) wkX6_init_27 (n := 2) (by decide) (show _ ≤ 12 from by omega) (show _ ≤ 96 from by omega) dX6_init_6 (fun H hC => ?_)
  obtain ⟨F1, eF1⟩ : ∃ f : Nat → va_E, f = va_up F (141) (.inl (g.2.2 4, 2, .inr (.inr (.inr (.inr (fun _ => none)))))) := ⟨_, rfl⟩
  have hC : Cn g lo (142) ad F1 ss ss.heap H [] := by rw [eF1]; exact hC
  have hF_F1 : F1 (140) = .inr (6, [.null, .null]) := Eq.trans (by rw [eF1, va_up_ne _ _ (by omega)]) hF
  have ho_F1 : ∀ j, j < 140 → F1 j = F j := fun j hj => Eq.trans (by rw [eF1, va_up_ne _ _ (by omega)]) (ho j hj)
  have k141_F1 : F1 (141) = .inl (g.2.2 4, 2, .inr (.inr (.inr (.inr (fun _ => none))))) := by rw [eF1]; exact va_up_self _ _ _
  refine r_cpf B (hini rfl) hC (i := 140) (by omega) hF_F1 tyX6 tyX6_ok nmX6 (T := TX6) (n := 2) rfl iwX6_init_X6 0 (by decide) (index := 11) flX6_init_11 rfl rfl (v := .ref (ad (141))) rfl rfl (Nat.le_of_ble_eq_true rfl) dX6_init_9 (fun H locs hC => ?_)
  obtain ⟨F2, eF2⟩ : ∃ f : Nat → va_E, f = va_up F1 (140) (.inr (6, [.ref (ad (141)), .null])) := ⟨_, rfl⟩
  have hC : Cn g lo (142) ad F2 ss ss.heap H locs := by rw [eF2]; exact hC
  have k141_F2 : F2 (141) = .inl (g.2.2 4, 2, .inr (.inr (.inr (.inr (fun _ => none))))) := Eq.trans (by rw [eF2, va_up_ne _ _ (by omega)]) k141_F1
  have ho_F2 : ∀ j, j < 140 → F2 j = F j := fun j hj => Eq.trans (by rw [eF2, va_up_ne _ _ (by omega)]) (ho_F1 j hj)
  have k140_F2 : F2 (140) = .inr (6, [.ref (ad (141)), .null]) := by rw [eF2]; exact va_up_self _ _ _
  refine lv_aload_n B.1 B.2.1 dX6_init_12 rfl (lv_at hl 0 rfl) ?_
  refine lv_iconst (v := nI 2) B.1 B.2.1 dX6_init_13 (by decide) ?_
  refine r_na (atype := .boolean) (ty := .boolean) B hAd hlo hC 3 rfl wkX6_init_28 rfl (n := 2) (a0 := (2, .inl (fun _ => 0))) (fun _ => rfl) (by decide) (by decide) (show _ ≤ 12 from by omega) (show _ ≤ 96 from by omega) dX6_init_14 (fun H hC => ?_)
  obtain ⟨F3, eF3⟩ : ∃ f : Nat → va_E, f = va_up F2 (142) (.inl (g.2.2 3, 2, .inl (fun _ => 0))) := ⟨_, rfl⟩
  have hC : Cn g lo (143) ad F3 ss ss.heap H locs := by rw [eF3]; exact hC
  have k141_F3 : F3 (141) = .inl (g.2.2 4, 2, .inr (.inr (.inr (.inr (fun _ => none))))) := Eq.trans (by rw [eF3, va_up_ne _ _ (by omega)]) k141_F2
  have k140_F3 : F3 (140) = .inr (6, [.ref (ad (141)), .null]) := Eq.trans (by rw [eF3, va_up_ne _ _ (by omega)]) k140_F2
  have ho_F3 : ∀ j, j < 140 → F3 j = F j := fun j hj => Eq.trans (by rw [eF3, va_up_ne _ _ (by omega)]) (ho_F2 j hj)
  have k142_F3 : F3 (142) = .inl (g.2.2 3, 2, .inl (fun _ => 0)) := by rw [eF3]; exact va_up_self _ _ _
  refine r_cpf B (hini rfl) hC (i := 140) (by omega) k140_F3 tyX6 tyX6_ok nmX6 (T := TX6) (n := 2) rfl iwX6_init_X6 1 (by decide) (index := 17) flX6_init_17 rfl rfl (v := .ref (ad (142))) rfl rfl (Nat.le_of_ble_eq_true rfl) dX6_init_16 (fun H locs hC => ?_)
  obtain ⟨F4, eF4⟩ : ∃ f : Nat → va_E, f = va_up F3 (140) (.inr (6, [.ref (ad (141)), .ref (ad (142))])) := ⟨_, rfl⟩
  have hC : Cn g lo (143) ad F4 ss ss.heap H locs := by rw [eF4]; exact hC
  have k141_F4 : F4 (141) = .inl (g.2.2 4, 2, .inr (.inr (.inr (.inr (fun _ => none))))) := Eq.trans (by rw [eF4, va_up_ne _ _ (by omega)]) k141_F3
  have k142_F4 : F4 (142) = .inl (g.2.2 3, 2, .inl (fun _ => 0)) := Eq.trans (by rw [eF4, va_up_ne _ _ (by omega)]) k142_F3
  have ho_F4 : ∀ j, j < 140 → F4 j = F j := fun j hj => Eq.trans (by rw [eF4, va_up_ne _ _ (by omega)]) (ho_F3 j hj)
  have k140_F4 : F4 (140) = .inr (6, [.ref (ad (141)), .ref (ad (142))]) := by rw [eF4]; exact va_up_self _ _ _
  refine lv_iconst (v := nI 0) B.1 B.2.1 dX6_init_19 (by decide) ?_
  refine lv_istore_n (lv' := [(1, .int (nI 0)), (0, .ref (ad (140)))]) B.1 B.2.1 dX6_init_20 rfl hl (by decide) rfl (fun ls hl => ?_)
  have loop21 : ∀ (k i : Nat) (G : Nat → va_E), i + k = 2 → G 140 = .inr (6, [.ref (ad (141)), .ref (ad (142))]) → G 141 = .inl (g.2.2 4, 2, .inr (.inr (.inr (.inr (fun j => if j < i then some (ad (143 + 5 * j)) else none))))) → G 142 = .inl (g.2.2 3, 2, .inl (fun _ => 0)) → (∀ j, j < i → LoadC g ad G (143 + 5 * j) lv0) → (∀ j, j < 140 → G j = F j) → ∀ (H : Heap) (locs : List Loc) (ls : Array Slot), Cn g lo (143 + 5 * i) ad G ss ss.heap H locs → lv_has ls 2 [(1, .int (nI i)), (0, .ref (ad (140)))] → W pp l ee { frames := 2, cells := 12, slots := 96, locals := 33 } ss mm ([.ref (ad (140))] : List Value).toArray below meth cc H locs (2 + 5 * i) (4 + 46 * i) (MQ below (va_Qv (fun F' => SlotC g ad F' (fun _ => lv0, fun _ => false) ∧ ∀ j, j < 140 → F' j = F j) (fun F' t => Wd g lo (153) ad F' t ∧ t.heap.size = ad (153)) (fun q => lo ≤ q)) ([.ref (ad (140))] : List Value).toArray ss 12 96 (fun q => lo ≤ q)) (F0 mm 21 ls []) := by
    intro k
    induction k with
    | zero =>
      intro i G hik hb0 h1 hx_142 hm ho H locs ls hC hl
      have hx142 := hx_142
      refine lv_iload_n B.1 B.2.1 dX6_init_21 rfl (lv_at hl 0 rfl) ?_
      refine lv_iconst (v := nI 2) B.1 B.2.1 dX6_init_22 (by decide) ?_
      refine lv_icmp_ge (tgt := 45) B.1 B.2.1 dX6_init_23 (by decide) (fun _ => ?_) (fun z => absurd (nI_le (by omega) (by omega)) z)
      have hC := cn_cong (f' := fun k => some (ad (143 + 5 * k))) hC (i := 141) (by omega) h1 (fun j hj => if_pos (by omega))
      have hC : Cn g lo (153) ad (va_up G 141 (.inl (g.2.2 4, 2, .inr (.inr (.inr (.inr (fun k => some (ad (143 + 5 * k))))))))) ss ss.heap H locs := (show 143 + 5 * i = 153 by omega) ▸ hC
      obtain ⟨F21, eF21⟩ : ∃ f : Nat → va_E, f = va_up G (141) (.inl (g.2.2 4, 2, .inr (.inr (.inr (.inr (fun k => some (ad (143 + 5 * k)))))))) := ⟨_, rfl⟩
      have hC : Cn g lo (153) ad F21 ss ss.heap H locs := by rw [eF21]; exact hC
      have hb0_F21 : F21 (140) = .inr (6, [.ref (ad (141)), .ref (ad (142))]) := Eq.trans (by rw [eF21, va_up_ne _ _ (by omega)]) hb0
      have hx142_F21 : F21 (142) = .inl (g.2.2 3, 2, .inl (fun _ => 0)) := Eq.trans (by rw [eF21, va_up_ne _ _ (by omega)]) hx142
      have hm_F21 : ∀ j, j < i → LoadC g ad F21 (143 + 5 * j) lv0 := fun j hj => LoadC.at (hm j hj) (fun i h1 h2 => by rw [eF21, va_up_ne _ _ (by omega)])
      have ho_F21 : ∀ j, j < 140 → F21 j = F j := fun j hj => Eq.trans (by rw [eF21, va_up_ne _ _ (by omega)]) (ho j hj)
      have k141_F21 : F21 (141) = .inl (g.2.2 4, 2, .inr (.inr (.inr (.inr (fun k => some (ad (143 + 5 * k))))))) := by rw [eF21]; exact va_up_self _ _ _
      refine W.widen (k := 12) (n := 96) (by omega) (by omega) ?_
      exact r_eN B hC (⟨⟨hb0_F21, k141_F21, hx142_F21, fun k hk => hm_F21 k (by omega)⟩, ho_F21⟩) dX6_init_45
    | succ k ih =>
      intro i G hik hb0 h1 hx_142 hm ho H locs ls hC hl
      have hx142 := hx_142
      refine lv_iload_n B.1 B.2.1 dX6_init_21 rfl (lv_at hl 0 rfl) ?_
      refine lv_iconst (v := nI 2) B.1 B.2.1 dX6_init_22 (by decide) ?_
      refine lv_icmp_ge (tgt := 45) B.1 B.2.1 dX6_init_23 (by decide) (fun z => absurd z (nI_ge (by omega) (by omega))) (fun _ => ?_)
      refine lv_aload_n B.1 B.2.1 dX6_init_26 rfl (lv_at hl 1 rfl) ?_
      refine r_cg B hC.1 (i := 140) (by omega) hb0 (C := RX6) (T := TX6) (n := 2) rfl iwX6_init_X6 0 (by decide) (index := 11) flX6_init_11 rfl (v := .ref (ad (141))) rfl dX6_init_27 ?_
      refine lv_iload_n B.1 B.2.1 dX6_init_30 rfl (lv_at hl 0 rfl) ?_
      refine r_nw B hAd hlo hC 3 (C := RX3) (T := TX3) (n := 6) (index := 9) rfl iwX6_init_X3 tyX3 tyX3_ok wkX6_init_27 wkX6_init_29 wkX6_init_30 (fs := [.null, .null, .null, .null, .int 0, .int 0]) dfX3 (show _ ≤ 12 from by omega) (show _ ≤ 96 from by omega) dX6_init_31 (fun H hC => ?_)
      obtain ⟨F21, eF21⟩ : ∃ f : Nat → va_E, f = va_up G (143 + 5 * i) (.inr (3, [.null, .null, .null, .null, .int 0, .int 0])) := ⟨_, rfl⟩
      have hC : Cn g lo (143 + 5 * i + 1) ad F21 ss ss.heap H locs := by rw [eF21]; exact hC
      have hb0_F21 : F21 (140) = .inr (6, [.ref (ad (141)), .ref (ad (142))]) := Eq.trans (by rw [eF21, va_up_ne _ _ (by omega)]) hb0
      have h1_F21 : F21 (141) = .inl (g.2.2 4, 2, .inr (.inr (.inr (.inr (fun j => if j < i then some (ad (143 + 5 * j)) else none))))) := Eq.trans (by rw [eF21, va_up_ne _ _ (by omega)]) h1
      have hx142_F21 : F21 (142) = .inl (g.2.2 3, 2, .inl (fun _ => 0)) := Eq.trans (by rw [eF21, va_up_ne _ _ (by omega)]) hx142
      have hm_F21 : ∀ j, j < i → LoadC g ad F21 (143 + 5 * j) lv0 := fun j hj => LoadC.at (hm j hj) (fun i h1 h2 => by rw [eF21, va_up_ne _ _ (by omega)])
      have ho_F21 : ∀ j, j < 140 → F21 j = F j := fun j hj => Eq.trans (by rw [eF21, va_up_ne _ _ (by omega)]) (ho j hj)
      have k1435i_F21 : F21 (143 + 5 * i) = .inr (3, [.null, .null, .null, .null, .int 0, .int 0]) := by rw [eF21]; exact va_up_self _ _ _
      refine lv_dup B.1 B.2.1 dX6_init_34 rfl ?_
      refine r_ci B hl.1 hXA hC (i := 143 + 5 * i) (As := []) (ctX3_init l g lo ad hAd hl0 (b := 143 + 5 * i) k1435i_F21) gX6_init_X3_init rfl wkX6_init_30 wkX6_init_31 wkX6_init_32 rfl (n := 0) rfl (by decide +kernel) ⟨Nat.le_of_ble_eq_true rfl, Nat.le_of_ble_eq_true rfl⟩ ⟨show _ ≤ 12 from by omega, show _ ≤ 96 from by omega⟩ rfl (Nat.le_of_ble_eq_true rfl) dX6_init_35 (fun F22 H locs hp22 hC => ?_)
      obtain ⟨hn, hx22⟩ := hp22
      have hC : Cn g lo (143 + 5 * i + 5) ad F22 ss ss.heap H locs := hC
      have hb0_F22 : F22 (140) = .inr (6, [.ref (ad (141)), .ref (ad (142))]) := Eq.trans (hx22 140 (by omega)) hb0_F21
      have h1_F22 : F22 (141) = .inl (g.2.2 4, 2, .inr (.inr (.inr (.inr (fun j => if j < i then some (ad (143 + 5 * j)) else none))))) := Eq.trans (hx22 141 (by omega)) h1_F21
      have hx142_F22 : F22 (142) = .inl (g.2.2 3, 2, .inl (fun _ => 0)) := Eq.trans (hx22 142 (by omega)) hx142_F21
      have hm_F22 : ∀ j, j < i → LoadC g ad F22 (143 + 5 * j) lv0 := fun j hj => LoadC.at (hm_F21 j hj) (fun i h1 h2 => hx22 i (by omega))
      have ho_F22 : ∀ j, j < 140 → F22 j = F j := fun j hj => Eq.trans (hx22 j (by omega)) (ho_F21 j hj)
      refine r_caq B hC (i := 141) (by omega) h1_F22 (j := i) (by omega) (by decide) (b := 143 + 5 * i) (by omega) hn.1 dX6_init_38 (fun H locs hC => ?_)
      rw [lq_s (fun j => ad (143 + 5 * j)) i] at hC
      obtain ⟨F23, eF23⟩ : ∃ f : Nat → va_E, f = va_up F22 (141) (.inl (g.2.2 4, 2, .inr (.inr (.inr (.inr (fun j => if j < i + 1 then some (ad (143 + 5 * j)) else none)))))) := ⟨_, rfl⟩
      have hC : Cn g lo (143 + 5 * i + 5) ad F23 ss ss.heap H locs := by rw [eF23]; exact hC
      have hb0_F23 : F23 (140) = .inr (6, [.ref (ad (141)), .ref (ad (142))]) := Eq.trans (by rw [eF23, va_up_ne _ _ (by omega)]) hb0_F22
      have hx142_F23 : F23 (142) = .inl (g.2.2 3, 2, .inl (fun _ => 0)) := Eq.trans (by rw [eF23, va_up_ne _ _ (by omega)]) hx142_F22
      have hm_F23 : ∀ j, j < i → LoadC g ad F23 (143 + 5 * j) lv0 := fun j hj => LoadC.at (hm_F22 j hj) (fun i h1 h2 => by rw [eF23, va_up_ne _ _ (by omega)])
      have hn_F23 : LoadC g ad F23 (143 + 5 * i) lv0 := LoadC.at hn (fun i h1 h2 => by rw [eF23, va_up_ne _ _ (by omega)])
      have ho_F23 : ∀ j, j < 140 → F23 j = F j := fun j hj => Eq.trans (by rw [eF23, va_up_ne _ _ (by omega)]) (ho_F22 j hj)
      have k141_F23 : F23 (141) = .inl (g.2.2 4, 2, .inr (.inr (.inr (.inr (fun j => if j < i + 1 then some (ad (143 + 5 * j)) else none))))) := by rw [eF23]; exact va_up_self _ _ _
      refine lv_iinc (v := nI (i + 1)) (lv' := [(1, .int (nI (i + 1))), (0, .ref (ad (140)))]) B.1 B.2.1 dX6_init_39 hl (k := 0) rfl (nI_1 _) (by decide) rfl (fun ls hl => ?_)
      refine lv_goto (tgt := 21) B.1 B.2.1 dX6_init_42 (by decide) ?_
      refine W.widen (k := 2 + 5 * (i + 1)) (n := 4 + 46 * (i + 1)) (by omega) (by omega) ?_
      exact ih (i + 1) F23 (by omega) hb0_F23 k141_F23 hx142_F23 (fun j hj => by rcases Nat.lt_succ_iff_lt_or_eq.mp hj with z | z; exact hm_F23 j z; rw [z]; exact hn_F23) ho_F23 _ _ ls ((show 143 + 5 * i + 5 = 143 + 5 * (i + 1) by omega) ▸ hC) (lv_sub hl [0, 1] rfl)
  exact loop21 2 0 F4 (by omega) k140_F4 (by rw [k141_F4]; congr) k142_F4 (fun j hj => absurd hj (Nat.not_lt_zero j)) ho_F4 _ _ ls hC (lv_sub hl [0, 1] rfl)
theorem wkX4_init_33 : Cond.methodLink RX4 3 objectInit ∈ wsX4_init := by decide +kernel
theorem wkX4_init_34 : Cond.instanceMethod objectInit ∈ wsX4_init := by decide +kernel
theorem wkX4_init_35 : Cond.code objectInit ⟨#[0xb1]⟩ 1 none ∈ wsX4_init := by decide +kernel
theorem wkX4_init_36 : Cond.classLink RX4 9 RX3 ∈ wsX4_init := by decide +kernel
theorem wkX4_init_37 : Cond.arrayClass .int ∈ wsX4_init := by decide +kernel
theorem wkX4_init_38 : Cond.instantiable RX3 6 ∈ wsX4_init := by decide +kernel
theorem wkX4_init_39 : Cond.initialized RX3 ∈ wsX4_init := by decide +kernel
theorem wkX4_init_40 : Cond.methodLink RX4 33 yX3_init ∈ wsX4_init := by decide +kernel
theorem wkX4_init_41 : Cond.instanceMethod yX3_init ∈ wsX4_init := by decide +kernel
theorem iwX4_init_X3 : ∀ w ∈ u_ws RX3 TX3 6, w ∈ wsX4_init := by decide +kernel
theorem iwX4_init_X4 : ∀ w ∈ u_ws RX4 TX4 5, w ∈ wsX4_init := by decide +kernel
theorem flX4_init_11 : Cond.fieldLink RX4 11 RX4 (TX4 1).2.1 (TX4 1).2.2.1 ∈ wsX4_init := by decide +kernel
theorem flX4_init_17 : Cond.fieldLink RX4 17 RX4 (TX4 2).2.1 (TX4 2).2.2.1 ∈ wsX4_init := by decide +kernel
theorem flX4_init_21 : Cond.fieldLink RX4 21 RX4 (TX4 3).2.1 (TX4 3).2.2.1 ∈ wsX4_init := by decide +kernel
theorem flX4_init_25 : Cond.fieldLink RX4 25 RX4 (TX4 4).2.1 (TX4 4).2.2.1 ∈ wsX4_init := by decide +kernel
theorem flX4_init_29 : Cond.fieldLink RX4 29 RX4 (TX4 0).2.1 (TX4 0).2.2.1 ∈ wsX4_init := by decide +kernel
set_option maxHeartbeats 4000000 in
set_option maxRecDepth 100000 in
theorem ctX4_init (l : Launch) (g : Gx) (lo : Nat) (ad : Nat → Nat) (hAd : ADN ad) (hl0 : lo ≤ ad 0) {F : Nat → va_E} (hF : F (157) = .inr (4, [.null, .null, .null, .int 0, .int 0])) : MN l g lo (158) (175) ad yX4_init wsX4_init 2 33 17 143 [.ref (ad (157)), .ref (ad (3))] F (fun F' => RowsC g ad F' (0, false, fun _ => some 0, fun _ => lv0) ∧ ∀ j, j < 157 → F' j = F j) := by
  refine enterN (cc := cX4_init) (maxL := 3) (ret := none) (own := RX4) (by decide +kernel) rfl rfl (Nat.le_of_ble_eq_true rfl) (adn_le hAd hl0 _) ?_
  intro pp ee ss mm below meth cc B hini hC hXA hlo ls hl
  have hl : lv_has ls 3 [(0, .ref (ad (157))), (1, .ref (ad (3)))] := hl
  have ho : ∀ j, j < 157 → F j = F j := fun _ _ => rfl
  refine lv_aload_n B.1 B.2.1 dX4_init_0 rfl (lv_at hl 0 rfl) ?_
  refine r_oi B hl.1 (index := 3) wkX4_init_33 wkX4_init_34 wkX4_init_35 dX4_init_1 (Nat.le_of_ble_eq_true rfl) (Nat.le_of_ble_eq_true rfl) ?_
  refine lv_aload_n B.1 B.2.1 dX4_init_4 rfl (lv_at hl 0 rfl) ?_
  refine lv_iconst (v := nI 3) B.1 B.2.1 dX4_init_5 (by decide) ?_
  refine r_nq B hAd hlo hXA.1 hC (index := 9) wkX4_init_36 (n := 3) (by decide) (show _ ≤ 17 from by omega) (show _ ≤ 143 from by omega) dX4_init_6 (fun H hC => ?_)
  obtain ⟨F1, eF1⟩ : ∃ f : Nat → va_E, f = va_up F (158) (.inl (g.2.2 4, 3, .inr (.inr (.inr (.inr (fun _ => none)))))) := ⟨_, rfl⟩
  have hC : Cn g lo (159) ad F1 ss ss.heap H [] := by rw [eF1]; exact hC
  have hF_F1 : F1 (157) = .inr (4, [.null, .null, .null, .int 0, .int 0]) := Eq.trans (by rw [eF1, va_up_ne _ _ (by omega)]) hF
  have ho_F1 : ∀ j, j < 157 → F1 j = F j := fun j hj => Eq.trans (by rw [eF1, va_up_ne _ _ (by omega)]) (ho j hj)
  have k158_F1 : F1 (158) = .inl (g.2.2 4, 3, .inr (.inr (.inr (.inr (fun _ => none))))) := by rw [eF1]; exact va_up_self _ _ _
  refine r_cpf B (hini rfl) hC (i := 157) (by omega) hF_F1 tyX4 tyX4_ok nmX4 (T := TX4) (n := 5) rfl iwX4_init_X4 1 (by decide) (index := 11) flX4_init_11 rfl rfl (v := .ref (ad (158))) rfl rfl (Nat.le_of_ble_eq_true rfl) dX4_init_9 (fun H locs hC => ?_)
  obtain ⟨F2, eF2⟩ : ∃ f : Nat → va_E, f = va_up F1 (157) (.inr (4, [.null, .ref (ad (158)), .null, .int 0, .int 0])) := ⟨_, rfl⟩
  have hC : Cn g lo (159) ad F2 ss ss.heap H locs := by rw [eF2]; exact hC
  have k158_F2 : F2 (158) = .inl (g.2.2 4, 3, .inr (.inr (.inr (.inr (fun _ => none))))) := Eq.trans (by rw [eF2, va_up_ne _ _ (by omega)]) k158_F1
  have ho_F2 : ∀ j, j < 157 → F2 j = F j := fun j hj => Eq.trans (by rw [eF2, va_up_ne _ _ (by omega)]) (ho_F1 j hj)
  have k157_F2 : F2 (157) = .inr (4, [.null, .ref (ad (158)), .null, .int 0, .int 0]) := by rw [eF2]; exact va_up_self _ _ _
  refine lv_aload_n B.1 B.2.1 dX4_init_12 rfl (lv_at hl 0 rfl) ?_
  refine lv_iconst (v := nI 2) B.1 B.2.1 dX4_init_13 (by decide) ?_
  refine r_na (atype := .int) (ty := .int) B hAd hlo hC 0 rfl wkX4_init_37 rfl (n := 2) (a0 := (2, .inl (fun _ => 0))) (fun _ => rfl) (by decide) (by decide) (show _ ≤ 17 from by omega) (show _ ≤ 143 from by omega) dX4_init_14 (fun H hC => ?_)
  obtain ⟨F3, eF3⟩ : ∃ f : Nat → va_E, f = va_up F2 (159) (.inl (g.2.2 0, 2, .inl (fun _ => 0))) := ⟨_, rfl⟩
  have hC : Cn g lo (160) ad F3 ss ss.heap H locs := by rw [eF3]; exact hC
  have k158_F3 : F3 (158) = .inl (g.2.2 4, 3, .inr (.inr (.inr (.inr (fun _ => none))))) := Eq.trans (by rw [eF3, va_up_ne _ _ (by omega)]) k158_F2
  have k157_F3 : F3 (157) = .inr (4, [.null, .ref (ad (158)), .null, .int 0, .int 0]) := Eq.trans (by rw [eF3, va_up_ne _ _ (by omega)]) k157_F2
  have ho_F3 : ∀ j, j < 157 → F3 j = F j := fun j hj => Eq.trans (by rw [eF3, va_up_ne _ _ (by omega)]) (ho_F2 j hj)
  have k159_F3 : F3 (159) = .inl (g.2.2 0, 2, .inl (fun _ => 0)) := by rw [eF3]; exact va_up_self _ _ _
  refine r_cpf B (hini rfl) hC (i := 157) (by omega) k157_F3 tyX4 tyX4_ok nmX4 (T := TX4) (n := 5) rfl iwX4_init_X4 2 (by decide) (index := 17) flX4_init_17 rfl rfl (v := .ref (ad (159))) rfl rfl (Nat.le_of_ble_eq_true rfl) dX4_init_16 (fun H locs hC => ?_)
  obtain ⟨F4, eF4⟩ : ∃ f : Nat → va_E, f = va_up F3 (157) (.inr (4, [.null, .ref (ad (158)), .ref (ad (159)), .int 0, .int 0])) := ⟨_, rfl⟩
  have hC : Cn g lo (160) ad F4 ss ss.heap H locs := by rw [eF4]; exact hC
  have k158_F4 : F4 (158) = .inl (g.2.2 4, 3, .inr (.inr (.inr (.inr (fun _ => none))))) := Eq.trans (by rw [eF4, va_up_ne _ _ (by omega)]) k158_F3
  have k159_F4 : F4 (159) = .inl (g.2.2 0, 2, .inl (fun _ => 0)) := Eq.trans (by rw [eF4, va_up_ne _ _ (by omega)]) k159_F3
  have ho_F4 : ∀ j, j < 157 → F4 j = F j := fun j hj => Eq.trans (by rw [eF4, va_up_ne _ _ (by omega)]) (ho_F3 j hj)
  have k157_F4 : F4 (157) = .inr (4, [.null, .ref (ad (158)), .ref (ad (159)), .int 0, .int 0]) := by rw [eF4]; exact va_up_self _ _ _
  refine lv_aload_n B.1 B.2.1 dX4_init_19 rfl (lv_at hl 0 rfl) ?_
  refine lv_iconst (v := nI 0) B.1 B.2.1 dX4_init_20 (by decide) ?_
  refine r_cpn B hC (i := 157) (by omega) k157_F4 tyX4 tyX4_ok nmX4 (C := RX4) (T := TX4) (n := 5) rfl iwX4_init_X4 3 (by decide) (index := 21) flX4_init_21 rfl rfl (v := .int (nI 0)) rfl rfl (Nat.le_of_ble_eq_true rfl) dX4_init_21 (fun H locs hC => ?_)
  obtain ⟨F5, eF5⟩ : ∃ f : Nat → va_E, f = va_up F4 (157) (.inr (4, [.null, .ref (ad (158)), .ref (ad (159)), .int (nI 0), .int 0])) := ⟨_, rfl⟩
  have hC : Cn g lo (160) ad F5 ss ss.heap H locs := by rw [eF5]; exact hC
  have k158_F5 : F5 (158) = .inl (g.2.2 4, 3, .inr (.inr (.inr (.inr (fun _ => none))))) := Eq.trans (by rw [eF5, va_up_ne _ _ (by omega)]) k158_F4
  have k159_F5 : F5 (159) = .inl (g.2.2 0, 2, .inl (fun _ => 0)) := Eq.trans (by rw [eF5, va_up_ne _ _ (by omega)]) k159_F4
  have ho_F5 : ∀ j, j < 157 → F5 j = F j := fun j hj => Eq.trans (by rw [eF5, va_up_ne _ _ (by omega)]) (ho_F4 j hj)
  have k157_F5 : F5 (157) = .inr (4, [.null, .ref (ad (158)), .ref (ad (159)), .int (nI 0), .int 0]) := by rw [eF5]; exact va_up_self _ _ _
  refine lv_aload_n B.1 B.2.1 dX4_init_24 rfl (lv_at hl 0 rfl) ?_
  refine lv_iconst (v := nI 0) B.1 B.2.1 dX4_init_25 (by decide) ?_
  refine r_cpn B hC (i := 157) (by omega) k157_F5 tyX4 tyX4_ok nmX4 (C := RX4) (T := TX4) (n := 5) rfl iwX4_init_X4 4 (by decide) (index := 25) flX4_init_25 rfl rfl (v := .int (nI 0)) rfl rfl (Nat.le_of_ble_eq_true rfl) dX4_init_26 (fun H locs hC => ?_)
  obtain ⟨F6, eF6⟩ : ∃ f : Nat → va_E, f = va_up F5 (157) (.inr (4, [.null, .ref (ad (158)), .ref (ad (159)), .int (nI 0), .int (nI 0)])) := ⟨_, rfl⟩
  have hC : Cn g lo (160) ad F6 ss ss.heap H locs := by rw [eF6]; exact hC
  have k158_F6 : F6 (158) = .inl (g.2.2 4, 3, .inr (.inr (.inr (.inr (fun _ => none))))) := Eq.trans (by rw [eF6, va_up_ne _ _ (by omega)]) k158_F5
  have k159_F6 : F6 (159) = .inl (g.2.2 0, 2, .inl (fun _ => 0)) := Eq.trans (by rw [eF6, va_up_ne _ _ (by omega)]) k159_F5
  have ho_F6 : ∀ j, j < 157 → F6 j = F j := fun j hj => Eq.trans (by rw [eF6, va_up_ne _ _ (by omega)]) (ho_F5 j hj)
  have k157_F6 : F6 (157) = .inr (4, [.null, .ref (ad (158)), .ref (ad (159)), .int (nI 0), .int (nI 0)]) := by rw [eF6]; exact va_up_self _ _ _
  refine lv_aload_n B.1 B.2.1 dX4_init_29 rfl (lv_at hl 0 rfl) ?_
  refine lv_aload_n B.1 B.2.1 dX4_init_30 rfl (lv_at hl 1 rfl) ?_
  refine r_cpf B (hini rfl) hC (i := 157) (by omega) k157_F6 tyX4 tyX4_ok nmX4 (T := TX4) (n := 5) rfl iwX4_init_X4 0 (by decide) (index := 29) flX4_init_29 rfl rfl (v := .ref (ad (3))) rfl rfl (Nat.le_of_ble_eq_true rfl) dX4_init_31 (fun H locs hC => ?_)
  obtain ⟨F7, eF7⟩ : ∃ f : Nat → va_E, f = va_up F6 (157) (.inr (4, [.ref (ad (3)), .ref (ad (158)), .ref (ad (159)), .int (nI 0), .int (nI 0)])) := ⟨_, rfl⟩
  have hC : Cn g lo (160) ad F7 ss ss.heap H locs := by rw [eF7]; exact hC
  have k158_F7 : F7 (158) = .inl (g.2.2 4, 3, .inr (.inr (.inr (.inr (fun _ => none))))) := Eq.trans (by rw [eF7, va_up_ne _ _ (by omega)]) k158_F6
  have k159_F7 : F7 (159) = .inl (g.2.2 0, 2, .inl (fun _ => 0)) := Eq.trans (by rw [eF7, va_up_ne _ _ (by omega)]) k159_F6
  have ho_F7 : ∀ j, j < 157 → F7 j = F j := fun j hj => Eq.trans (by rw [eF7, va_up_ne _ _ (by omega)]) (ho_F6 j hj)
  have k157_F7 : F7 (157) = .inr (4, [.ref (ad (3)), .ref (ad (158)), .ref (ad (159)), .int (nI 0), .int (nI 0)]) := by rw [eF7]; exact va_up_self _ _ _
  refine lv_iconst (v := nI 0) B.1 B.2.1 dX4_init_34 (by decide) ?_
  refine lv_istore_n (lv' := [(2, .int (nI 0)), (0, .ref (ad (157))), (1, .ref (ad (3)))]) B.1 B.2.1 dX4_init_35 rfl hl (by decide) rfl (fun ls hl => ?_)
  have loop36 : ∀ (k i : Nat) (G : Nat → va_E), i + k = 3 → G 157 = .inr (4, [.ref (ad (3)), .ref (ad (158)), .ref (ad (159)), .int (nI 0), .int (nI 0)]) → G 158 = .inl (g.2.2 4, 3, .inr (.inr (.inr (.inr (fun j => if j < i then some (ad (160 + 5 * j)) else none))))) → G 159 = .inl (g.2.2 0, 2, .inl (fun _ => 0)) → (∀ j, j < i → LoadC g ad G (160 + 5 * j) lv0) → (∀ j, j < 157 → G j = F j) → ∀ (H : Heap) (locs : List Loc) (ls : Array Slot), Cn g lo (160 + 5 * i) ad G ss ss.heap H locs → lv_has ls 3 [(2, .int (nI i)), (0, .ref (ad (157))), (1, .ref (ad (3)))] → W pp l ee { frames := 2, cells := 17, slots := 143, locals := 33 } ss mm ([.ref (ad (157)), .ref (ad (3))] : List Value).toArray below meth cc H locs (2 + 5 * i) (5 + 46 * i) (MQ below (va_Qv (fun F' => RowsC g ad F' (0, false, fun _ => some 0, fun _ => lv0) ∧ ∀ j, j < 157 → F' j = F j) (fun F' t => Wd g lo (175) ad F' t ∧ t.heap.size = ad (175)) (fun q => lo ≤ q)) ([.ref (ad (157)), .ref (ad (3))] : List Value).toArray ss 17 143 (fun q => lo ≤ q)) (F0 mm 36 ls []) := by
    intro k
    induction k with
    | zero =>
      intro i G hik hb0 h1 hx_159 hm ho H locs ls hC hl
      have hx159 := hx_159
      refine lv_iload_n B.1 B.2.1 dX4_init_36 rfl (lv_at hl 0 rfl) ?_
      refine lv_aload_n B.1 B.2.1 dX4_init_37 rfl (lv_at hl 1 rfl) ?_
      refine r_cg B hC.1 (i := 157) (by omega) hb0 (C := RX4) (T := TX4) (n := 5) rfl iwX4_init_X4 1 (by decide) (index := 11) flX4_init_11 rfl (v := .ref (ad (158))) rfl dX4_init_38 ?_
      refine r_calen B hC.1 (i := 158) (by omega) h1 4 rfl (n := 3) rfl dX4_init_41 ?_
      refine lv_icmp_ge (tgt := 64) B.1 B.2.1 dX4_init_42 (by decide) (fun _ => ?_) (fun z => absurd (nI_le (by omega) (by omega)) z)
      have hC := cn_cong (f' := fun k => some (ad (160 + 5 * k))) hC (i := 158) (by omega) h1 (fun j hj => if_pos (by omega))
      have hC : Cn g lo (175) ad (va_up G 158 (.inl (g.2.2 4, 3, .inr (.inr (.inr (.inr (fun k => some (ad (160 + 5 * k))))))))) ss ss.heap H locs := (show 160 + 5 * i = 175 by omega) ▸ hC
      obtain ⟨F21, eF21⟩ : ∃ f : Nat → va_E, f = va_up G (158) (.inl (g.2.2 4, 3, .inr (.inr (.inr (.inr (fun k => some (ad (160 + 5 * k)))))))) := ⟨_, rfl⟩
      have hC : Cn g lo (175) ad F21 ss ss.heap H locs := by rw [eF21]; exact hC
      have hb0_F21 : F21 (157) = .inr (4, [.ref (ad (3)), .ref (ad (158)), .ref (ad (159)), .int (nI 0), .int (nI 0)]) := Eq.trans (by rw [eF21, va_up_ne _ _ (by omega)]) hb0
      have hx159_F21 : F21 (159) = .inl (g.2.2 0, 2, .inl (fun _ => 0)) := Eq.trans (by rw [eF21, va_up_ne _ _ (by omega)]) hx159
      have hm_F21 : ∀ j, j < i → LoadC g ad F21 (160 + 5 * j) lv0 := fun j hj => LoadC.at (hm j hj) (fun i h1 h2 => by rw [eF21, va_up_ne _ _ (by omega)])
      have ho_F21 : ∀ j, j < 157 → F21 j = F j := fun j hj => Eq.trans (by rw [eF21, va_up_ne _ _ (by omega)]) (ho j hj)
      have k158_F21 : F21 (158) = .inl (g.2.2 4, 3, .inr (.inr (.inr (.inr (fun k => some (ad (160 + 5 * k))))))) := by rw [eF21]; exact va_up_self _ _ _
      refine W.widen (k := 17) (n := 143) (by omega) (by omega) ?_
      exact r_eN B hC (⟨⟨hb0_F21, k158_F21, hx159_F21, fun k hk => hm_F21 k (by omega)⟩, ho_F21⟩) dX4_init_64
    | succ k ih =>
      intro i G hik hb0 h1 hx_159 hm ho H locs ls hC hl
      have hx159 := hx_159
      refine lv_iload_n B.1 B.2.1 dX4_init_36 rfl (lv_at hl 0 rfl) ?_
      refine lv_aload_n B.1 B.2.1 dX4_init_37 rfl (lv_at hl 1 rfl) ?_
      refine r_cg B hC.1 (i := 157) (by omega) hb0 (C := RX4) (T := TX4) (n := 5) rfl iwX4_init_X4 1 (by decide) (index := 11) flX4_init_11 rfl (v := .ref (ad (158))) rfl dX4_init_38 ?_
      refine r_calen B hC.1 (i := 158) (by omega) h1 4 rfl (n := 3) rfl dX4_init_41 ?_
      refine lv_icmp_ge (tgt := 64) B.1 B.2.1 dX4_init_42 (by decide) (fun z => absurd z (nI_ge (by omega) (by omega))) (fun _ => ?_)
      refine lv_aload_n B.1 B.2.1 dX4_init_45 rfl (lv_at hl 1 rfl) ?_
      refine r_cg B hC.1 (i := 157) (by omega) hb0 (C := RX4) (T := TX4) (n := 5) rfl iwX4_init_X4 1 (by decide) (index := 11) flX4_init_11 rfl (v := .ref (ad (158))) rfl dX4_init_46 ?_
      refine lv_iload_n B.1 B.2.1 dX4_init_49 rfl (lv_at hl 0 rfl) ?_
      refine r_nw B hAd hlo hC 3 (C := RX3) (T := TX3) (n := 6) (index := 9) rfl iwX4_init_X3 tyX3 tyX3_ok wkX4_init_36 wkX4_init_38 wkX4_init_39 (fs := [.null, .null, .null, .null, .int 0, .int 0]) dfX3 (show _ ≤ 17 from by omega) (show _ ≤ 143 from by omega) dX4_init_50 (fun H hC => ?_)
      obtain ⟨F21, eF21⟩ : ∃ f : Nat → va_E, f = va_up G (160 + 5 * i) (.inr (3, [.null, .null, .null, .null, .int 0, .int 0])) := ⟨_, rfl⟩
      have hC : Cn g lo (160 + 5 * i + 1) ad F21 ss ss.heap H locs := by rw [eF21]; exact hC
      have hb0_F21 : F21 (157) = .inr (4, [.ref (ad (3)), .ref (ad (158)), .ref (ad (159)), .int (nI 0), .int (nI 0)]) := Eq.trans (by rw [eF21, va_up_ne _ _ (by omega)]) hb0
      have h1_F21 : F21 (158) = .inl (g.2.2 4, 3, .inr (.inr (.inr (.inr (fun j => if j < i then some (ad (160 + 5 * j)) else none))))) := Eq.trans (by rw [eF21, va_up_ne _ _ (by omega)]) h1
      have hx159_F21 : F21 (159) = .inl (g.2.2 0, 2, .inl (fun _ => 0)) := Eq.trans (by rw [eF21, va_up_ne _ _ (by omega)]) hx159
      have hm_F21 : ∀ j, j < i → LoadC g ad F21 (160 + 5 * j) lv0 := fun j hj => LoadC.at (hm j hj) (fun i h1 h2 => by rw [eF21, va_up_ne _ _ (by omega)])
      have ho_F21 : ∀ j, j < 157 → F21 j = F j := fun j hj => Eq.trans (by rw [eF21, va_up_ne _ _ (by omega)]) (ho j hj)
      have k1605i_F21 : F21 (160 + 5 * i) = .inr (3, [.null, .null, .null, .null, .int 0, .int 0]) := by rw [eF21]; exact va_up_self _ _ _
      refine lv_dup B.1 B.2.1 dX4_init_53 rfl ?_
      refine r_ci B hl.1 hXA hC (i := 160 + 5 * i) (As := []) (ctX3_init l g lo ad hAd hl0 (b := 160 + 5 * i) k1605i_F21) gX4_init_X3_init rfl wkX4_init_39 wkX4_init_40 wkX4_init_41 rfl (n := 0) rfl (by decide +kernel) ⟨Nat.le_of_ble_eq_true rfl, Nat.le_of_ble_eq_true rfl⟩ ⟨show _ ≤ 17 from by omega, show _ ≤ 143 from by omega⟩ rfl (Nat.le_of_ble_eq_true rfl) dX4_init_54 (fun F22 H locs hp22 hC => ?_)
      obtain ⟨hn, hx22⟩ := hp22
      have hC : Cn g lo (160 + 5 * i + 5) ad F22 ss ss.heap H locs := hC
      have hb0_F22 : F22 (157) = .inr (4, [.ref (ad (3)), .ref (ad (158)), .ref (ad (159)), .int (nI 0), .int (nI 0)]) := Eq.trans (hx22 157 (by omega)) hb0_F21
      have h1_F22 : F22 (158) = .inl (g.2.2 4, 3, .inr (.inr (.inr (.inr (fun j => if j < i then some (ad (160 + 5 * j)) else none))))) := Eq.trans (hx22 158 (by omega)) h1_F21
      have hx159_F22 : F22 (159) = .inl (g.2.2 0, 2, .inl (fun _ => 0)) := Eq.trans (hx22 159 (by omega)) hx159_F21
      have hm_F22 : ∀ j, j < i → LoadC g ad F22 (160 + 5 * j) lv0 := fun j hj => LoadC.at (hm_F21 j hj) (fun i h1 h2 => hx22 i (by omega))
      have ho_F22 : ∀ j, j < 157 → F22 j = F j := fun j hj => Eq.trans (hx22 j (by omega)) (ho_F21 j hj)
      refine r_caq B hC (i := 158) (by omega) h1_F22 (j := i) (by omega) (by decide) (b := 160 + 5 * i) (by omega) hn.1 dX4_init_57 (fun H locs hC => ?_)
      rw [lq_s (fun j => ad (160 + 5 * j)) i] at hC
      obtain ⟨F23, eF23⟩ : ∃ f : Nat → va_E, f = va_up F22 (158) (.inl (g.2.2 4, 3, .inr (.inr (.inr (.inr (fun j => if j < i + 1 then some (ad (160 + 5 * j)) else none)))))) := ⟨_, rfl⟩
      have hC : Cn g lo (160 + 5 * i + 5) ad F23 ss ss.heap H locs := by rw [eF23]; exact hC
      have hb0_F23 : F23 (157) = .inr (4, [.ref (ad (3)), .ref (ad (158)), .ref (ad (159)), .int (nI 0), .int (nI 0)]) := Eq.trans (by rw [eF23, va_up_ne _ _ (by omega)]) hb0_F22
      have hx159_F23 : F23 (159) = .inl (g.2.2 0, 2, .inl (fun _ => 0)) := Eq.trans (by rw [eF23, va_up_ne _ _ (by omega)]) hx159_F22
      have hm_F23 : ∀ j, j < i → LoadC g ad F23 (160 + 5 * j) lv0 := fun j hj => LoadC.at (hm_F22 j hj) (fun i h1 h2 => by rw [eF23, va_up_ne _ _ (by omega)])
      have hn_F23 : LoadC g ad F23 (160 + 5 * i) lv0 := LoadC.at hn (fun i h1 h2 => by rw [eF23, va_up_ne _ _ (by omega)])
      have ho_F23 : ∀ j, j < 157 → F23 j = F j := fun j hj => Eq.trans (by rw [eF23, va_up_ne _ _ (by omega)]) (ho_F22 j hj)
      have k158_F23 : F23 (158) = .inl (g.2.2 4, 3, .inr (.inr (.inr (.inr (fun j => if j < i + 1 then some (ad (160 + 5 * j)) else none))))) := by rw [eF23]; exact va_up_self _ _ _
      refine lv_iinc (v := nI (i + 1)) (lv' := [(2, .int (nI (i + 1))), (0, .ref (ad (157))), (1, .ref (ad (3)))]) B.1 B.2.1 dX4_init_58 hl (k := 0) rfl (nI_1 _) (by decide) rfl (fun ls hl => ?_)
      refine lv_goto (tgt := 36) B.1 B.2.1 dX4_init_61 (by decide) ?_
      refine W.widen (k := 2 + 5 * (i + 1)) (n := 5 + 46 * (i + 1)) (by omega) (by omega) ?_
      exact ih (i + 1) F23 (by omega) hb0_F23 k158_F23 hx159_F23 (fun j hj => by rcases Nat.lt_succ_iff_lt_or_eq.mp hj with z | z; exact hm_F23 j z; rw [z]; exact hn_F23) ho_F23 _ _ ls ((show 160 + 5 * i + 5 = 160 + 5 * (i + 1) by omega) ▸ hC) (lv_sub hl [0, 1, 2] rfl)
  exact loop36 3 0 F7 (by omega) k157_F7 (by rw [k158_F7]; congr) k159_F7 (fun j hj => absurd hj (Nat.not_lt_zero j)) ho_F7 _ _ ls hC (lv_sub hl [0, 1, 2] rfl)
