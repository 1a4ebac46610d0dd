/-! CONSTRUCTORS -/
theorem adn_le {ad : Nat → Nat} {lo : Nat} (h : ADN ad) (h0 : lo ≤ ad 0) : ∀ n, lo ≤ ad n
  | 0 => h0
  | n + 1 => by rw [h n]; have := adn_le h h0 n; omega
theorem cn_cong {g : Gx} {lo N : Nat} {ad : Nat → Nat} {F : Nat → va_E} {s : State} {H0 H : Heap} {locs : List Loc} {i n : Nat} {cA : ClassId} {f f' : Nat → Option Nat} (hC : Cn g lo N ad F s H0 H locs) (hi : i < N) (he : F i = .inl (cA, n, .inr (.inr (.inr (.inr f))))) (h : ∀ j, j < n → f j = f' j) : Cn g lo N ad (va_up F i (.inl (cA, n, .inr (.inr (.inr (.inr f')))))) s H0 H locs := by
  obtain ⟨⟨hK, hP, hD, hS⟩, hz⟩ := hC
  have hw : (wl N ad F)[i]? = some (ad i, .inl (cA, n, .inr (.inr (.inr (.inr f))))) := by rw [wl_at hi, he]
  refine ⟨⟨hK, ?_, ?_, hS⟩, hz⟩
  · rw [← wl_set hi]
    refine hP.set hD hw ?_ (fun q _ => rfl)
    have z := hP i _ hw
    show H[ad i]? = some (vp_cell _ _)
    rw [show H[ad i]? = some (vp_cell cA (n, .inr (.inr (.inr (.inr f))))) from z, vp_cell_q, vp_cell_q]
    congr 1
    unfold arrV
    congr 1
    congr 1
    funext j
    show va_rf (f j.val) = va_rf (f' j.val)
    rw [h j.val j.2]
  · rw [← wl_set hi]; exact hD.set hw
theorem lz_w : (fun _ : Nat => (0 : Int32)) = fun j => nI (if j < 0 then 200 else 0) := by
  funext j; rw [if_neg (Nat.not_lt_zero j)]; rfl
theorem lz_t : (fun _ : Nat => (0 : Int32)) = fun j => oI (if j < 0 then none else some 0) := by
  funext j; rw [if_neg (Nat.not_lt_zero j)]; rfl
theorem ls_w (i : Nat) : upd (fun j => nI (if j < i then 200 else 0)) i (nI 200) = fun j => nI (if j < i + 1 then 200 else 0) := by
  funext j
  show (if j = i then nI 200 else nI (if j < i then 200 else 0)) = _
  by_cases e : j = i
  · rw [if_pos e, if_pos (by omega)]
  · rw [if_neg e]
    by_cases e2 : j < i
    · rw [if_pos e2, if_pos (by omega)]
    · rw [if_neg e2, if_neg (by omega)]
theorem ls_t (i : Nat) : upd (fun j => oI (if j < i then none else some 0)) i (-9) = fun j => oI (if j < i + 1 then none else some 0) := by
  funext j
  show (if j = i then (-9 : Int32) else oI (if j < i then none else some 0)) = _
  by_cases e : j = i
  · rw [if_pos e, if_pos (by omega)]; rfl
  · rw [if_neg e]
    by_cases e2 : j < i
    · rw [if_pos e2, if_pos (by omega)]
    · rw [if_neg e2, if_neg (by omega)]
theorem lq_s (f : Nat → Nat) (i : Nat) : va_up (fun j => if j < i then some (f j) else none) i (some (f i)) = fun j => if j < i + 1 then some (f j) else none := by
  funext j
  by_cases e : j = i
  · subst e; rw [va_up_self, if_pos (by omega)]
  · rw [va_up_ne _ _ e]
    by_cases e2 : j < i
    · rw [if_pos e2, if_pos (by omega)]
    · rw [if_neg e2, if_neg (by omega)]
theorem dfX0 : ∀ j, j < 3 → defaultValue (tyX0 j) = vp_V [.null, .int 0, .int 0] j := fun j hj => by rcases (show j = 0 ∨ j = 1 ∨ j = 2 by omega) with rfl | rfl | rfl <;> rfl
theorem dfX1 : ∀ j, j < 2 → defaultValue (tyX1 j) = vp_V [.null, .long 0] j := fun j hj => by rcases (show j = 0 ∨ j = 1 by omega) with rfl | rfl <;> rfl
theorem dfX2 : ∀ j, j < 7 → defaultValue (tyX2 j) = vp_V [.null, .null, .null, .null, .int 0, .int 0, .int 0] j := fun j hj => by rcases (show j = 0 ∨ j = 1 ∨ j = 2 ∨ j = 3 ∨ j = 4 ∨ j = 5 ∨ j = 6 by omega) with rfl | rfl | rfl | rfl | rfl | rfl | rfl <;> rfl
theorem dfX3 : ∀ j, j < 6 → defaultValue (tyX3 j) = vp_V [.null, .null, .null, .null, .int 0, .int 0] j := fun j hj => by rcases (show j = 0 ∨ j = 1 ∨ j = 2 ∨ j = 3 ∨ j = 4 ∨ j = 5 by omega) with rfl | rfl | rfl | rfl | rfl | rfl <;> rfl
theorem dfX4 : ∀ j, j < 5 → defaultValue (tyX4 j) = vp_V [.null, .null, .null, .int 0, .int 0] j := fun j hj => by rcases (show j = 0 ∨ j = 1 ∨ j = 2 ∨ j = 3 ∨ j = 4 by omega) with rfl | rfl | rfl | rfl | rfl <;> rfl
theorem dfX5 : ∀ j, j < 5 → defaultValue (tyX5 j) = vp_V [.null, .null, .null, .null, .int 0] j := fun j hj => by rcases (show j = 0 ∨ j = 1 ∨ j = 2 ∨ j = 3 ∨ j = 4 by omega) with rfl | rfl | rfl | rfl | rfl <;> rfl
theorem dfX6 : ∀ j, j < 2 → defaultValue (tyX6 j) = vp_V [.null, .null] j := fun j hj => by rcases (show j = 0 ∨ j = 1 by omega) with rfl | rfl <;> rfl
theorem dfX7 : ∀ j, j < 2 → defaultValue (tyX7 j) = vp_V [.null, .int 0] j := fun j hj => by rcases (show j = 0 ∨ j = 1 by omega) with rfl | rfl <;> rfl
theorem dfX8 : ∀ j, j < 8 → defaultValue (tyX8 j) = vp_V [.null, .null, .null, .null, .null, .null, .null, .null] j := fun j hj => by rcases (show j = 0 ∨ j = 1 ∨ j = 2 ∨ j = 3 ∨ j = 4 ∨ j = 5 ∨ j = 6 ∨ j = 7 by omega) with rfl | rfl | rfl | rfl | rfl | rfl | rfl | rfl <;> rfl
theorem dfX9 : ∀ j, j < 35 → defaultValue (tyX9 j) = vp_V [.null, .null, .null, .null, .null, .int 0, .int 0, .int 0, .null, .null, .null, .null, .int 0, .int 0, .int 0, .null, .int 0, .int 0, .int 0, .null, .null, .null, .int 0, .int 0, .int 0, .int 0, .null, .null, .int 0, .int 0, .null, .null, .null, .null, .null] j := fun j hj => by rcases (show j = 0 ∨ j = 1 ∨ j = 2 ∨ j = 3 ∨ j = 4 ∨ j = 5 ∨ j = 6 ∨ j = 7 ∨ j = 8 ∨ j = 9 ∨ j = 10 ∨ j = 11 ∨ j = 12 ∨ j = 13 ∨ j = 14 ∨ j = 15 ∨ j = 16 ∨ j = 17 ∨ j = 18 ∨ j = 19 ∨ j = 20 ∨ j = 21 ∨ j = 22 ∨ j = 23 ∨ j = 24 ∨ j = 25 ∨ j = 26 ∨ j = 27 ∨ j = 28 ∨ j = 29 ∨ j = 30 ∨ j = 31 ∨ j = 32 ∨ j = 33 ∨ j = 34 by omega) with rfl | rfl | rfl | rfl | rfl | rfl | rfl | rfl | rfl | rfl | rfl | rfl | rfl | rfl | rfl | rfl | rfl | rfl | rfl | rfl | rfl | rfl | rfl | rfl | rfl | rfl | rfl | rfl | rfl | rfl | rfl | rfl | rfl | rfl | rfl <;> rfl
theorem wkX3_init_0 : Cond.methodLink RX3 3 objectInit ∈ wsX3_init := by decide +kernel
theorem wkX3_init_1 : Cond.instanceMethod objectInit ∈ wsX3_init := by decide +kernel
theorem wkX3_init_2 : Cond.code objectInit ⟨#[0xb1]⟩ 1 none ∈ wsX3_init := by decide +kernel
theorem wkX3_init_3 : Cond.arrayClass .int ∈ wsX3_init := by decide +kernel
theorem iwX3_init_X3 : ∀ w ∈ u_ws RX3 TX3 6, w ∈ wsX3_init := by decide +kernel
theorem flX3_init_9 : Cond.fieldLink RX3 9 RX3 (TX3 0).2.1 (TX3 0).2.2.1 ∈ wsX3_init := by decide +kernel
theorem flX3_init_15 : Cond.fieldLink RX3 15 RX3 (TX3 1).2.1 (TX3 1).2.2.1 ∈ wsX3_init := by decide +kernel
theorem flX3_init_18 : Cond.fieldLink RX3 18 RX3 (TX3 2).2.1 (TX3 2).2.2.1 ∈ wsX3_init := by decide +kernel
theorem flX3_init_21 : Cond.fieldLink RX3 21 RX3 (TX3 3).2.1 (TX3 3).2.2.1 ∈ wsX3_init := by decide +kernel
theorem flX3_init_24 : Cond.fieldLink RX3 24 RX3 (TX3 4).2.1 (TX3 4).2.2.1 ∈ wsX3_init := by decide +kernel
theorem flX3_init_28 : Cond.fieldLink RX3 28 RX3 (TX3 5).2.1 (TX3 5).2.2.1 ∈ wsX3_init := by decide +kernel
set_option maxHeartbeats 4000000 in
set_option maxRecDepth 100000 in
theorem ctX3_init (l : Launch) (g : Gx) (lo : Nat) (ad : Nat → Nat) (hAd : ADN ad) (hl0 : lo ≤ ad 0) {F : Nat → va_E} {b : Nat} (hF : F (b) = .inr (3, [.null, .null, .null, .null, .int 0, .int 0])) : MN l g lo (b + 1) (b + 5) ad yX3_init wsX3_init 1 12 4 40 [.ref (ad (b))] F (fun F' => LoadC g ad F' b lv0 ∧ ∀ j, j < b → F' j = F j) := by
  refine enterN (cc := cX3_init) (maxL := 2) (ret := none) (own := RX3) (by decide +kernel) rfl rfl (Nat.le_of_ble_eq_true rfl) (adn_le hAd hl0 _) ?_
  intro pp ee ss mm below meth cc B hini hC hXA hlo ls hl
  have hl : lv_has ls 2 [(0, .ref (ad (b)))] := hl
  have ho : ∀ j, j < b → F j = F j := fun _ _ => rfl
  refine lv_aload_n B.1 B.2.1 dX3_init_0 rfl (lv_at hl 0 rfl) ?_
  refine r_oi B hl.1 (index := 3) wkX3_init_0 wkX3_init_1 wkX3_init_2 dX3_init_1 (Nat.le_of_ble_eq_true rfl) (Nat.le_of_ble_eq_true rfl) ?_
  refine lv_aload_n B.1 B.2.1 dX3_init_4 rfl (lv_at hl 0 rfl) ?_
  refine lv_bipush (v := nI 10) B.1 B.2.1 dX3_init_5 (by decide) ?_
  refine r_na (atype := .int) (ty := .int) B hAd hlo hC 0 rfl wkX3_init_3 rfl (n := 10) (a0 := (10, .inl (fun _ => 0))) (fun _ => rfl) (by decide) (by decide) (show _ ≤ 4 from by omega) (show _ ≤ 40 from by omega) dX3_init_7 (fun H hC => ?_)
  obtain ⟨F1, eF1⟩ : ∃ f : Nat → va_E, f = va_up F (b + 1) (.inl (g.2.2 0, 10, .inl (fun _ => 0))) := ⟨_, rfl⟩
  have hC : Cn g lo (b + 2) ad F1 ss ss.heap H [] := by rw [eF1]; exact hC
  have hF_F1 : F1 (b) = .inr (3, [.null, .null, .null, .null, .int 0, .int 0]) := Eq.trans (by rw [eF1, va_up_ne _ _ (by omega)]) hF
  have ho_F1 : ∀ j, j < b → F1 j = F j := fun j hj => Eq.trans (by rw [eF1, va_up_ne _ _ (by omega)]) (ho j hj)
  have kb1_F1 : F1 (b + 1) = .inl (g.2.2 0, 10, .inl (fun _ => 0)) := by rw [eF1]; exact va_up_self _ _ _
  refine r_cpf B (hini rfl) hC (i := b) (by omega) hF_F1 tyX3 tyX3_ok nmX3 (T := TX3) (n := 6) rfl iwX3_init_X3 0 (by decide) (index := 9) flX3_init_9 rfl rfl (v := .ref (ad (b + 1))) rfl rfl (Nat.le_of_ble_eq_true rfl) dX3_init_9 (fun H locs hC => ?_)
  obtain ⟨F2, eF2⟩ : ∃ f : Nat → va_E, f = va_up F1 (b) (.inr (3, [.ref (ad (b + 1)), .null, .null, .null, .int 0, .int 0])) := ⟨_, rfl⟩
  have hC : Cn g lo (b + 2) ad F2 ss ss.heap H locs := by rw [eF2]; exact hC
  have kb1_F2 : F2 (b + 1) = .inl (g.2.2 0, 10, .inl (fun _ => 0)) := Eq.trans (by rw [eF2, va_up_ne _ _ (by omega)]) kb1_F1
  have ho_F2 : ∀ j, j < b → F2 j = F j := fun j hj => Eq.trans (by rw [eF2, va_up_ne _ _ (by omega)]) (ho_F1 j hj)
  have kb_F2 : F2 (b) = .inr (3, [.ref (ad (b + 1)), .null, .null, .null, .int 0, .int 0]) := by rw [eF2]; exact va_up_self _ _ _
  refine lv_aload_n B.1 B.2.1 dX3_init_12 rfl (lv_at hl 0 rfl) ?_
  refine lv_bipush (v := nI 10) B.1 B.2.1 dX3_init_13 (by decide) ?_
  refine r_na (atype := .int) (ty := .int) B hAd hlo hC 0 rfl wkX3_init_3 rfl (n := 10) (a0 := (10, .inl (fun _ => 0))) (fun _ => rfl) (by decide) (by decide) (show _ ≤ 4 from by omega) (show _ ≤ 40 from by omega) dX3_init_15 (fun H hC => ?_)
  obtain ⟨F3, eF3⟩ : ∃ f : Nat → va_E, f = va_up F2 (b + 2) (.inl (g.2.2 0, 10, .inl (fun _ => 0))) := ⟨_, rfl⟩
  have hC : Cn g lo (b + 3) ad F3 ss ss.heap H locs := by rw [eF3]; exact hC
  have kb1_F3 : F3 (b + 1) = .inl (g.2.2 0, 10, .inl (fun _ => 0)) := Eq.trans (by rw [eF3, va_up_ne _ _ (by omega)]) kb1_F2
  have kb_F3 : F3 (b) = .inr (3, [.ref (ad (b + 1)), .null, .null, .null, .int 0, .int 0]) := Eq.trans (by rw [eF3, va_up_ne _ _ (by omega)]) kb_F2
  have ho_F3 : ∀ j, j < b → F3 j = F j := fun j hj => Eq.trans (by rw [eF3, va_up_ne _ _ (by omega)]) (ho_F2 j hj)
  have kb2_F3 : F3 (b + 2) = .inl (g.2.2 0, 10, .inl (fun _ => 0)) := by rw [eF3]; exact va_up_self _ _ _
  refine r_cpf B (hini rfl) hC (i := b) (by omega) kb_F3 tyX3 tyX3_ok nmX3 (T := TX3) (n := 6) rfl iwX3_init_X3 1 (by decide) (index := 15) flX3_init_15 rfl rfl (v := .ref (ad (b + 2))) rfl rfl (Nat.le_of_ble_eq_true rfl) dX3_init_17 (fun H locs hC => ?_)
  obtain ⟨F4, eF4⟩ : ∃ f : Nat → va_E, f = va_up F3 (b) (.inr (3, [.ref (ad (b + 1)), .ref (ad (b + 2)), .null, .null, .int 0, .int 0])) := ⟨_, rfl⟩
  have hC : Cn g lo (b + 3) ad F4 ss ss.heap H locs := by rw [eF4]; exact hC
  have kb1_F4 : F4 (b + 1) = .inl (g.2.2 0, 10, .inl (fun _ => 0)) := Eq.trans (by rw [eF4, va_up_ne _ _ (by omega)]) kb1_F3
  have kb2_F4 : F4 (b + 2) = .inl (g.2.2 0, 10, .inl (fun _ => 0)) := Eq.trans (by rw [eF4, va_up_ne _ _ (by omega)]) kb2_F3
  have ho_F4 : ∀ j, j < b → F4 j = F j := fun j hj => Eq.trans (by rw [eF4, va_up_ne _ _ (by omega)]) (ho_F3 j hj)
  have kb_F4 : F4 (b) = .inr (3, [.ref (ad (b + 1)), .ref (ad (b + 2)), .null, .null, .int 0, .int 0]) := by rw [eF4]; exact va_up_self _ _ _
  refine lv_aload_n B.1 B.2.1 dX3_init_20 rfl (lv_at hl 0 rfl) ?_
  refine lv_bipush (v := nI 10) B.1 B.2.1 dX3_init_21 (by decide) ?_
  refine r_na (atype := .int) (ty := .int) B hAd hlo hC 0 rfl wkX3_init_3 rfl (n := 10) (a0 := (10, .inl (fun _ => 0))) (fun _ => rfl) (by decide) (by decide) (show _ ≤ 4 from by omega) (show _ ≤ 40 from by omega) dX3_init_23 (fun H hC => ?_)
  obtain ⟨F5, eF5⟩ : ∃ f : Nat → va_E, f = va_up F4 (b + 3) (.inl (g.2.2 0, 10, .inl (fun _ => 0))) := ⟨_, rfl⟩
  have hC : Cn g lo (b + 4) ad F5 ss ss.heap H locs := by rw [eF5]; exact hC
  have kb1_F5 : F5 (b + 1) = .inl (g.2.2 0, 10, .inl (fun _ => 0)) := Eq.trans (by rw [eF5, va_up_ne _ _ (by omega)]) kb1_F4
  have kb2_F5 : F5 (b + 2) = .inl (g.2.2 0, 10, .inl (fun _ => 0)) := Eq.trans (by rw [eF5, va_up_ne _ _ (by omega)]) kb2_F4
  have kb_F5 : F5 (b) = .inr (3, [.ref (ad (b + 1)), .ref (ad (b + 2)), .null, .null, .int 0, .int 0]) := Eq.trans (by rw [eF5, va_up_ne _ _ (by omega)]) kb_F4
  have ho_F5 : ∀ j, j < b → F5 j = F j := fun j hj => Eq.trans (by rw [eF5, va_up_ne _ _ (by omega)]) (ho_F4 j hj)
  have kb3_F5 : F5 (b + 3) = .inl (g.2.2 0, 10, .inl (fun _ => 0)) := by rw [eF5]; exact va_up_self _ _ _
  refine r_cpf B (hini rfl) hC (i := b) (by omega) kb_F5 tyX3 tyX3_ok nmX3 (T := TX3) (n := 6) rfl iwX3_init_X3 2 (by decide) (index := 18) flX3_init_18 rfl rfl (v := .ref (ad (b + 3))) rfl rfl (Nat.le_of_ble_eq_true rfl) dX3_init_25 (fun H locs hC => ?_)
  obtain ⟨F6, eF6⟩ : ∃ f : Nat → va_E, f = va_up F5 (b) (.inr (3, [.ref (ad (b + 1)), .ref (ad (b + 2)), .ref (ad (b + 3)), .null, .int 0, .int 0])) := ⟨_, rfl⟩
  have hC : Cn g lo (b + 4) ad F6 ss ss.heap H locs := by rw [eF6]; exact hC
  have kb1_F6 : F6 (b + 1) = .inl (g.2.2 0, 10, .inl (fun _ => 0)) := Eq.trans (by rw [eF6, va_up_ne _ _ (by omega)]) kb1_F5
  have kb2_F6 : F6 (b + 2) = .inl (g.2.2 0, 10, .inl (fun _ => 0)) := Eq.trans (by rw [eF6, va_up_ne _ _ (by omega)]) kb2_F5
  have kb3_F6 : F6 (b + 3) = .inl (g.2.2 0, 10, .inl (fun _ => 0)) := Eq.trans (by rw [eF6, va_up_ne _ _ (by omega)]) kb3_F5
  have ho_F6 : ∀ j, j < b → F6 j = F j := fun j hj => Eq.trans (by rw [eF6, va_up_ne _ _ (by omega)]) (ho_F5 j hj)
  have kb_F6 : F6 (b) = .inr (3, [.ref (ad (b + 1)), .ref (ad (b + 2)), .ref (ad (b + 3)), .null, .int 0, .int 0]) := by rw [eF6]; exact va_up_self _ _ _
  refine lv_aload_n B.1 B.2.1 dX3_init_28 rfl (lv_at hl 0 rfl) ?_
  refine lv_bipush (v := nI 10) B.1 B.2.1 dX3_init_29 (by decide) ?_
  refine r_na (atype := .int) (ty := .int) B hAd hlo hC 0 rfl wkX3_init_3 rfl (n := 10) (a0 := (10, .inl (fun _ => 0))) (fun _ => rfl) (by decide) (by decide) (show _ ≤ 4 from by omega) (show _ ≤ 40 from by omega) dX3_init_31 (fun H hC => ?_)
  obtain ⟨F7, eF7⟩ : ∃ f : Nat → va_E, f = va_up F6 (b + 4) (.inl (g.2.2 0, 10, .inl (fun _ => 0))) := ⟨_, rfl⟩
  have hC : Cn g lo (b + 5) ad F7 ss ss.heap H locs := by rw [eF7]; exact hC
  have kb1_F7 : F7 (b + 1) = .inl (g.2.2 0, 10, .inl (fun _ => 0)) := Eq.trans (by rw [eF7, va_up_ne _ _ (by omega)]) kb1_F6
  have kb2_F7 : F7 (b + 2) = .inl (g.2.2 0, 10, .inl (fun _ => 0)) := Eq.trans (by rw [eF7, va_up_ne _ _ (by omega)]) kb2_F6
  have kb3_F7 : F7 (b + 3) = .inl (g.2.2 0, 10, .inl (fun _ => 0)) := Eq.trans (by rw [eF7, va_up_ne _ _ (by omega)]) kb3_F6
  have kb_F7 : F7 (b) = .inr (3, [.ref (ad (b + 1)), .ref (ad (b + 2)), .ref (ad (b + 3)), .null, .int 0, .int 0]) := Eq.trans (by rw [eF7, va_up_ne _ _ (by omega)]) kb_F6
  have ho_F7 : ∀ j, j < b → F7 j = F j := fun j hj => Eq.trans (by rw [eF7, va_up_ne _ _ (by omega)]) (ho_F6 j hj)
  have kb4_F7 : F7 (b + 4) = .inl (g.2.2 0, 10, .inl (fun _ => 0)) := by rw [eF7]; exact va_up_self _ _ _
  refine r_cpf B (hini rfl) hC (i := b) (by omega) kb_F7 tyX3 tyX3_ok nmX3 (T := TX3) (n := 6) rfl iwX3_init_X3 3 (by decide) (index := 21) flX3_init_21 rfl rfl (v := .ref (ad (b + 4))) rfl rfl (Nat.le_of_ble_eq_true rfl) dX3_init_33 (fun H locs hC => ?_)
  obtain ⟨F8, eF8⟩ : ∃ f : Nat → va_E, f = va_up F7 (b) (.inr (3, [.ref (ad (b + 1)), .ref (ad (b + 2)), .ref (ad (b + 3)), .ref (ad (b + 4)), .int 0, .int 0])) := ⟨_, rfl⟩
  have hC : Cn g lo (b + 5) ad F8 ss ss.heap H locs := by rw [eF8]; exact hC
  have kb1_F8 : F8 (b + 1) = .inl (g.2.2 0, 10, .inl (fun _ => 0)) := Eq.trans (by rw [eF8, va_up_ne _ _ (by omega)]) kb1_F7
  have kb2_F8 : F8 (b + 2) = .inl (g.2.2 0, 10, .inl (fun _ => 0)) := Eq.trans (by rw [eF8, va_up_ne _ _ (by omega)]) kb2_F7
  have kb3_F8 : F8 (b + 3) = .inl (g.2.2 0, 10, .inl (fun _ => 0)) := Eq.trans (by rw [eF8, va_up_ne _ _ (by omega)]) kb3_F7
  have kb4_F8 : F8 (b + 4) = .inl (g.2.2 0, 10, .inl (fun _ => 0)) := Eq.trans (by rw [eF8, va_up_ne _ _ (by omega)]) kb4_F7
  have ho_F8 : ∀ j, j < b → F8 j = F j := fun j hj => Eq.trans (by rw [eF8, va_up_ne _ _ (by omega)]) (ho_F7 j hj)
  have kb_F8 : F8 (b) = .inr (3, [.ref (ad (b + 1)), .ref (ad (b + 2)), .ref (ad (b + 3)), .ref (ad (b + 4)), .int 0, .int 0]) := by rw [eF8]; exact va_up_self _ _ _
  refine lv_aload_n B.1 B.2.1 dX3_init_36 rfl (lv_at hl 0 rfl) ?_
  refine lv_iconst (v := nI 0) B.1 B.2.1 dX3_init_37 (by decide) ?_
  refine r_cpn B hC (i := b) (by omega) kb_F8 tyX3 tyX3_ok nmX3 (C := RX3) (T := TX3) (n := 6) rfl iwX3_init_X3 4 (by decide) (index := 24) flX3_init_24 rfl rfl (v := .int (nI 0)) rfl rfl (Nat.le_of_ble_eq_true rfl) dX3_init_38 (fun H locs hC => ?_)
  obtain ⟨F9, eF9⟩ : ∃ f : Nat → va_E, f = va_up F8 (b) (.inr (3, [.ref (ad (b + 1)), .ref (ad (b + 2)), .ref (ad (b + 3)), .ref (ad (b + 4)), .int (nI 0), .int 0])) := ⟨_, rfl⟩
  have hC : Cn g lo (b + 5) ad F9 ss ss.heap H locs := by rw [eF9]; exact hC
  have kb1_F9 : F9 (b + 1) = .inl (g.2.2 0, 10, .inl (fun _ => 0)) := Eq.trans (by rw [eF9, va_up_ne _ _ (by omega)]) kb1_F8
  have kb2_F9 : F9 (b + 2) = .inl (g.2.2 0, 10, .inl (fun _ => 0)) := Eq.trans (by rw [eF9, va_up_ne _ _ (by omega)]) kb2_F8
  have kb3_F9 : F9 (b + 3) = .inl (g.2.2 0, 10, .inl (fun _ => 0)) := Eq.trans (by rw [eF9, va_up_ne _ _ (by omega)]) kb3_F8
  have kb4_F9 : F9 (b + 4) = .inl (g.2.2 0, 10, .inl (fun _ => 0)) := Eq.trans (by rw [eF9, va_up_ne _ _ (by omega)]) kb4_F8
  have ho_F9 : ∀ j, j < b → F9 j = F j := fun j hj => Eq.trans (by rw [eF9, va_up_ne _ _ (by omega)]) (ho_F8 j hj)
  have kb_F9 : F9 (b) = .inr (3, [.ref (ad (b + 1)), .ref (ad (b + 2)), .ref (ad (b + 3)), .ref (ad (b + 4)), .int (nI 0), .int 0]) := by rw [eF9]; exact va_up_self _ _ _
  refine lv_aload_n B.1 B.2.1 dX3_init_41 rfl (lv_at hl 0 rfl) ?_
  refine lv_iconst (v := nI 0) B.1 B.2.1 dX3_init_42 (by decide) ?_
  refine r_cpn B hC (i := b) (by omega) kb_F9 tyX3 tyX3_ok nmX3 (C := RX3) (T := TX3) (n := 6) rfl iwX3_init_X3 5 (by decide) (index := 28) flX3_init_28 rfl rfl (v := .int (nI 0)) rfl rfl (Nat.le_of_ble_eq_true rfl) dX3_init_43 (fun H locs hC => ?_)
  obtain ⟨F10, eF10⟩ : ∃ f : Nat → va_E, f = va_up F9 (b) (.inr (3, [.ref (ad (b + 1)), .ref (ad (b + 2)), .ref (ad (b + 3)), .ref (ad (b + 4)), .int (nI 0), .int (nI 0)])) := ⟨_, rfl⟩
  have hC : Cn g lo (b + 5) ad F10 ss ss.heap H locs := by rw [eF10]; exact hC
  have kb1_F10 : F10 (b + 1) = .inl (g.2.2 0, 10, .inl (fun _ => 0)) := Eq.trans (by rw [eF10, va_up_ne _ _ (by omega)]) kb1_F9
  have kb2_F10 : F10 (b + 2) = .inl (g.2.2 0, 10, .inl (fun _ => 0)) := Eq.trans (by rw [eF10, va_up_ne _ _ (by omega)]) kb2_F9
  have kb3_F10 : F10 (b + 3) = .inl (g.2.2 0, 10, .inl (fun _ => 0)) := Eq.trans (by rw [eF10, va_up_ne _ _ (by omega)]) kb3_F9
  have kb4_F10 : F10 (b + 4) = .inl (g.2.2 0, 10, .inl (fun _ => 0)) := Eq.trans (by rw [eF10, va_up_ne _ _ (by omega)]) kb4_F9
  have ho_F10 : ∀ j, j < b → F10 j = F j := fun j hj => Eq.trans (by rw [eF10, va_up_ne _ _ (by omega)]) (ho_F9 j hj)
  have kb_F10 : F10 (b) = .inr (3, [.ref (ad (b + 1)), .ref (ad (b + 2)), .ref (ad (b + 3)), .ref (ad (b + 4)), .int (nI 0), .int (nI 0)]) := by rw [eF10]; exact va_up_self _ _ _
  refine lv_iconst (v := nI 0) B.1 B.2.1 dX3_init_46 (by decide) ?_
  refine lv_istore_n (lv' := [(1, .int (nI 0)), (0, .ref (ad (b)))]) B.1 B.2.1 dX3_init_47 rfl hl (by decide) rfl (fun ls hl => ?_)
  have loop48 : ∀ (k i : Nat) (G : Nat → va_E), i + k = 10 → G b = .inr (3, [.ref (ad (b + 1)), .ref (ad (b + 2)), .ref (ad (b + 3)), .ref (ad (b + 4)), .int (nI 0), .int (nI 0)]) → G (b + 1) = .inl (g.2.2 0, 10, .inl (fun j => nI (if j < i then 200 else 0))) → G (b + 2) = .inl (g.2.2 0, 10, .inl (fun _ => 0)) → G (b + 3) = .inl (g.2.2 0, 10, .inl (fun _ => 0)) → G (b + 4) = .inl (g.2.2 0, 10, .inl (fun j => oI (if j < i then none else some 0))) → (∀ j, j < b → G j = F j) → ∀ (H : Heap) (locs : List Loc) (ls : Array Slot), Cn g lo (b + 5) ad G ss ss.heap H locs → lv_has ls 2 [(1, .int (nI i)), (0, .ref (ad (b)))] → W pp l ee { frames := 1, cells := 4, slots := 40, locals := 12 } ss mm ([.ref (ad (b))] : List Value).toArray below meth cc H locs 4 40 (MQ below (va_Qv (fun F' => LoadC g ad F' b lv0 ∧ ∀ j, j < b → F' j = F j) (fun F' t => Wd g lo (b + 5) ad F' t ∧ t.heap.size = ad (b + 5)) (fun q => lo ≤ q)) ([.ref (ad (b))] : List Value).toArray ss 4 40 (fun q => lo ≤ q)) (F0 mm 48 ls []) := by
    intro k
    induction k with
    | zero =>
      intro i G hik hb0 h1 h2 h3 h4 ho H locs ls hC hl
      refine lv_iload_n B.1 B.2.1 dX3_init_48 rfl (lv_at hl 0 rfl) ?_
      refine lv_bipush (v := nI 10) B.1 B.2.1 dX3_init_49 (by decide) ?_
      refine lv_icmp_ge (tgt := 77) B.1 B.2.1 dX3_init_51 (by decide) (fun _ => ?_) (fun z => absurd (nI_le (by omega) (by omega)) z)
      exact r_eN B hC (⟨⟨hb0, by rw [h1, show i = 10 by omega]; rfl, h2, h3, by rw [h4, show i = 10 by omega]; rfl⟩, ho⟩) dX3_init_77
    | succ k ih =>
      intro i G hik hb0 h1 h2 h3 h4 ho H locs ls hC hl
      refine lv_iload_n B.1 B.2.1 dX3_init_48 rfl (lv_at hl 0 rfl) ?_
      refine lv_bipush (v := nI 10) B.1 B.2.1 dX3_init_49 (by decide) ?_
      refine lv_icmp_ge (tgt := 77) B.1 B.2.1 dX3_init_51 (by decide) (fun z => absurd z (nI_ge (by omega) (by omega))) (fun _ => ?_)
      refine lv_aload_n B.1 B.2.1 dX3_init_54 rfl (lv_at hl 1 rfl) ?_
      refine r_cg B hC.1 (i := b) (by omega) hb0 (C := RX3) (T := TX3) (n := 6) rfl iwX3_init_X3 0 (by decide) (index := 9) flX3_init_9 rfl (v := .ref (ad (b + 1))) rfl dX3_init_55 ?_
      refine lv_iload_n B.1 B.2.1 dX3_init_58 rfl (lv_at hl 0 rfl) ?_
      refine lv_sipush (v := nI 200) B.1 B.2.1 dX3_init_59 (by decide) ?_
      refine r_can B hC (i := b + 1) (by omega) h1 (j := i) (by omega) (by decide) dX3_init_62 (fun H locs hC => ?_)
      rw [ls_w] at hC
      obtain ⟨F21, eF21⟩ : ∃ f : Nat → va_E, f = va_up G (b + 1) (.inl (g.2.2 0, 10, .inl (fun j => nI (if j < i + 1 then 200 else 0)))) := ⟨_, rfl⟩
      have hC : Cn g lo (b + 5) ad F21 ss ss.heap H locs := by rw [eF21]; exact hC
      have hb0_F21 : F21 (b) = .inr (3, [.ref (ad (b + 1)), .ref (ad (b + 2)), .ref (ad (b + 3)), .ref (ad (b + 4)), .int (nI 0), .int (nI 0)]) := Eq.trans (by rw [eF21, va_up_ne _ _ (by omega)]) hb0
      have h2_F21 : F21 (b + 2) = .inl (g.2.2 0, 10, .inl (fun _ => 0)) := Eq.trans (by rw [eF21, va_up_ne _ _ (by omega)]) h2
      have h3_F21 : F21 (b + 3) = .inl (g.2.2 0, 10, .inl (fun _ => 0)) := Eq.trans (by rw [eF21, va_up_ne _ _ (by omega)]) h3
      have h4_F21 : F21 (b + 4) = .inl (g.2.2 0, 10, .inl (fun j => oI (if j < i then none else some 0))) := Eq.trans (by rw [eF21, va_up_ne _ _ (by omega)]) h4
      have ho_F21 : ∀ j, j < b → F21 j = F j := fun j hj => Eq.trans (by rw [eF21, va_up_ne _ _ (by omega)]) (ho j hj)
      have kb1_F21 : F21 (b + 1) = .inl (g.2.2 0, 10, .inl (fun j => nI (if j < i + 1 then 200 else 0))) := by rw [eF21]; exact va_up_self _ _ _
      refine lv_aload_n B.1 B.2.1 dX3_init_63 rfl (lv_at hl 1 rfl) ?_
      refine r_cg B hC.1 (i := b) (by omega) hb0_F21 (C := RX3) (T := TX3) (n := 6) rfl iwX3_init_X3 3 (by decide) (index := 21) flX3_init_21 rfl (v := .ref (ad (b + 4))) rfl dX3_init_64 ?_
      refine lv_iload_n B.1 B.2.1 dX3_init_67 rfl (lv_at hl 0 rfl) ?_
      refine lv_bipush (v := (-9)) B.1 B.2.1 dX3_init_68 (by decide) ?_
      refine r_can B hC (i := b + 4) (by omega) h4_F21 (j := i) (by omega) (by decide) dX3_init_70 (fun H locs hC => ?_)
      rw [ls_t] at hC
      obtain ⟨F22, eF22⟩ : ∃ f : Nat → va_E, f = va_up F21 (b + 4) (.inl (g.2.2 0, 10, .inl (fun j => oI (if j < i + 1 then none else some 0)))) := ⟨_, rfl⟩
      have hC : Cn g lo (b + 5) ad F22 ss ss.heap H locs := by rw [eF22]; exact hC
      have hb0_F22 : F22 (b) = .inr (3, [.ref (ad (b + 1)), .ref (ad (b + 2)), .ref (ad (b + 3)), .ref (ad (b + 4)), .int (nI 0), .int (nI 0)]) := Eq.trans (by rw [eF22, va_up_ne _ _ (by omega)]) hb0_F21
      have h2_F22 : F22 (b + 2) = .inl (g.2.2 0, 10, .inl (fun _ => 0)) := Eq.trans (by rw [eF22, va_up_ne _ _ (by omega)]) h2_F21
      have h3_F22 : F22 (b + 3) = .inl (g.2.2 0, 10, .inl (fun _ => 0)) := Eq.trans (by rw [eF22, va_up_ne _ _ (by omega)]) h3_F21
      have kb1_F22 : F22 (b + 1) = .inl (g.2.2 0, 10, .inl (fun j => nI (if j < i + 1 then 200 else 0))) := Eq.trans (by rw [eF22, va_up_ne _ _ (by omega)]) kb1_F21
      have ho_F22 : ∀ j, j < b → F22 j = F j := fun j hj => Eq.trans (by rw [eF22, va_up_ne _ _ (by omega)]) (ho_F21 j hj)
      have kb4_F22 : F22 (b + 4) = .inl (g.2.2 0, 10, .inl (fun j => oI (if j < i + 1 then none else some 0))) := by rw [eF22]; exact va_up_self _ _ _
      refine lv_iinc (v := nI (i + 1)) (lv' := [(1, .int (nI (i + 1))), (0, .ref (ad (b)))]) B.1 B.2.1 dX3_init_71 hl (k := 0) rfl (nI_1 _) (by decide) rfl (fun ls hl => ?_)
      refine lv_goto (tgt := 48) B.1 B.2.1 dX3_init_74 (by decide) ?_
      exact ih (i + 1) F22 (by omega) hb0_F22 kb1_F22 h2_F22 h3_F22 kb4_F22 ho_F22 _ _ ls hC (lv_sub hl [0, 1] rfl)
  exact loop48 10 0 F10 (by omega) kb_F10 (by rw [kb1_F10, lz_w]) kb2_F10 kb3_F10 (by rw [kb4_F10, lz_t]) ho_F10 _ _ ls hC (lv_sub hl [0, 1] rfl)
theorem wkX7_init_4 : Cond.methodLink RX7 3 objectInit ∈ wsX7_init := by decide +kernel
theorem wkX7_init_5 : Cond.instanceMethod objectInit ∈ wsX7_init := by decide +kernel
theorem wkX7_init_6 : Cond.code objectInit ⟨#[0xb1]⟩ 1 none ∈ wsX7_init := by decide +kernel
theorem wkX7_init_7 : Cond.arrayClass .byte ∈ wsX7_init := by decide +kernel
theorem iwX7_init_X7 : ∀ w ∈ u_ws RX7 TX7 2, w ∈ wsX7_init := by decide +kernel
theorem flX7_init_9 : Cond.fieldLink RX7 9 RX7 (TX7 0).2.1 (TX7 0).2.2.1 ∈ wsX7_init := by decide +kernel
theorem flX7_init_15 : Cond.fieldLink RX7 15 RX7 (TX7 1).2.1 (TX7 1).2.2.1 ∈ wsX7_init := by decide +kernel
set_option maxHeartbeats 4000000 in
set_option maxRecDepth 100000 in
theorem ctX7_init (l : Launch) (g : Gx) (lo : Nat) (ad : Nat → Nat) (hAd : ADN ad) (hl0 : lo ≤ ad 0) {F : Nat → va_E} (hF : F (1) = .inr (7, [.null, .int 0])) : MN l g lo (2) (3) ad yX7_init wsX7_init 1 12 1 72 [.ref (ad (1))] F (fun F' => TextC g ad F' (fun _ => 0, 0) ∧ ∀ j, j < 1 → F' j = F j) := by
  refine enterN (cc := cX7_init) (maxL := 1) (ret := none) (own := RX7) (by decide +kernel) rfl rfl (Nat.le_of_ble_eq_true rfl) (adn_le hAd hl0 _) ?_
  intro pp ee ss mm below meth cc B hini hC hXA hlo ls hl
  have hl : lv_has ls 1 [(0, .ref (ad (1)))] := hl
  have ho : ∀ j, j < 1 → F j = F j := fun _ _ => rfl
  refine lv_aload_n B.1 B.2.1 dX7_init_0 rfl (lv_at hl 0 rfl) ?_
  refine r_oi B hl.1 (index := 3) wkX7_init_4 wkX7_init_5 wkX7_init_6 dX7_init_1 (Nat.le_of_ble_eq_true rfl) (Nat.le_of_ble_eq_true rfl) ?_
  refine lv_aload_n B.1 B.2.1 dX7_init_4 rfl (lv_at hl 0 rfl) ?_
  refine lv_bipush (v := nI 72) B.1 B.2.1 dX7_init_5 (by decide) ?_
  refine r_na (atype := .byte) (ty := .byte) B hAd hlo hC 1 rfl wkX7_init_7 rfl (n := 72) (a0 := (72, .inl (fun _ => 0))) (fun _ => rfl) (by decide) (by decide) (show _ ≤ 1 from by omega) (show _ ≤ 72 from by omega) dX7_init_7 (fun H hC => ?_)
  obtain ⟨F1, eF1⟩ : ∃ f : Nat → va_E, f = va_up F (2) (.inl (g.2.2 1, 72, .inl (fun _ => 0))) := ⟨_, rfl⟩
  have hC : Cn g lo (3) ad F1 ss ss.heap H [] := by rw [eF1]; exact hC
  have hF_F1 : F1 (1) = .inr (7, [.null, .int 0]) := Eq.trans (by rw [eF1, va_up_ne _ _ (by omega)]) hF
  have ho_F1 : ∀ j, j < 1 → F1 j = F j := fun j hj => Eq.trans (by rw [eF1, va_up_ne _ _ (by omega)]) (ho j hj)
  have k2_F1 : F1 (2) = .inl (g.2.2 1, 72, .inl (fun _ => 0)) := by rw [eF1]; exact va_up_self _ _ _
  refine r_cpf B (hini rfl) hC (i := 1) (by omega) hF_F1 tyX7 tyX7_ok nmX7 (T := TX7) (n := 2) rfl iwX7_init_X7 0 (by decide) (index := 9) flX7_init_9 rfl rfl (v := .ref (ad (2))) rfl rfl (Nat.le_of_ble_eq_true rfl) dX7_init_9 (fun H locs hC => ?_)
  obtain ⟨F2, eF2⟩ : ∃ f : Nat → va_E, f = va_up F1 (1) (.inr (7, [.ref (ad (2)), .int 0])) := ⟨_, rfl⟩
  have hC : Cn g lo (3) ad F2 ss ss.heap H locs := by rw [eF2]; exact hC
  have k2_F2 : F2 (2) = .inl (g.2.2 1, 72, .inl (fun _ => 0)) := Eq.trans (by rw [eF2, va_up_ne _ _ (by omega)]) k2_F1
  have ho_F2 : ∀ j, j < 1 → F2 j = F j := fun j hj => Eq.trans (by rw [eF2, va_up_ne _ _ (by omega)]) (ho_F1 j hj)
  have k1_F2 : F2 (1) = .inr (7, [.ref (ad (2)), .int 0]) := by rw [eF2]; exact va_up_self _ _ _
  refine lv_aload_n B.1 B.2.1 dX7_init_12 rfl (lv_at hl 0 rfl) ?_
  refine lv_iconst (v := nI 0) B.1 B.2.1 dX7_init_13 (by decide) ?_
  refine r_cpn B hC (i := 1) (by omega) k1_F2 tyX7 tyX7_ok nmX7 (C := RX7) (T := TX7) (n := 2) rfl iwX7_init_X7 1 (by decide) (index := 15) flX7_init_15 rfl rfl (v := .int (nI 0)) rfl rfl (Nat.le_of_ble_eq_true rfl) dX7_init_14 (fun H locs hC => ?_)
  obtain ⟨F3, eF3⟩ : ∃ f : Nat → va_E, f = va_up F2 (1) (.inr (7, [.ref (ad (2)), .int (nI 0)])) := ⟨_, rfl⟩
  have hC : Cn g lo (3) ad F3 ss ss.heap H locs := by rw [eF3]; exact hC
  have k2_F3 : F3 (2) = .inl (g.2.2 1, 72, .inl (fun _ => 0)) := Eq.trans (by rw [eF3, va_up_ne _ _ (by omega)]) k2_F2
  have ho_F3 : ∀ j, j < 1 → F3 j = F j := fun j hj => Eq.trans (by rw [eF3, va_up_ne _ _ (by omega)]) (ho_F2 j hj)
  have k1_F3 : F3 (1) = .inr (7, [.ref (ad (2)), .int (nI 0)]) := by rw [eF3]; exact va_up_self _ _ _
  exact r_eN B hC (⟨⟨k1_F3, k2_F3⟩, ho_F3⟩) dX7_init_17
theorem wkX2_init_8 : Cond.methodLink RX2 3 objectInit ∈ wsX2_init := by decide +kernel
theorem wkX2_init_9 : Cond.instanceMethod objectInit ∈ wsX2_init := by decide +kernel
theorem wkX2_init_10 : Cond.code objectInit ⟨#[0xb1]⟩ 1 none ∈ wsX2_init := by decide +kernel
theorem wkX2_init_11 : Cond.arrayClass .int ∈ wsX2_init := by decide +kernel
theorem iwX2_init_X2 : ∀ w ∈ u_ws RX2 TX2 7, w ∈ wsX2_init := by decide +kernel
theorem flX2_init_9 : Cond.fieldLink RX2 9 RX2 (TX2 0).2.1 (TX2 0).2.2.1 ∈ wsX2_init := by decide +kernel
theorem flX2_init_15 : Cond.fieldLink RX2 15 RX2 (TX2 1).2.1 (TX2 1).2.2.1 ∈ wsX2_init := by decide +kernel
theorem flX2_init_18 : Cond.fieldLink RX2 18 RX2 (TX2 2).2.1 (TX2 2).2.2.1 ∈ wsX2_init := by decide +kernel
theorem flX2_init_21 : Cond.fieldLink RX2 21 RX2 (TX2 3).2.1 (TX2 3).2.2.1 ∈ wsX2_init := by decide +kernel
theorem flX2_init_24 : Cond.fieldLink RX2 24 RX2 (TX2 4).2.1 (TX2 4).2.2.1 ∈ wsX2_init := by decide +kernel
theorem flX2_init_28 : Cond.fieldLink RX2 28 RX2 (TX2 5).2.1 (TX2 5).2.2.1 ∈ wsX2_init := by decide +kernel
theorem flX2_init_31 : Cond.fieldLink RX2 31 RX2 (TX2 6).2.1 (TX2 6).2.2.1 ∈ wsX2_init := by decide +kernel
set_option maxHeartbeats 4000000 in
set_option maxRecDepth 100000 in
theorem ctX2_init (l : Launch) (g : Gx) (lo : Nat) (ad : Nat → Nat) (hAd : ADN ad) (hl0 : lo ≤ ad 0) {F : Nat → va_E} (hF : F (3) = .inr (2, [.null, .null, .null, .null, .int 0, .int 0, .int 0])) : MN l g lo (4) (8) ad yX2_init wsX2_init 1 12 4 40 [.ref (ad (3))] F (fun F' => HullC g ad F' hv0 ∧ ∀ j, j < 3 → F' j = F j) := by
  refine enterN (cc := cX2_init) (maxL := 1) (ret := none) (own := RX2) (by decide +kernel) rfl rfl (Nat.le_of_ble_eq_true rfl) (adn_le hAd hl0 _) ?_
  intro pp ee ss mm below meth cc B hini hC hXA hlo ls hl
  have hl : lv_has ls 1 [(0, .ref (ad (3)))] := hl
  have ho : ∀ j, j < 3 → F j = F j := fun _ _ => rfl
  refine lv_aload_n B.1 B.2.1 dX2_init_0 rfl (lv_at hl 0 rfl) ?_
  refine r_oi B hl.1 (index := 3) wkX2_init_8 wkX2_init_9 wkX2_init_10 dX2_init_1 (Nat.le_of_ble_eq_true rfl) (Nat.le_of_ble_eq_true rfl) ?_
  refine lv_aload_n B.1 B.2.1 dX2_init_4 rfl (lv_at hl 0 rfl) ?_
  refine lv_bipush (v := nI 10) B.1 B.2.1 dX2_init_5 (by decide) ?_
  refine r_na (atype := .int) (ty := .int) B hAd hlo hC 0 rfl wkX2_init_11 rfl (n := 10) (a0 := (10, .inl (fun _ => 0))) (fun _ => rfl) (by decide) (by decide) (show _ ≤ 4 from by omega) (show _ ≤ 40 from by omega) dX2_init_7 (fun H hC => ?_)
  obtain ⟨F1, eF1⟩ : ∃ f : Nat → va_E, f = va_up F (4) (.inl (g.2.2 0, 10, .inl (fun _ => 0))) := ⟨_, rfl⟩
  have hC : Cn g lo (5) ad F1 ss ss.heap H [] := by rw [eF1]; exact hC
  have hF_F1 : F1 (3) = .inr (2, [.null, .null, .null, .null, .int 0, .int 0, .int 0]) := Eq.trans (by rw [eF1, va_up_ne _ _ (by omega)]) hF
  have ho_F1 : ∀ j, j < 3 → F1 j = F j := fun j hj => Eq.trans (by rw [eF1, va_up_ne _ _ (by omega)]) (ho j hj)
  have k4_F1 : F1 (4) = .inl (g.2.2 0, 10, .inl (fun _ => 0)) := by rw [eF1]; exact va_up_self _ _ _
  refine r_cpf B (hini rfl) hC (i := 3) (by omega) hF_F1 tyX2 tyX2_ok nmX2 (T := TX2) (n := 7) rfl iwX2_init_X2 0 (by decide) (index := 9) flX2_init_9 rfl rfl (v := .ref (ad (4))) rfl rfl (Nat.le_of_ble_eq_true rfl) dX2_init_9 (fun H locs hC => ?_)
  obtain ⟨F2, eF2⟩ : ∃ f : Nat → va_E, f = va_up F1 (3) (.inr (2, [.ref (ad (4)), .null, .null, .null, .int 0, .int 0, .int 0])) := ⟨_, rfl⟩
  have hC : Cn g lo (5) ad F2 ss ss.heap H locs := by rw [eF2]; exact hC
  have k4_F2 : F2 (4) = .inl (g.2.2 0, 10, .inl (fun _ => 0)) := Eq.trans (by rw [eF2, va_up_ne _ _ (by omega)]) k4_F1
  have ho_F2 : ∀ j, j < 3 → F2 j = F j := fun j hj => Eq.trans (by rw [eF2, va_up_ne _ _ (by omega)]) (ho_F1 j hj)
  have k3_F2 : F2 (3) = .inr (2, [.ref (ad (4)), .null, .null, .null, .int 0, .int 0, .int 0]) := by rw [eF2]; exact va_up_self _ _ _
  refine lv_aload_n B.1 B.2.1 dX2_init_12 rfl (lv_at hl 0 rfl) ?_
  refine lv_bipush (v := nI 10) B.1 B.2.1 dX2_init_13 (by decide) ?_
  refine r_na (atype := .int) (ty := .int) B hAd hlo hC 0 rfl wkX2_init_11 rfl (n := 10) (a0 := (10, .inl (fun _ => 0))) (fun _ => rfl) (by decide) (by decide) (show _ ≤ 4 from by omega) (show _ ≤ 40 from by omega) dX2_init_15 (fun H hC => ?_)
  obtain ⟨F3, eF3⟩ : ∃ f : Nat → va_E, f = va_up F2 (5) (.inl (g.2.2 0, 10, .inl (fun _ => 0))) := ⟨_, rfl⟩
  have hC : Cn g lo (6) ad F3 ss ss.heap H locs := by rw [eF3]; exact hC
  have k4_F3 : F3 (4) = .inl (g.2.2 0, 10, .inl (fun _ => 0)) := Eq.trans (by rw [eF3, va_up_ne _ _ (by omega)]) k4_F2
  have k3_F3 : F3 (3) = .inr (2, [.ref (ad (4)), .null, .null, .null, .int 0, .int 0, .int 0]) := Eq.trans (by rw [eF3, va_up_ne _ _ (by omega)]) k3_F2
  have ho_F3 : ∀ j, j < 3 → F3 j = F j := fun j hj => Eq.trans (by rw [eF3, va_up_ne _ _ (by omega)]) (ho_F2 j hj)
  have k5_F3 : F3 (5) = .inl (g.2.2 0, 10, .inl (fun _ => 0)) := by rw [eF3]; exact va_up_self _ _ _
  refine r_cpf B (hini rfl) hC (i := 3) (by omega) k3_F3 tyX2 tyX2_ok nmX2 (T := TX2) (n := 7) rfl iwX2_init_X2 1 (by decide) (index := 15) flX2_init_15 rfl rfl (v := .ref (ad (5))) rfl rfl (Nat.le_of_ble_eq_true rfl) dX2_init_17 (fun H locs hC => ?_)
  obtain ⟨F4, eF4⟩ : ∃ f : Nat → va_E, f = va_up F3 (3) (.inr (2, [.ref (ad (4)), .ref (ad (5)), .null, .null, .int 0, .int 0, .int 0])) := ⟨_, rfl⟩
  have hC : Cn g lo (6) ad F4 ss ss.heap H locs := by rw [eF4]; exact hC
  have k4_F4 : F4 (4) = .inl (g.2.2 0, 10, .inl (fun _ => 0)) := Eq.trans (by rw [eF4, va_up_ne _ _ (by omega)]) k4_F3
  have k5_F4 : F4 (5) = .inl (g.2.2 0, 10, .inl (fun _ => 0)) := Eq.trans (by rw [eF4, va_up_ne _ _ (by omega)]) k5_F3
  have ho_F4 : ∀ j, j < 3 → F4 j = F j := fun j hj => Eq.trans (by rw [eF4, va_up_ne _ _ (by omega)]) (ho_F3 j hj)
  have k3_F4 : F4 (3) = .inr (2, [.ref (ad (4)), .ref (ad (5)), .null, .null, .int 0, .int 0, .int 0]) := by rw [eF4]; exact va_up_self _ _ _
  refine lv_aload_n B.1 B.2.1 dX2_init_20 rfl (lv_at hl 0 rfl) ?_
  refine lv_bipush (v := nI 10) B.1 B.2.1 dX2_init_21 (by decide) ?_
  refine r_na (atype := .int) (ty := .int) B hAd hlo hC 0 rfl wkX2_init_11 rfl (n := 10) (a0 := (10, .inl (fun _ => 0))) (fun _ => rfl) (by decide) (by decide) (show _ ≤ 4 from by omega) (show _ ≤ 40 from by omega) dX2_init_23 (fun H hC => ?_)
  obtain ⟨F5, eF5⟩ : ∃ f : Nat → va_E, f = va_up F4 (6) (.inl (g.2.2 0, 10, .inl (fun _ => 0))) := ⟨_, rfl⟩
  have hC : Cn g lo (7) ad F5 ss ss.heap H locs := by rw [eF5]; exact hC
  have k4_F5 : F5 (4) = .inl (g.2.2 0, 10, .inl (fun _ => 0)) := Eq.trans (by rw [eF5, va_up_ne _ _ (by omega)]) k4_F4
  have k5_F5 : F5 (5) = .inl (g.2.2 0, 10, .inl (fun _ => 0)) := Eq.trans (by rw [eF5, va_up_ne _ _ (by omega)]) k5_F4
  have k3_F5 : F5 (3) = .inr (2, [.ref (ad (4)), .ref (ad (5)), .null, .null, .int 0, .int 0, .int 0]) := Eq.trans (by rw [eF5, va_up_ne _ _ (by omega)]) k3_F4
  have ho_F5 : ∀ j, j < 3 → F5 j = F j := fun j hj => Eq.trans (by rw [eF5, va_up_ne _ _ (by omega)]) (ho_F4 j hj)
  have k6_F5 : F5 (6) = .inl (g.2.2 0, 10, .inl (fun _ => 0)) := by rw [eF5]; exact va_up_self _ _ _
  refine r_cpf B (hini rfl) hC (i := 3) (by omega) k3_F5 tyX2 tyX2_ok nmX2 (T := TX2) (n := 7) rfl iwX2_init_X2 2 (by decide) (index := 18) flX2_init_18 rfl rfl (v := .ref (ad (6))) rfl rfl (Nat.le_of_ble_eq_true rfl) dX2_init_25 (fun H locs hC => ?_)
  obtain ⟨F6, eF6⟩ : ∃ f : Nat → va_E, f = va_up F5 (3) (.inr (2, [.ref (ad (4)), .ref (ad (5)), .ref (ad (6)), .null, .int 0, .int 0, .int 0])) := ⟨_, rfl⟩
  have hC : Cn g lo (7) ad F6 ss ss.heap H locs := by rw [eF6]; exact hC
  have k4_F6 : F6 (4) = .inl (g.2.2 0, 10, .inl (fun _ => 0)) := Eq.trans (by rw [eF6, va_up_ne _ _ (by omega)]) k4_F5
  have k5_F6 : F6 (5) = .inl (g.2.2 0, 10, .inl (fun _ => 0)) := Eq.trans (by rw [eF6, va_up_ne _ _ (by omega)]) k5_F5
  have k6_F6 : F6 (6) = .inl (g.2.2 0, 10, .inl (fun _ => 0)) := Eq.trans (by rw [eF6, va_up_ne _ _ (by omega)]) k6_F5
  have ho_F6 : ∀ j, j < 3 → F6 j = F j := fun j hj => Eq.trans (by rw [eF6, va_up_ne _ _ (by omega)]) (ho_F5 j hj)
  have k3_F6 : F6 (3) = .inr (2, [.ref (ad (4)), .ref (ad (5)), .ref (ad (6)), .null, .int 0, .int 0, .int 0]) := by rw [eF6]; exact va_up_self _ _ _
  refine lv_aload_n B.1 B.2.1 dX2_init_28 rfl (lv_at hl 0 rfl) ?_
  refine lv_bipush (v := nI 10) B.1 B.2.1 dX2_init_29 (by decide) ?_
  refine r_na (atype := .int) (ty := .int) B hAd hlo hC 0 rfl wkX2_init_11 rfl (n := 10) (a0 := (10, .inl (fun _ => 0))) (fun _ => rfl) (by decide) (by decide) (show _ ≤ 4 from by omega) (show _ ≤ 40 from by omega) dX2_init_31 (fun H hC => ?_)
  obtain ⟨F7, eF7⟩ : ∃ f : Nat → va_E, f = va_up F6 (7) (.inl (g.2.2 0, 10, .inl (fun _ => 0))) := ⟨_, rfl⟩
  have hC : Cn g lo (8) ad F7 ss ss.heap H locs := by rw [eF7]; exact hC
  have k4_F7 : F7 (4) = .inl (g.2.2 0, 10, .inl (fun _ => 0)) := Eq.trans (by rw [eF7, va_up_ne _ _ (by omega)]) k4_F6
  have k5_F7 : F7 (5) = .inl (g.2.2 0, 10, .inl (fun _ => 0)) := Eq.trans (by rw [eF7, va_up_ne _ _ (by omega)]) k5_F6
  have k6_F7 : F7 (6) = .inl (g.2.2 0, 10, .inl (fun _ => 0)) := Eq.trans (by rw [eF7, va_up_ne _ _ (by omega)]) k6_F6
  have k3_F7 : F7 (3) = .inr (2, [.ref (ad (4)), .ref (ad (5)), .ref (ad (6)), .null, .int 0, .int 0, .int 0]) := Eq.trans (by rw [eF7, va_up_ne _ _ (by omega)]) k3_F6
  have ho_F7 : ∀ j, j < 3 → F7 j = F j := fun j hj => Eq.trans (by rw [eF7, va_up_ne _ _ (by omega)]) (ho_F6 j hj)
  have k7_F7 : F7 (7) = .inl (g.2.2 0, 10, .inl (fun _ => 0)) := by rw [eF7]; exact va_up_self _ _ _
  refine r_cpf B (hini rfl) hC (i := 3) (by omega) k3_F7 tyX2 tyX2_ok nmX2 (T := TX2) (n := 7) rfl iwX2_init_X2 3 (by decide) (index := 21) flX2_init_21 rfl rfl (v := .ref (ad (7))) rfl rfl (Nat.le_of_ble_eq_true rfl) dX2_init_33 (fun H locs hC => ?_)
  obtain ⟨F8, eF8⟩ : ∃ f : Nat → va_E, f = va_up F7 (3) (.inr (2, [.ref (ad (4)), .ref (ad (5)), .ref (ad (6)), .ref (ad (7)), .int 0, .int 0, .int 0])) := ⟨_, rfl⟩
  have hC : Cn g lo (8) ad F8 ss ss.heap H locs := by rw [eF8]; exact hC
  have k4_F8 : F8 (4) = .inl (g.2.2 0, 10, .inl (fun _ => 0)) := Eq.trans (by rw [eF8, va_up_ne _ _ (by omega)]) k4_F7
  have k5_F8 : F8 (5) = .inl (g.2.2 0, 10, .inl (fun _ => 0)) := Eq.trans (by rw [eF8, va_up_ne _ _ (by omega)]) k5_F7
  have k6_F8 : F8 (6) = .inl (g.2.2 0, 10, .inl (fun _ => 0)) := Eq.trans (by rw [eF8, va_up_ne _ _ (by omega)]) k6_F7
  have k7_F8 : F8 (7) = .inl (g.2.2 0, 10, .inl (fun _ => 0)) := Eq.trans (by rw [eF8, va_up_ne _ _ (by omega)]) k7_F7
  have ho_F8 : ∀ j, j < 3 → F8 j = F j := fun j hj => Eq.trans (by rw [eF8, va_up_ne _ _ (by omega)]) (ho_F7 j hj)
  have k3_F8 : F8 (3) = .inr (2, [.ref (ad (4)), .ref (ad (5)), .ref (ad (6)), .ref (ad (7)), .int 0, .int 0, .int 0]) := by rw [eF8]; exact va_up_self _ _ _
  refine lv_aload_n B.1 B.2.1 dX2_init_36 rfl (lv_at hl 0 rfl) ?_
  refine lv_iconst (v := nI 0) B.1 B.2.1 dX2_init_37 (by decide) ?_
  refine r_cpn B hC (i := 3) (by omega) k3_F8 tyX2 tyX2_ok nmX2 (C := RX2) (T := TX2) (n := 7) rfl iwX2_init_X2 4 (by decide) (index := 24) flX2_init_24 rfl rfl (v := .int (nI 0)) rfl rfl (Nat.le_of_ble_eq_true rfl) dX2_init_38 (fun H locs hC => ?_)
  obtain ⟨F9, eF9⟩ : ∃ f : Nat → va_E, f = va_up F8 (3) (.inr (2, [.ref (ad (4)), .ref (ad (5)), .ref (ad (6)), .ref (ad (7)), .int (nI 0), .int 0, .int 0])) := ⟨_, rfl⟩
  have hC : Cn g lo (8) ad F9 ss ss.heap H locs := by rw [eF9]; exact hC
  have k4_F9 : F9 (4) = .inl (g.2.2 0, 10, .inl (fun _ => 0)) := Eq.trans (by rw [eF9, va_up_ne _ _ (by omega)]) k4_F8
  have k5_F9 : F9 (5) = .inl (g.2.2 0, 10, .inl (fun _ => 0)) := Eq.trans (by rw [eF9, va_up_ne _ _ (by omega)]) k5_F8
  have k6_F9 : F9 (6) = .inl (g.2.2 0, 10, .inl (fun _ => 0)) := Eq.trans (by rw [eF9, va_up_ne _ _ (by omega)]) k6_F8
  have k7_F9 : F9 (7) = .inl (g.2.2 0, 10, .inl (fun _ => 0)) := Eq.trans (by rw [eF9, va_up_ne _ _ (by omega)]) k7_F8
  have ho_F9 : ∀ j, j < 3 → F9 j = F j := fun j hj => Eq.trans (by rw [eF9, va_up_ne _ _ (by omega)]) (ho_F8 j hj)
  have k3_F9 : F9 (3) = .inr (2, [.ref (ad (4)), .ref (ad (5)), .ref (ad (6)), .ref (ad (7)), .int (nI 0), .int 0, .int 0]) := by rw [eF9]; exact va_up_self _ _ _
  refine lv_aload_n B.1 B.2.1 dX2_init_41 rfl (lv_at hl 0 rfl) ?_
  refine lv_iconst (v := nI 0) B.1 B.2.1 dX2_init_42 (by decide) ?_
  refine r_cpn B hC (i := 3) (by omega) k3_F9 tyX2 tyX2_ok nmX2 (C := RX2) (T := TX2) (n := 7) rfl iwX2_init_X2 5 (by decide) (index := 28) flX2_init_28 rfl rfl (v := .int (nI 0)) rfl rfl (Nat.le_of_ble_eq_true rfl) dX2_init_43 (fun H locs hC => ?_)
  obtain ⟨F10, eF10⟩ : ∃ f : Nat → va_E, f = va_up F9 (3) (.inr (2, [.ref (ad (4)), .ref (ad (5)), .ref (ad (6)), .ref (ad (7)), .int (nI 0), .int (nI 0), .int 0])) := ⟨_, rfl⟩
  have hC : Cn g lo (8) ad F10 ss ss.heap H locs := by rw [eF10]; exact hC
  have k4_F10 : F10 (4) = .inl (g.2.2 0, 10, .inl (fun _ => 0)) := Eq.trans (by rw [eF10, va_up_ne _ _ (by omega)]) k4_F9
  have k5_F10 : F10 (5) = .inl (g.2.2 0, 10, .inl (fun _ => 0)) := Eq.trans (by rw [eF10, va_up_ne _ _ (by omega)]) k5_F9
  have k6_F10 : F10 (6) = .inl (g.2.2 0, 10, .inl (fun _ => 0)) := Eq.trans (by rw [eF10, va_up_ne _ _ (by omega)]) k6_F9
  have k7_F10 : F10 (7) = .inl (g.2.2 0, 10, .inl (fun _ => 0)) := Eq.trans (by rw [eF10, va_up_ne _ _ (by omega)]) k7_F9
  have ho_F10 : ∀ j, j < 3 → F10 j = F j := fun j hj => Eq.trans (by rw [eF10, va_up_ne _ _ (by omega)]) (ho_F9 j hj)
  have k3_F10 : F10 (3) = .inr (2, [.ref (ad (4)), .ref (ad (5)), .ref (ad (6)), .ref (ad (7)), .int (nI 0), .int (nI 0), .int 0]) := by rw [eF10]; exact va_up_self _ _ _
  refine lv_aload_n B.1 B.2.1 dX2_init_46 rfl (lv_at hl 0 rfl) ?_
  refine lv_iconst (v := nI 1) B.1 B.2.1 dX2_init_47 (by decide) ?_
  refine r_cpn B hC (i := 3) (by omega) k3_F10 tyX2 tyX2_ok nmX2 (C := RX2) (T := TX2) (n := 7) rfl iwX2_init_X2 6 (by decide) (index := 31) flX2_init_31 rfl rfl (v := .int (nI 1)) rfl rfl (Nat.le_of_ble_eq_true rfl) dX2_init_48 (fun H locs hC => ?_)
  obtain ⟨F11, eF11⟩ : ∃ f : Nat → va_E, f = va_up F10 (3) (.inr (2, [.ref (ad (4)), .ref (ad (5)), .ref (ad (6)), .ref (ad (7)), .int (nI 0), .int (nI 0), .int (nI 1)])) := ⟨_, rfl⟩
  have hC : Cn g lo (8) ad F11 ss ss.heap H locs := by rw [eF11]; exact hC
  have k4_F11 : F11 (4) = .inl (g.2.2 0, 10, .inl (fun _ => 0)) := Eq.trans (by rw [eF11, va_up_ne _ _ (by omega)]) k4_F10
  have k5_F11 : F11 (5) = .inl (g.2.2 0, 10, .inl (fun _ => 0)) := Eq.trans (by rw [eF11, va_up_ne _ _ (by omega)]) k5_F10
  have k6_F11 : F11 (6) = .inl (g.2.2 0, 10, .inl (fun _ => 0)) := Eq.trans (by rw [eF11, va_up_ne _ _ (by omega)]) k6_F10
  have k7_F11 : F11 (7) = .inl (g.2.2 0, 10, .inl (fun _ => 0)) := Eq.trans (by rw [eF11, va_up_ne _ _ (by omega)]) k7_F10
  have ho_F11 : ∀ j, j < 3 → F11 j = F j := fun j hj => Eq.trans (by rw [eF11, va_up_ne _ _ (by omega)]) (ho_F10 j hj)
  have k3_F11 : F11 (3) = .inr (2, [.ref (ad (4)), .ref (ad (5)), .ref (ad (6)), .ref (ad (7)), .int (nI 0), .int (nI 0), .int (nI 1)]) := by rw [eF11]; exact va_up_self _ _ _
  exact r_eN B hC (⟨⟨k3_F11, k4_F11, k5_F11, k6_F11, k7_F11⟩, ho_F11⟩) dX2_init_51
theorem wkX1_init_12 : Cond.methodLink RX1 3 objectInit ∈ wsX1_init := by decide +kernel
theorem wkX1_init_13 : Cond.instanceMethod objectInit ∈ wsX1_init := by decide +kernel
theorem wkX1_init_14 : Cond.code objectInit ⟨#[0xb1]⟩ 1 none ∈ wsX1_init := by decide +kernel
theorem wkX1_init_15 : Cond.arrayClass .long ∈ wsX1_init := by decide +kernel
theorem iwX1_init_X1 : ∀ w ∈ u_ws RX1 TX1 2, w ∈ wsX1_init := by decide +kernel
theorem flX1_init_9 : Cond.fieldLink RX1 9 RX1 (TX1 0).2.1 (TX1 0).2.2.1 ∈ wsX1_init := by decide +kernel
theorem flX1_init_15 : Cond.fieldLink RX1 15 RX1 (TX1 1).2.1 (TX1 1).2.2.1 ∈ wsX1_init := by decide +kernel
set_option maxHeartbeats 4000000 in
set_option maxRecDepth 100000 in
theorem ctX1_init (l : Launch) (g : Gx) (lo : Nat) (ad : Nat → Nat) (hAd : ADN ad) (hl0 : lo ≤ ad 0) {F : Nat → va_E} (hF : F (153) = .inr (1, [.null, .long 0])) : MN l g lo (154) (155) ad yX1_init wsX1_init 1 12 1 91 [.ref (ad (153))] F (fun F' => ChC g ad F' (fun _ => 0, 1) ∧ ∀ j, j < 153 → F' j = F j) := by
  refine enterN (cc := cX1_init) (maxL := 1) (ret := none) (own := RX1) (by decide +kernel) rfl rfl (Nat.le_of_ble_eq_true rfl) (adn_le hAd hl0 _) ?_
  intro pp ee ss mm below meth cc B hini hC hXA hlo ls hl
  have hl : lv_has ls 1 [(0, .ref (ad (153)))] := hl
  have ho : ∀ j, j < 153 → F j = F j := fun _ _ => rfl
  refine lv_aload_n B.1 B.2.1 dX1_init_0 rfl (lv_at hl 0 rfl) ?_
  refine r_oi B hl.1 (index := 3) wkX1_init_12 wkX1_init_13 wkX1_init_14 dX1_init_1 (Nat.le_of_ble_eq_true rfl) (Nat.le_of_ble_eq_true rfl) ?_
  refine lv_aload_n B.1 B.2.1 dX1_init_4 rfl (lv_at hl 0 rfl) ?_
  refine lv_bipush (v := nI 91) B.1 B.2.1 dX1_init_5 (by decide) ?_
  refine r_na (atype := .long) (ty := .long) B hAd hlo hC 2 rfl wkX1_init_15 rfl (n := 91) (a0 := (91, .inr (.inl (fun _ => 0)))) (fun _ => rfl) (by decide) (by decide) (show _ ≤ 1 from by omega) (show _ ≤ 91 from by omega) dX1_init_7 (fun H hC => ?_)
  obtain ⟨F1, eF1⟩ : ∃ f : Nat → va_E, f = va_up F (154) (.inl (g.2.2 2, 91, .inr (.inl (fun _ => 0)))) := ⟨_, rfl⟩
  have hC : Cn g lo (155) ad F1 ss ss.heap H [] := by rw [eF1]; exact hC
  have hF_F1 : F1 (153) = .inr (1, [.null, .long 0]) := Eq.trans (by rw [eF1, va_up_ne _ _ (by omega)]) hF
  have ho_F1 : ∀ j, j < 153 → F1 j = F j := fun j hj => Eq.trans (by rw [eF1, va_up_ne _ _ (by omega)]) (ho j hj)
  have k154_F1 : F1 (154) = .inl (g.2.2 2, 91, .inr (.inl (fun _ => 0))) := by rw [eF1]; exact va_up_self _ _ _
  refine r_cpf B (hini rfl) hC (i := 153) (by omega) hF_F1 tyX1 tyX1_ok nmX1 (T := TX1) (n := 2) rfl iwX1_init_X1 0 (by decide) (index := 9) flX1_init_9 rfl rfl (v := .ref (ad (154))) rfl rfl (Nat.le_of_ble_eq_true rfl) dX1_init_9 (fun H locs hC => ?_)
  obtain ⟨F2, eF2⟩ : ∃ f : Nat → va_E, f = va_up F1 (153) (.inr (1, [.ref (ad (154)), .long 0])) := ⟨_, rfl⟩
  have hC : Cn g lo (155) ad F2 ss ss.heap H locs := by rw [eF2]; exact hC
  have k154_F2 : F2 (154) = .inl (g.2.2 2, 91, .inr (.inl (fun _ => 0))) := Eq.trans (by rw [eF2, va_up_ne _ _ (by omega)]) k154_F1
  have ho_F2 : ∀ j, j < 153 → F2 j = F j := fun j hj => Eq.trans (by rw [eF2, va_up_ne _ _ (by omega)]) (ho_F1 j hj)
  have k153_F2 : F2 (153) = .inr (1, [.ref (ad (154)), .long 0]) := by rw [eF2]; exact va_up_self _ _ _
  refine lv_aload_n B.1 B.2.1 dX1_init_12 rfl (lv_at hl 0 rfl) ?_
  refine lv_lconst (v := lN 1) B.1 B.2.1 dX1_init_13 (by decide) ?_
  refine r_cpn B hC (i := 153) (by omega) k153_F2 tyX1 tyX1_ok nmX1 (C := RX1) (T := TX1) (n := 2) rfl iwX1_init_X1 1 (by decide) (index := 15) flX1_init_15 rfl rfl (v := .long (lN 1)) rfl rfl (Nat.le_of_ble_eq_true rfl) dX1_init_14 (fun H locs hC => ?_)
  obtain ⟨F3, eF3⟩ : ∃ f : Nat → va_E, f = va_up F2 (153) (.inr (1, [.ref (ad (154)), .long (lN 1)])) := ⟨_, rfl⟩
  have hC : Cn g lo (155) ad F3 ss ss.heap H locs := by rw [eF3]; exact hC
  have k154_F3 : F3 (154) = .inl (g.2.2 2, 91, .inr (.inl (fun _ => 0))) := Eq.trans (by rw [eF3, va_up_ne _ _ (by omega)]) k154_F2
  have ho_F3 : ∀ j, j < 153 → F3 j = F j := fun j hj => Eq.trans (by rw [eF3, va_up_ne _ _ (by omega)]) (ho_F2 j hj)
  have k153_F3 : F3 (153) = .inr (1, [.ref (ad (154)), .long (lN 1)]) := by rw [eF3]; exact va_up_self _ _ _
  exact r_eN B hC (⟨⟨k153_F3, k154_F3⟩, ho_F3⟩) dX1_init_17
