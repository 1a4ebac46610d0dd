/-! CHANCES: in how many ways LEAK is so much -/
abbrev CV : Type := (Nat → Nat) × Nat
def cw (c : CV) : Nat → Nat := c.1
def ca (c : CV) : Nat := c.2
def ChC (g : Gx) (ad : Nat → Nat) (F : Nat → va_E) (c : CV) : Prop := F 153 = .inr (1, [.ref (ad 154), .long (lN (ca c))]) ∧ F 154 = .inl (g.2.2 2, 91, .inr (.inl (fun j => lN (cw c j))))
theorem ChC.keep {g : Gx} {ad : Nat → Nat} {F F' : Nat → va_E} {c : CV} {x y : Nat} (h : ChC g ad F c) (hs : Same x y F F') (hd : 155 ≤ x ∨ y ≤ 153) : ChC g ad F' c := ⟨by rw [hs _ (by omega)]; exact h.1, by rw [hs _ (by omega)]; exact h.2⟩
theorem upd_lN (f : Nat → Nat) (k x : Nat) : vp_updL (fun j => lN (f j)) k (lN x) = fun j => lN (va_up f k x j) := by
  funext j
  by_cases h : j = k
  · subst h; simp [vp_updL, va_up]
  · simp [vp_updL, va_up, h]
theorem nI_sub_lt0 {a b : Nat} (ha : a < 2 ^ 30) (hb : b < 2 ^ 30) : nI a - nI b < 0 ↔ a < b := by
  rw [Int32.lt_iff_toInt_lt, pk_sub_toInt ha hb, Int32.toInt_zero]; omega
def sumTo (f : Nat → Nat) : Nat → Nat
  | 0 => 0
  | n + 1 => sumTo f n + f n
/-- one timber more, torn out in x ways of ten -/
def tearV (f : Nat → Nat) (d x i : Nat) : Nat := f i * (10 - x) + (if d ≤ i then f (i - d) * x else 0)
theorem iwX1_all_X1 : ∀ w ∈ u_ws RX1 TX1 2, w ∈ wsX1_all := by decide +kernel
theorem flX1_all_15 : Cond.fieldLink RX1 15 RX1 (TX1 1).2.1 (TX1 1).2.2.1 ∈ wsX1_all := by decide +kernel
set_option maxHeartbeats 4000000 in
set_option maxRecDepth 100000 in
theorem ctX1_all (l : Launch) (g : Gx) (lo : Nat) (ad : Nat → Nat) {F : Nat → va_E} {c : CV} (hC0 : ChC g ad F c) : ML l g lo 196 ad yX1_all wsX1_all 0 0 [.ref (ad (153))] F (fun r F' => r = lN (ca c) ∧ F' = F) := by
  obtain ⟨c0, c1⟩ := id hC0
  refine enter (cc := cX1_all) (maxL := 1) (ret := some .long) (own := RX1) (by decide +kernel) rfl rfl (Nat.le_of_ble_eq_true rfl) ?_
  intro pp ee ss mm below meth cc B hini hC ls hl
  have hl : lv_has ls 1 [(0, .ref (ad (153)))] := hl
  refine lv_aload_n B.1 B.2.1 dX1_all_0 rfl (lv_at hl 0 rfl) ?_
  refine r_cg B hC (i := 153) (by decide) c0 (C := RX1) (T := TX1) (n := 2) rfl iwX1_all_X1 1 (by decide) (index := 15) flX1_all_15 rfl (v := .long (lN (ca c))) rfl dX1_all_1 ?_
  exact r_eL B hC (v := lN (ca c)) (⟨rfl, rfl⟩) dX1_all_4
theorem iwX1_begin_X1 : ∀ w ∈ u_ws RX1 TX1 2, w ∈ wsX1_begin := by decide +kernel
theorem flX1_begin_9 : Cond.fieldLink RX1 9 RX1 (TX1 0).2.1 (TX1 0).2.2.1 ∈ wsX1_begin := by decide +kernel
theorem flX1_begin_15 : Cond.fieldLink RX1 15 RX1 (TX1 1).2.1 (TX1 1).2.2.1 ∈ wsX1_begin := by decide +kernel
set_option maxHeartbeats 4000000 in
set_option maxRecDepth 100000 in
theorem ctX1_begin (l : Launch) (g : Gx) (lo : Nat) (ad : Nat → Nat) {F : Nat → va_E} {c : CV} (hC0 : ChC g ad F c) {x : Nat} (hx : x ≤ 90) : MV l g lo 196 ad yX1_begin wsX1_begin 0 0 [.ref (ad (153)), .int (nI x)] F (fun F' => ∃ c', ChC g ad F' c' ∧ (∀ j, j < 91 → cw c' j = if j = x then 1 else 0) ∧ ca c' = 1 ∧ Same 153 155 F F') := by
  obtain ⟨c0, c1⟩ := id hC0
  refine enter (cc := cX1_begin) (maxL := 3) (ret := none) (own := RX1) (by decide +kernel) rfl rfl (Nat.le_of_ble_eq_true rfl) ?_
  intro pp ee ss mm below meth cc B hini hC ls hl
  have hl : lv_has ls 3 [(0, .ref (ad (153))), (1, .int (nI x))] := hl
  refine lv_iconst (v := nI 0) B.1 B.2.1 dX1_begin_0 (by decide) ?_
  refine lv_istore_n (lv' := [(2, .int (nI 0)), (0, .ref (ad (153))), (1, .int (nI x))]) B.1 B.2.1 dX1_begin_1 rfl hl (by decide) rfl (fun ls hl => ?_)
  have loop2 : ∀ (k : Nat) (i : Nat) (u : CV) (G : Nat → va_E), (i + k = 91) → (ChC g ad G u) → (∀ j, j < i → cw u j = if j = x then 1 else 0) → (Same 153 155 F G) → ∀ (H : Heap) (locs : List Loc) (ls : Array Slot), Cu g lo 196 ad G ss ss.heap H locs → lv_has ls 3 [(2, .int (nI i)), (0, .ref (ad (153))), (1, .int (nI x))] → W pp l ee { frames := 0, cells := 0, slots := 0, locals := 0 } ss mm ([.ref (ad (153)), .int (nI x)] : List Value).toArray below meth cc H locs 0 0 (MQ below (va_Qv (fun F' => ∃ c', ChC g ad F' c' ∧ (∀ j, j < 91 → cw c' j = if j = x then 1 else 0) ∧ ca c' = 1 ∧ Same 153 155 F F') (fun F' t => Wd g lo 196 ad F' t) (fun q => lo ≤ q)) ([.ref (ad (153)), .int (nI x)] : List Value).toArray ss 0 0 (fun q => lo ≤ q)) (F0 mm 2 ls []) := by
    intro k
    induction k with
    | zero =>
      intro i u G hik hG hu hs H locs ls hC hl
      obtain ⟨c0, c1⟩ := id hG
      refine lv_iload_n B.1 B.2.1 dX1_begin_2 rfl (lv_at hl 0 rfl) ?_
      refine lv_aload_n B.1 B.2.1 dX1_begin_3 rfl (lv_at hl 1 rfl) ?_
      refine r_cg B hC (i := 153) (by decide) c0 (C := RX1) (T := TX1) (n := 2) rfl iwX1_begin_X1 0 (by decide) (index := 9) flX1_begin_9 rfl (v := .ref (ad (154))) rfl dX1_begin_4 ?_
      refine r_calen B hC (i := 154) (by decide) c1 2 rfl (n := 91) rfl dX1_begin_7 ?_
      refine lv_icmp_ge (tgt := 33) B.1 B.2.1 dX1_begin_8 (by decide) (fun _ => ?_) (fun z => absurd (nI_le (by omega) (by omega)) z)
      refine lv_aload_n B.1 B.2.1 dX1_begin_33 rfl (lv_at hl 1 rfl) ?_
      refine lv_lconst (v := lN 1) B.1 B.2.1 dX1_begin_34 (by decide) ?_
      refine r_cp B hC (i := 153) (by decide) c0 tyX1 tyX1_ok nmX1 (C := RX1) (T := TX1) rfl iwX1_begin_X1 1 (by decide) (index := 15) flX1_begin_15 rfl rfl (v := .long (lN 1)) (rfl) (rfl) (Nat.le_of_ble_eq_true rfl) dX1_begin_35 ?_
      intro H locs hC
      obtain ⟨F21, eF21⟩ : ∃ f : Nat → va_E, f = va_up G (153) (.inr (1, [.ref (ad (154)), .long (lN 1)])) := ⟨_, rfl⟩
      have hC : Cu g lo 196 ad F21 ss ss.heap H locs := by rw [eF21]; exact hC
      have k153_F21 : F21 153 = .inr (1, [.ref (ad (154)), .long (lN 1)]) := by rw [eF21]; exact va_up_self _ _ _
      have c1_F21 : F21 154 = .inl (g.2.2 2, 91, .inr (.inl (fun j => lN (cw u j)))) := by rw [eF21, va_up_ne _ _ (by decide)]; exact c1
      exact r_eV B hC (⟨(cw u, 1), ⟨k153_F21, c1_F21⟩, fun j hj => hu j (by omega), rfl, (by rw [eF21]; exact Same.up (Same.wide hs (by omega) (by omega)) (by omega) (by omega))⟩) dX1_begin_38
    | succ k ih2 =>
      intro i u G hik hG hu hs H locs ls hC hl
      obtain ⟨c0, c1⟩ := id hG
      refine lv_iload_n B.1 B.2.1 dX1_begin_2 rfl (lv_at hl 0 rfl) ?_
      refine lv_aload_n B.1 B.2.1 dX1_begin_3 rfl (lv_at hl 1 rfl) ?_
      refine r_cg B hC (i := 153) (by decide) c0 (C := RX1) (T := TX1) (n := 2) rfl iwX1_begin_X1 0 (by decide) (index := 9) flX1_begin_9 rfl (v := .ref (ad (154))) rfl dX1_begin_4 ?_
      refine r_calen B hC (i := 154) (by decide) c1 2 rfl (n := 91) rfl dX1_begin_7 ?_
      refine lv_icmp_ge (tgt := 33) B.1 B.2.1 dX1_begin_8 (by decide) (fun z => absurd z (nI_ge (by omega) (by omega))) (fun _ => ?_)
      refine lv_aload_n B.1 B.2.1 dX1_begin_11 rfl (lv_at hl 1 rfl) ?_
      refine r_cg B hC (i := 153) (by decide) c0 (C := RX1) (T := TX1) (n := 2) rfl iwX1_begin_X1 0 (by decide) (index := 9) flX1_begin_9 rfl (v := .ref (ad (154))) rfl dX1_begin_12 ?_
      refine lv_iload_n B.1 B.2.1 dX1_begin_15 rfl (lv_at hl 0 rfl) ?_
      refine lv_iload_n B.1 B.2.1 dX1_begin_16 rfl (lv_at hl 0 rfl) ?_
      refine lv_iload_n B.1 B.2.1 dX1_begin_17 rfl (lv_at hl 2 rfl) ?_
      refine lv_icmp_ne (tgt := 25) B.1 B.2.1 dX1_begin_18 (by decide) (fun c_18 => ?_) (fun c_18 => ?_)
      · have q_18 : ¬ i = x := fun z => c_18 ((nI_eq (by omega) (by omega)).mpr z)
        refine lv_lconst (v := lN 0) B.1 B.2.1 dX1_begin_25 (by decide) ?_
        refine r_clast B hC (i := 154) (by decide) c1 (j := i) (by omega) (by decide) dX1_begin_26 ?_
        intro H locs hC
        obtain ⟨F21, eF21⟩ : ∃ f : Nat → va_E, f = va_up G (154) (.inl (g.2.2 2, 91, .inr (.inl (fun j => lN (va_up (cw u) i 0 j))))) := ⟨_, rfl⟩
        have hC : Cu g lo 196 ad F21 ss ss.heap H locs := by rw [eF21]; exact (by rw [← upd_lN (cw u) i 0]; exact hC)
        have k154_F21 : F21 154 = .inl (g.2.2 2, 91, .inr (.inl (fun j => lN (va_up (cw u) i 0 j)))) := by rw [eF21]; exact va_up_self _ _ _
        have c0_F21 : F21 153 = .inr (1, [.ref (ad (154)), .long (lN (ca u))]) := by rw [eF21, va_up_ne _ _ (by decide)]; exact c0
        refine lv_iinc (v := nI (i + 1)) (lv' := [(2, .int (nI (i + 1))), (0, .ref (ad (153))), (1, .int (nI x))]) B.1 B.2.1 dX1_begin_27 hl (k := 0) rfl (nI_1 _) (by decide) rfl (fun ls hl => ?_)
        refine lv_goto (tgt := 2) B.1 B.2.1 dX1_begin_30 (by decide) ?_
        exact ih2 (i + 1) (va_up (cw u) i 0, ca u) F21 (by omega) ⟨c0_F21, k154_F21⟩ (fun j hj => by
  by_cases e : j = i
  · show va_up (cw u) i 0 j = _
    rw [e, va_up_self, if_neg (by omega)]
  · show va_up (cw u) i 0 j = _
    rw [va_up_ne _ _ e]; exact hu j (by omega)) (by rw [eF21]; exact Same.up (Same.wide hs (by omega) (by omega)) (by omega) (by omega)) _ _ ls hC (lv_sub hl [0, 1, 2] rfl)
      · have q_18 : i = x := (nI_eq (by omega) (by omega)).mp c_18
        refine lv_lconst (v := lN 1) B.1 B.2.1 dX1_begin_21 (by decide) ?_
        refine lv_goto (tgt := 26) B.1 B.2.1 dX1_begin_22 (by decide) ?_
        refine r_clast B hC (i := 154) (by decide) c1 (j := i) (by omega) (by decide) dX1_begin_26 ?_
        intro H locs hC
        obtain ⟨F21, eF21⟩ : ∃ f : Nat → va_E, f = va_up G (154) (.inl (g.2.2 2, 91, .inr (.inl (fun j => lN (va_up (cw u) i 1 j))))) := ⟨_, rfl⟩
        have hC : Cu g lo 196 ad F21 ss ss.heap H locs := by rw [eF21]; exact (by rw [← upd_lN (cw u) i 1]; exact hC)
        have k154_F21 : F21 154 = .inl (g.2.2 2, 91, .inr (.inl (fun j => lN (va_up (cw u) i 1 j)))) := by rw [eF21]; exact va_up_self _ _ _
        have c0_F21 : F21 153 = .inr (1, [.ref (ad (154)), .long (lN (ca u))]) := by rw [eF21, va_up_ne _ _ (by decide)]; exact c0
        refine lv_iinc (v := nI (i + 1)) (lv' := [(2, .int (nI (i + 1))), (0, .ref (ad (153))), (1, .int (nI x))]) B.1 B.2.1 dX1_begin_27 hl (k := 0) rfl (nI_1 _) (by decide) rfl (fun ls hl => ?_)
        refine lv_goto (tgt := 2) B.1 B.2.1 dX1_begin_30 (by decide) ?_
        exact ih2 (i + 1) (va_up (cw u) i 1, ca u) F21 (by omega) ⟨c0_F21, k154_F21⟩ (fun j hj => by
  by_cases e : j = i
  · show va_up (cw u) i 1 j = _
    rw [e, va_up_self, if_pos (by omega)]
  · show va_up (cw u) i 1 j = _
    rw [va_up_ne _ _ e]; exact hu j (by omega)) (by rw [eF21]; exact Same.up (Same.wide hs (by omega) (by omega)) (by omega) (by omega)) _ _ ls hC (lv_sub hl [0, 1, 2] rfl)
  exact loop2 91 0 c F (by decide) hC0 (fun j hj => absurd hj (by omega)) Same.rf _ _ ls hC (lv_sub hl [0, 1, 2] rfl)
theorem iwX1_tearOut_X1 : ∀ w ∈ u_ws RX1 TX1 2, w ∈ wsX1_tearOut := by decide +kernel
theorem flX1_tearOut_9 : Cond.fieldLink RX1 9 RX1 (TX1 0).2.1 (TX1 0).2.2.1 ∈ wsX1_tearOut := by decide +kernel
theorem flX1_tearOut_15 : Cond.fieldLink RX1 15 RX1 (TX1 1).2.1 (TX1 1).2.2.1 ∈ wsX1_tearOut := by decide +kernel
set_option maxHeartbeats 4000000 in
set_option maxRecDepth 100000 in
theorem ctX1_tearOut (l : Launch) (g : Gx) (lo : Nat) (ad : Nat → Nat) {F : Nat → va_E} {c : CV} (hC0 : ChC g ad F c) {d x : Nat} (hd : d ≤ 9) (hx : x ≤ 10) : MV l g lo 196 ad yX1_tearOut wsX1_tearOut 0 0 [.ref (ad (153)), .int (nI d), .int (nI x)] F (fun F' => ∃ c', ChC g ad F' c' ∧ (∀ j, j < 91 → cw c' j = tearV (cw c) d x j) ∧ ca c' = ca c * 10 ∧ Same 153 155 F F') := by
  obtain ⟨c0, c1⟩ := id hC0
  refine enter (cc := cX1_tearOut) (maxL := 7) (ret := none) (own := RX1) (by decide +kernel) rfl rfl (Nat.le_of_ble_eq_true rfl) ?_
  intro pp ee ss mm below meth cc B hini hC ls hl
  have hl : lv_has ls 7 [(0, .ref (ad (153))), (1, .int (nI d)), (2, .int (nI x))] := hl
  refine lv_aload_n B.1 B.2.1 dX1_tearOut_0 rfl (lv_at hl 0 rfl) ?_
  refine r_cg B hC (i := 153) (by decide) c0 (C := RX1) (T := TX1) (n := 2) rfl iwX1_tearOut_X1 0 (by decide) (index := 9) flX1_tearOut_9 rfl (v := .ref (ad (154))) rfl dX1_tearOut_1 ?_
  refine r_calen B hC (i := 154) (by decide) c1 2 rfl (n := 91) rfl dX1_tearOut_4 ?_
  refine lv_iconst (v := nI 1) B.1 B.2.1 dX1_tearOut_5 (by decide) ?_
  refine lv_isub B.1 B.2.1 dX1_tearOut_6 ?_
  refine r_tI (y := nI 91 - nI 1) (rfl) ?_
  refine lv_istore_n (lv' := [(3, .int (nI 91 - nI 1)), (0, .ref (ad (153))), (1, .int (nI d)), (2, .int (nI x))]) B.1 B.2.1 dX1_tearOut_7 rfl hl (by decide) rfl (fun ls hl => ?_)
  have loop8 : ∀ (k : Nat) (u : CV) (G : Nat → va_E), (k ≤ 91) → (ChC g ad G u) → (∀ j, j < 91 → cw u j = if k ≤ j then tearV (cw c) d x j else cw c j) → (ca u = ca c) → (Same 153 155 F G) → ∀ (H : Heap) (locs : List Loc) (ls : Array Slot), Cu g lo 196 ad G ss ss.heap H locs → lv_has ls 7 [(3, .int (nI k - nI 1)), (0, .ref (ad (153))), (1, .int (nI d)), (2, .int (nI x))] → W pp l ee { frames := 0, cells := 0, slots := 0, locals := 0 } ss mm ([.ref (ad (153)), .int (nI d), .int (nI x)] : List Value).toArray below meth cc H locs 0 0 (MQ below (va_Qv (fun F' => ∃ c', ChC g ad F' c' ∧ (∀ j, j < 91 → cw c' j = tearV (cw c) d x j) ∧ ca c' = ca c * 10 ∧ Same 153 155 F F') (fun F' t => Wd g lo 196 ad F' t) (fun q => lo ≤ q)) ([.ref (ad (153)), .int (nI d), .int (nI x)] : List Value).toArray ss 0 0 (fun q => lo ≤ q)) (F0 mm 8 ls []) := by
    intro k
    induction k with
    | zero =>
      intro u G hk91 hG hu hca hs H locs ls hC hl
      obtain ⟨c0, c1⟩ := id hG
      have hl : lv_has ls 7 [(3, .int (-1)), (0, .ref (ad (153))), (1, .int (nI d)), (2, .int (nI x))] := by rw [show nI 0 - nI 1 = -1 from by decide] at hl; exact hl
      refine lv_iload_n B.1 B.2.1 dX1_tearOut_8 rfl (lv_at hl 0 rfl) ?_
      refine lv_if_lt (tgt := 75) B.1 B.2.1 dX1_tearOut_9 (by decide) (fun _ => ?_) (fun z => absurd (by decide) z)
      refine lv_aload_n B.1 B.2.1 dX1_tearOut_75 rfl (lv_at hl 1 rfl) ?_
      refine lv_dup B.1 B.2.1 dX1_tearOut_76 rfl ?_
      refine r_cg B hC (i := 153) (by decide) c0 (C := RX1) (T := TX1) (n := 2) rfl iwX1_tearOut_X1 1 (by decide) (index := 15) flX1_tearOut_15 rfl (v := .long (lN (ca u))) rfl dX1_tearOut_77 ?_
      refine lv_ldc2 (own := RX1) (v := 10) B.1 B.2.1 B.2.2.2.1 (B.2.2.2.2.1 (.constantLong RX1 19 (10)) (by decide +kernel)) dX1_tearOut_80 ?_
      refine r_tL (y := lN 10) (rfl) ?_
      refine lv_lmul B.1 B.2.1 dX1_tearOut_83 ?_
      refine r_tL (y := lN ((ca u) * 10)) (lN_mul _ _) ?_
      refine r_cp B hC (i := 153) (by decide) c0 tyX1 tyX1_ok nmX1 (C := RX1) (T := TX1) rfl iwX1_tearOut_X1 1 (by decide) (index := 15) flX1_tearOut_15 rfl rfl (v := .long (lN ((ca u) * 10))) (rfl) (rfl) (Nat.le_of_ble_eq_true rfl) dX1_tearOut_84 ?_
      intro H locs hC
      obtain ⟨F21, eF21⟩ : ∃ f : Nat → va_E, f = va_up G (153) (.inr (1, [.ref (ad (154)), .long (lN ((ca u) * 10))])) := ⟨_, rfl⟩
      have hC : Cu g lo 196 ad F21 ss ss.heap H locs := by rw [eF21]; exact hC
      have k153_F21 : F21 153 = .inr (1, [.ref (ad (154)), .long (lN ((ca u) * 10))]) := by rw [eF21]; exact va_up_self _ _ _
      have c1_F21 : F21 154 = .inl (g.2.2 2, 91, .inr (.inl (fun j => lN (cw u j)))) := by rw [eF21, va_up_ne _ _ (by decide)]; exact c1
      exact r_eV B hC (⟨(cw u, ca c * 10), ⟨by rw [← hca]; exact k153_F21, c1_F21⟩, fun j hj => by rw [show cw (cw u, ca c * 10) j = cw u j from rfl, hu j hj, if_pos (by omega)], rfl, (by rw [eF21]; exact Same.up (Same.wide hs (by omega) (by omega)) (by omega) (by omega))⟩) dX1_tearOut_87
    | succ k ih8 =>
      intro u G hk91 hG hu hca hs H locs ls hC hl
      obtain ⟨c0, c1⟩ := id hG
      have hl : lv_has ls 7 [(3, .int (nI k)), (0, .ref (ad (153))), (1, .int (nI d)), (2, .int (nI x))] := by rw [nI_p1 k] at hl; exact hl
      refine lv_iload_n B.1 B.2.1 dX1_tearOut_8 rfl (lv_at hl 0 rfl) ?_
      refine lv_if_lt (tgt := 75) B.1 B.2.1 dX1_tearOut_9 (by decide) (fun z => absurd z (nI_pos (by omega))) (fun _ => ?_)
      refine lv_iload_n B.1 B.2.1 dX1_tearOut_12 rfl (lv_at hl 0 rfl) ?_
      refine lv_iload_n B.1 B.2.1 dX1_tearOut_13 rfl (lv_at hl 2 rfl) ?_
      refine lv_isub B.1 B.2.1 dX1_tearOut_14 ?_
      refine r_tI (y := nI k - nI d) (rfl) ?_
      refine lv_istore (lv' := [(4, .int (nI k - nI d)), (3, .int (nI k)), (0, .ref (ad (153))), (1, .int (nI d)), (2, .int (nI x))]) B.1 B.2.1 dX1_tearOut_15 hl (by decide) rfl (fun ls hl => ?_)
      refine lv_iload B.1 B.2.1 dX1_tearOut_17 (lv_at hl 0 rfl) ?_
      refine lv_if_lt (tgt := 45) B.1 B.2.1 dX1_tearOut_19 (by decide) (fun c_19 => ?_) (fun c_19 => ?_)
      · have q_19 := (nI_sub_lt0 (by omega) (by omega)).mp c_19
        refine lv_lconst (v := lN 0) B.1 B.2.1 dX1_tearOut_45 (by decide) ?_
        refine lv_lstore (lv' := [(5, .long (lN 0)), (4, .int (nI k - nI d)), (3, .int (nI k)), (0, .ref (ad (153))), (1, .int (nI d)), (2, .int (nI x))]) B.1 B.2.1 dX1_tearOut_46 hl (by decide) rfl (fun ls hl => ?_)
        refine lv_aload_n B.1 B.2.1 dX1_tearOut_48 rfl (lv_at hl 3 rfl) ?_
        refine r_cg B hC (i := 153) (by decide) c0 (C := RX1) (T := TX1) (n := 2) rfl iwX1_tearOut_X1 0 (by decide) (index := 9) flX1_tearOut_9 rfl (v := .ref (ad (154))) rfl dX1_tearOut_49 ?_
        refine lv_iload_n B.1 B.2.1 dX1_tearOut_52 rfl (lv_at hl 2 rfl) ?_
        refine lv_aload_n B.1 B.2.1 dX1_tearOut_53 rfl (lv_at hl 3 rfl) ?_
        refine r_cg B hC (i := 153) (by decide) c0 (C := RX1) (T := TX1) (n := 2) rfl iwX1_tearOut_X1 0 (by decide) (index := 9) flX1_tearOut_9 rfl (v := .ref (ad (154))) rfl dX1_tearOut_54 ?_
        refine lv_iload_n B.1 B.2.1 dX1_tearOut_57 rfl (lv_at hl 2 rfl) ?_
        refine r_clald B hC (i := 154) (by decide) c1 (j := k) (by omega) (by decide) dX1_tearOut_58 ?_
        refine r_tL (y := lN (cw u k)) rfl ?_
        refine lv_bipush (v := nI 10) B.1 B.2.1 dX1_tearOut_59 (by decide) ?_
        refine lv_iload_n B.1 B.2.1 dX1_tearOut_61 rfl (lv_at hl 5 rfl) ?_
        refine lv_isub B.1 B.2.1 dX1_tearOut_62 ?_
        refine r_tI (y := nI (10 - x)) (pk_sub (by omega)) ?_
        refine lv_i2l (v := lN (10 - x)) B.1 B.2.1 dX1_tearOut_63 (nI_l (by omega)) ?_
        refine lv_lmul B.1 B.2.1 dX1_tearOut_64 ?_
        refine r_tL (y := lN ((cw u k) * (10 - x))) (lN_mul _ _) ?_
        refine lv_lload B.1 B.2.1 dX1_tearOut_65 (lv_at hl 0 rfl) ?_
        refine lv_ladd B.1 B.2.1 dX1_tearOut_67 ?_
        refine r_tL (y := lN (((cw u k) * (10 - x)) + 0)) (lN_add _ _) ?_
        refine r_clast B hC (i := 154) (by decide) c1 (j := k) (by omega) (by decide) dX1_tearOut_68 ?_
        intro H locs hC
        obtain ⟨F21, eF21⟩ : ∃ f : Nat → va_E, f = va_up G (154) (.inl (g.2.2 2, 91, .inr (.inl (fun j => lN (va_up (cw u) k ((((cw u k) * (10 - x)) + 0)) j))))) := ⟨_, rfl⟩
        have hC : Cu g lo 196 ad F21 ss ss.heap H locs := by rw [eF21]; exact (by rw [← upd_lN (cw u) k ((((cw u k) * (10 - x)) + 0))]; exact hC)
        have k154_F21 : F21 154 = .inl (g.2.2 2, 91, .inr (.inl (fun j => lN (va_up (cw u) k ((((cw u k) * (10 - x)) + 0)) j)))) := by rw [eF21]; exact va_up_self _ _ _
        have c0_F21 : F21 153 = .inr (1, [.ref (ad (154)), .long (lN (ca u))]) := by rw [eF21, va_up_ne _ _ (by decide)]; exact c0
        refine lv_iinc (v := nI k - nI 1) (lv' := [(3, .int (nI k - nI 1)), (5, .long (lN 0)), (4, .int (nI k - nI d)), (0, .ref (ad (153))), (1, .int (nI d)), (2, .int (nI x))]) B.1 B.2.1 dX1_tearOut_69 hl (k := 2) rfl (nI_dec k) (by decide) rfl (fun ls hl => ?_)
        refine lv_goto (tgt := 8) B.1 B.2.1 dX1_tearOut_72 (by decide) ?_
        exact ih8 (va_up (cw u) k ((((cw u k) * (10 - x)) + 0)), ca u) F21 (by omega) ⟨c0_F21, k154_F21⟩ (fun j hj => by
  by_cases e : j = k
  · show va_up (cw u) k ((((cw u k) * (10 - x)) + 0)) j = _
    rw [e, va_up_self, if_pos (by omega), tearV, if_neg (by omega)]
    rw [hu k (by omega), if_neg (by omega)]
  · show va_up (cw u) k ((((cw u k) * (10 - x)) + 0)) j = _
    rw [va_up_ne _ _ e, hu j hj]
    by_cases e2 : k ≤ j
    · rw [if_pos (by omega), if_pos (by omega)]
    · rw [if_neg (by omega), if_neg (by omega)]) hca (by rw [eF21]; exact Same.up (Same.wide hs (by omega) (by omega)) (by omega) (by omega)) _ _ ls hC (lv_sub hl [0, 3, 4, 5] rfl)
      · have q_19 : ¬ k < d := fun z => c_19 ((nI_sub_lt0 (by omega) (by omega)).mpr z)
        refine lv_iload B.1 B.2.1 dX1_tearOut_22 (lv_at hl 0 rfl) ?_
        refine r_tI (y := nI (k - d)) (pk_sub (by omega)) ?_
        refine lv_aload_n B.1 B.2.1 dX1_tearOut_24 rfl (lv_at hl 2 rfl) ?_
        refine r_cg B hC (i := 153) (by decide) c0 (C := RX1) (T := TX1) (n := 2) rfl iwX1_tearOut_X1 0 (by decide) (index := 9) flX1_tearOut_9 rfl (v := .ref (ad (154))) rfl dX1_tearOut_25 ?_
        refine r_calen B hC (i := 154) (by decide) c1 2 rfl (n := 91) rfl dX1_tearOut_28 ?_
        refine lv_icmp_ge (tgt := 45) B.1 B.2.1 dX1_tearOut_29 (by decide) (fun z => absurd z (nI_ge (by omega) (by omega))) (fun _ => ?_)
        refine lv_aload_n B.1 B.2.1 dX1_tearOut_32 rfl (lv_at hl 2 rfl) ?_
        refine r_cg B hC (i := 153) (by decide) c0 (C := RX1) (T := TX1) (n := 2) rfl iwX1_tearOut_X1 0 (by decide) (index := 9) flX1_tearOut_9 rfl (v := .ref (ad (154))) rfl dX1_tearOut_33 ?_
        refine lv_iload B.1 B.2.1 dX1_tearOut_36 (lv_at hl 0 rfl) ?_
        refine r_tI (y := nI (k - d)) (pk_sub (by omega)) ?_
        refine r_clald B hC (i := 154) (by decide) c1 (j := (k - d)) (by omega) (by decide) dX1_tearOut_38 ?_
        refine r_tL (y := lN (cw u (k - d))) rfl ?_
        refine lv_iload_n B.1 B.2.1 dX1_tearOut_39 rfl (lv_at hl 4 rfl) ?_
        refine lv_i2l (v := lN x) B.1 B.2.1 dX1_tearOut_40 (nI_l (by omega)) ?_
        refine lv_lmul B.1 B.2.1 dX1_tearOut_41 ?_
        refine r_tL (y := lN ((cw u (k - d)) * x)) (lN_mul _ _) ?_
        refine lv_goto (tgt := 46) B.1 B.2.1 dX1_tearOut_42 (by decide) ?_
        refine lv_lstore (lv' := [(5, .long (lN ((cw u (k - d)) * x))), (4, .int (nI k - nI d)), (3, .int (nI k)), (0, .ref (ad (153))), (1, .int (nI d)), (2, .int (nI x))]) B.1 B.2.1 dX1_tearOut_46 hl (by decide) rfl (fun ls hl => ?_)
        refine lv_aload_n B.1 B.2.1 dX1_tearOut_48 rfl (lv_at hl 3 rfl) ?_
        refine r_cg B hC (i := 153) (by decide) c0 (C := RX1) (T := TX1) (n := 2) rfl iwX1_tearOut_X1 0 (by decide) (index := 9) flX1_tearOut_9 rfl (v := .ref (ad (154))) rfl dX1_tearOut_49 ?_
        refine lv_iload_n B.1 B.2.1 dX1_tearOut_52 rfl (lv_at hl 2 rfl) ?_
        refine lv_aload_n B.1 B.2.1 dX1_tearOut_53 rfl (lv_at hl 3 rfl) ?_
        refine r_cg B hC (i := 153) (by decide) c0 (C := RX1) (T := TX1) (n := 2) rfl iwX1_tearOut_X1 0 (by decide) (index := 9) flX1_tearOut_9 rfl (v := .ref (ad (154))) rfl dX1_tearOut_54 ?_
        refine lv_iload_n B.1 B.2.1 dX1_tearOut_57 rfl (lv_at hl 2 rfl) ?_
        refine r_clald B hC (i := 154) (by decide) c1 (j := k) (by omega) (by decide) dX1_tearOut_58 ?_
        refine r_tL (y := lN (cw u k)) rfl ?_
        refine lv_bipush (v := nI 10) B.1 B.2.1 dX1_tearOut_59 (by decide) ?_
        refine lv_iload_n B.1 B.2.1 dX1_tearOut_61 rfl (lv_at hl 5 rfl) ?_
        refine lv_isub B.1 B.2.1 dX1_tearOut_62 ?_
        refine r_tI (y := nI (10 - x)) (pk_sub (by omega)) ?_
        refine lv_i2l (v := lN (10 - x)) B.1 B.2.1 dX1_tearOut_63 (nI_l (by omega)) ?_
        refine lv_lmul B.1 B.2.1 dX1_tearOut_64 ?_
        refine r_tL (y := lN ((cw u k) * (10 - x))) (lN_mul _ _) ?_
        refine lv_lload B.1 B.2.1 dX1_tearOut_65 (lv_at hl 0 rfl) ?_
        refine lv_ladd B.1 B.2.1 dX1_tearOut_67 ?_
        refine r_tL (y := lN (((cw u k) * (10 - x)) + ((cw u (k - d)) * x))) (lN_add _ _) ?_
        refine r_clast B hC (i := 154) (by decide) c1 (j := k) (by omega) (by decide) dX1_tearOut_68 ?_
        intro H locs hC
        obtain ⟨F21, eF21⟩ : ∃ f : Nat → va_E, f = va_up G (154) (.inl (g.2.2 2, 91, .inr (.inl (fun j => lN (va_up (cw u) k ((((cw u k) * (10 - x)) + ((cw u (k - d)) * x))) j))))) := ⟨_, rfl⟩
        have hC : Cu g lo 196 ad F21 ss ss.heap H locs := by rw [eF21]; exact (by rw [← upd_lN (cw u) k ((((cw u k) * (10 - x)) + ((cw u (k - d)) * x)))]; exact hC)
        have k154_F21 : F21 154 = .inl (g.2.2 2, 91, .inr (.inl (fun j => lN (va_up (cw u) k ((((cw u k) * (10 - x)) + ((cw u (k - d)) * x))) j)))) := by rw [eF21]; exact va_up_self _ _ _
        have c0_F21 : F21 153 = .inr (1, [.ref (ad (154)), .long (lN (ca u))]) := by rw [eF21, va_up_ne _ _ (by decide)]; exact c0
        refine lv_iinc (v := nI k - nI 1) (lv' := [(3, .int (nI k - nI 1)), (5, .long (lN ((cw u (k - d)) * x))), (4, .int (nI k - nI d)), (0, .ref (ad (153))), (1, .int (nI d)), (2, .int (nI x))]) B.1 B.2.1 dX1_tearOut_69 hl (k := 2) rfl (nI_dec k) (by decide) rfl (fun ls hl => ?_)
        refine lv_goto (tgt := 8) B.1 B.2.1 dX1_tearOut_72 (by decide) ?_
        exact ih8 (va_up (cw u) k ((((cw u k) * (10 - x)) + ((cw u (k - d)) * x))), ca u) F21 (by omega) ⟨c0_F21, k154_F21⟩ (fun j hj => by
  by_cases e : j = k
  · show va_up (cw u) k ((((cw u k) * (10 - x)) + ((cw u (k - d)) * x))) j = _
    rw [e, va_up_self, if_pos (by omega), tearV, if_pos (by omega)]
    rw [hu k (by omega), if_neg (by omega), hu (k - d) (by omega), if_neg (by omega)]
  · show va_up (cw u) k ((((cw u k) * (10 - x)) + ((cw u (k - d)) * x))) j = _
    rw [va_up_ne _ _ e, hu j hj]
    by_cases e2 : k ≤ j
    · rw [if_pos (by omega), if_pos (by omega)]
    · rw [if_neg (by omega), if_neg (by omega)]) hca (by rw [eF21]; exact Same.up (Same.wide hs (by omega) (by omega)) (by omega) (by omega)) _ _ ls hC (lv_sub hl [0, 3, 4, 5] rfl)
  exact loop8 91 c F (by decide) hC0 (fun j hj => by rw [if_neg (by omega)]) rfl Same.rf _ _ ls hC (lv_sub hl [0, 1, 2, 3] rfl)
theorem iwX1_upTo_X1 : ∀ w ∈ u_ws RX1 TX1 2, w ∈ wsX1_upTo := by decide +kernel
theorem flX1_upTo_9 : Cond.fieldLink RX1 9 RX1 (TX1 0).2.1 (TX1 0).2.2.1 ∈ wsX1_upTo := by decide +kernel
set_option maxHeartbeats 4000000 in
set_option maxRecDepth 100000 in
theorem ctX1_upTo (l : Launch) (g : Gx) (lo : Nat) (ad : Nat → Nat) {F : Nat → va_E} {c : CV} (hC0 : ChC g ad F c) {y : Nat} (hy : y ≤ 99) : ML l g lo 196 ad yX1_upTo wsX1_upTo 0 0 [.ref (ad (153)), .int (nI y)] F (fun r F' => r = lN (sumTo (cw c) (min (y + 1) 91)) ∧ F' = F) := by
  obtain ⟨c0, c1⟩ := id hC0
  refine enter (cc := cX1_upTo) (maxL := 5) (ret := some .long) (own := RX1) (by decide +kernel) rfl rfl (Nat.le_of_ble_eq_true rfl) ?_
  intro pp ee ss mm below meth cc B hini hC ls hl
  have hl : lv_has ls 5 [(0, .ref (ad (153))), (1, .int (nI y))] := hl
  refine lv_lconst (v := lN 0) B.1 B.2.1 dX1_upTo_0 (by decide) ?_
  refine lv_lstore_n (lv' := [(2, .long (lN 0)), (0, .ref (ad (153))), (1, .int (nI y))]) B.1 B.2.1 dX1_upTo_1 rfl hl (by decide) rfl (fun ls hl => ?_)
  refine lv_iconst (v := nI 0) B.1 B.2.1 dX1_upTo_2 (by decide) ?_
  refine lv_istore (lv' := [(4, .int (nI 0)), (2, .long (lN 0)), (0, .ref (ad (153))), (1, .int (nI y))]) B.1 B.2.1 dX1_upTo_3 hl (by decide) rfl (fun ls hl => ?_)
  have loop5 : ∀ (k : Nat) (i a : Nat), (i + k = 91) → (i ≤ y + 1) → (a = sumTo (cw c) i) → ∀ (H : Heap) (locs : List Loc) (ls : Array Slot), Cu g lo 196 ad F ss ss.heap H locs → lv_has ls 5 [(4, .int (nI i)), (2, .long (lN a)), (0, .ref (ad (153))), (1, .int (nI y))] → W pp l ee { frames := 0, cells := 0, slots := 0, locals := 0 } ss mm ([.ref (ad (153)), .int (nI y)] : List Value).toArray below meth cc H locs 0 0 (MQ below (va_Ql (fun r F' => r = lN (sumTo (cw c) (min (y + 1) 91)) ∧ F' = F) (fun F' t => Wd g lo 196 ad F' t) (fun q => lo ≤ q)) ([.ref (ad (153)), .int (nI y)] : List Value).toArray ss 0 0 (fun q => lo ≤ q)) (F0 mm 5 ls []) := by
    intro k
    induction k with
    | zero =>
      intro i a hik hiy ha H locs ls hC hl
      refine lv_iload B.1 B.2.1 dX1_upTo_5 (lv_at hl 0 rfl) ?_
      refine lv_iload_n B.1 B.2.1 dX1_upTo_7 rfl (lv_at hl 3 rfl) ?_
      refine lv_icmp_gt (tgt := 37) B.1 B.2.1 dX1_upTo_8 (by decide) (fun c_8 => ?_) (fun c_8 => ?_)
      · have q_8 : y < i := (nI_ltI (by omega) (by omega)).mp c_8
        refine lv_lload_n B.1 B.2.1 dX1_upTo_37 rfl (lv_at hl 1 rfl) ?_
        exact r_eL B hC (v := lN a) (⟨by rw [ha, show min (y + 1) 91 = i by omega], rfl⟩) dX1_upTo_38
      · have q_8 : ¬ y < i := fun z => c_8 ((nI_ltI (by omega) (by omega)).mpr z)
        refine lv_iload B.1 B.2.1 dX1_upTo_11 (lv_at hl 0 rfl) ?_
        refine lv_aload_n B.1 B.2.1 dX1_upTo_13 rfl (lv_at hl 2 rfl) ?_
        refine r_cg B hC (i := 153) (by decide) c0 (C := RX1) (T := TX1) (n := 2) rfl iwX1_upTo_X1 0 (by decide) (index := 9) flX1_upTo_9 rfl (v := .ref (ad (154))) rfl dX1_upTo_14 ?_
        refine r_calen B hC (i := 154) (by decide) c1 2 rfl (n := 91) rfl dX1_upTo_17 ?_
        refine lv_icmp_ge (tgt := 37) B.1 B.2.1 dX1_upTo_18 (by decide) (fun _ => ?_) (fun z => absurd (nI_le (by omega) (by omega)) z)
        refine lv_lload_n B.1 B.2.1 dX1_upTo_37 rfl (lv_at hl 1 rfl) ?_
        exact r_eL B hC (v := lN a) (⟨by rw [ha, show min (y + 1) 91 = i by omega], rfl⟩) dX1_upTo_38
    | succ k ih5 =>
      intro i a hik hiy ha H locs ls hC hl
      refine lv_iload B.1 B.2.1 dX1_upTo_5 (lv_at hl 0 rfl) ?_
      refine lv_iload_n B.1 B.2.1 dX1_upTo_7 rfl (lv_at hl 3 rfl) ?_
      refine lv_icmp_gt (tgt := 37) B.1 B.2.1 dX1_upTo_8 (by decide) (fun c_8 => ?_) (fun c_8 => ?_)
      · have q_8 : y < i := (nI_ltI (by omega) (by omega)).mp c_8
        refine lv_lload_n B.1 B.2.1 dX1_upTo_37 rfl (lv_at hl 1 rfl) ?_
        exact r_eL B hC (v := lN a) (⟨by rw [ha, show min (y + 1) 91 = i by omega], rfl⟩) dX1_upTo_38
      · have q_8 : ¬ y < i := fun z => c_8 ((nI_ltI (by omega) (by omega)).mpr z)
        refine lv_iload B.1 B.2.1 dX1_upTo_11 (lv_at hl 0 rfl) ?_
        refine lv_aload_n B.1 B.2.1 dX1_upTo_13 rfl (lv_at hl 2 rfl) ?_
        refine r_cg B hC (i := 153) (by decide) c0 (C := RX1) (T := TX1) (n := 2) rfl iwX1_upTo_X1 0 (by decide) (index := 9) flX1_upTo_9 rfl (v := .ref (ad (154))) rfl dX1_upTo_14 ?_
        refine r_calen B hC (i := 154) (by decide) c1 2 rfl (n := 91) rfl dX1_upTo_17 ?_
        refine lv_icmp_ge (tgt := 37) B.1 B.2.1 dX1_upTo_18 (by decide) (fun z => absurd z (nI_ge (by omega) (by omega))) (fun _ => ?_)
        refine lv_lload_n B.1 B.2.1 dX1_upTo_21 rfl (lv_at hl 1 rfl) ?_
        refine lv_aload_n B.1 B.2.1 dX1_upTo_22 rfl (lv_at hl 2 rfl) ?_
        refine r_cg B hC (i := 153) (by decide) c0 (C := RX1) (T := TX1) (n := 2) rfl iwX1_upTo_X1 0 (by decide) (index := 9) flX1_upTo_9 rfl (v := .ref (ad (154))) rfl dX1_upTo_23 ?_
        refine lv_iload B.1 B.2.1 dX1_upTo_26 (lv_at hl 0 rfl) ?_
        refine r_clald B hC (i := 154) (by decide) c1 (j := i) (by omega) (by decide) dX1_upTo_28 ?_
        refine r_tL (y := lN (cw c i)) rfl ?_
        refine lv_ladd B.1 B.2.1 dX1_upTo_29 ?_
        refine r_tL (y := lN (a + (cw c i))) (lN_add _ _) ?_
        refine lv_lstore_n (lv' := [(2, .long (lN (a + (cw c i)))), (4, .int (nI i)), (0, .ref (ad (153))), (1, .int (nI y))]) B.1 B.2.1 dX1_upTo_30 rfl hl (by decide) rfl (fun ls hl => ?_)
        refine lv_iinc (v := nI (i + 1)) (lv' := [(4, .int (nI (i + 1))), (2, .long (lN (a + (cw c i)))), (0, .ref (ad (153))), (1, .int (nI y))]) B.1 B.2.1 dX1_upTo_31 hl (k := 1) rfl (nI_1 _) (by decide) rfl (fun ls hl => ?_)
        refine lv_goto (tgt := 5) B.1 B.2.1 dX1_upTo_34 (by decide) ?_
        exact ih5 (i + 1) (a + cw c i) (by omega) (by omega) (by rw [sumTo, ha]) _ _ ls hC (lv_sub hl [0, 1, 2, 3] rfl)
  exact loop5 91 0 0 (by decide) (by omega) rfl _ _ ls hC (lv_sub hl [0, 1, 2, 3] rfl)
