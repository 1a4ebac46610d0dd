/-! THE REFERENCE: gnaw -/
def wormL (w : LV) (t : Nat) : LV := (fun s => if s < t ∧ wh w s < 100 ∧ 9 ≤ wo w s then 200 else wh w s, ln w, fun s => if s < t ∧ wh w s < 100 ∧ 0 < wo w s then wo w s + 1 else wo w s, ti w, wa w, su w)
theorem wormL_wh (w : LV) (t s : Nat) : wh (wormL w t) s = if s < t ∧ wh w s < 100 ∧ 9 ≤ wo w s then 200 else wh w s := rfl
theorem wormL_wo (w : LV) (t s : Nat) : wo (wormL w t) s = if s < t ∧ wh w s < 100 ∧ 0 < wo w s then wo w s + 1 else wo w s := rfl
theorem wormL_t (w : LV) (t : Nat) : wh (wormL w t) t = wh w t ∧ wo (wormL w t) t = wo w t := by
  rw [wormL_wh, wormL_wo, if_neg (by omega), if_neg (by omega)]; exact ⟨rfl, rfl⟩
theorem gn_no {h : HV} {q : Nat → Nat → Int32} {b t : Nat} {w : LV} (k : BankR h q b (wormL w t)) (hn : ¬ (wh w t < 100 ∧ 0 < wo w t)) : BankR h q b (wormL w (t + 1)) := k.cong (fun s hs => by
  rw [wormL_wh, wormL_wo, wormL_wh, wormL_wo]
  by_cases e : s = t
  · subst e
    rw [if_neg (by omega), if_neg (by omega), if_neg (by omega), if_neg (by omega)]
    exact ⟨rfl, rfl, rfl⟩
  · have e2 : s < t + 1 ↔ s < t := by omega
    simp only [e2]
    exact ⟨trivial, rfl, trivial⟩)
theorem gn_yes {h : HV} {q : Nat → Nat → Int32} {b t x : Nat} {w : LV} (k : BankR h q b (wormL w t)) (h1 : wh w t < 100) (h2 : 0 < wo w t) (hx : x = if 9 ≤ wo w t then 200 else wh w t) : BankR h (va_up (va_up q 188 (upd (q 188) (b + t) (nI (wo w t + 1)))) 186 (upd (q 186) (b + t) (nI x))) b (wormL w (t + 1)) := fun s hs => by
  obtain ⟨k1, k2, k3⟩ := k s hs
  refine ⟨?_, k2, ?_⟩
  · show (if b + s = b + t then nI x else q 186 (b + s)) = _
    rw [wormL_wh]
    by_cases e : s = t
    · subst e
      rw [if_pos rfl, hx]
      by_cases h9 : 9 ≤ wo w s
      · rw [if_pos h9, if_pos ⟨by omega, h1, h9⟩]
      · rw [if_neg h9, if_neg (by omega)]
    · rw [if_neg (by omega), k1, wormL_wh]
      have e2 : s < t + 1 ↔ s < t := by omega
      simp only [e2]
  · show (if b + s = b + t then nI (wo w t + 1) else q 188 (b + s)) = _
    rw [wormL_wo]
    by_cases e : s = t
    · subst e
      rw [if_pos rfl, if_pos ⟨by omega, h1, h2⟩]
    · rw [if_neg (by omega), k3, wormL_wo]
      have e2 : s < t + 1 ↔ s < t := by omega
      simp only [e2]
theorem in_t {h : HV} {w : LV} (ok : HOK h) (k : LOK h w) {p t : Nat} (ht : t < 10) (hp : p < 10) (q : wh w t = p) : ti w p = some t := (k.2.2.2.1 p t hp).mpr ⟨ht, q⟩
theorem worm1_at {w : LV} {p t0 : Nat} (hh : ti w p = some t0) (t : Nat) : wh (worm1 w p) t = (if t = t0 ∧ 9 ≤ wo w t0 then 200 else wh w t) ∧ ln (worm1 w p) t = ln w t ∧ wo (worm1 w p) t = if t = t0 ∧ 0 < wo w t0 then wo w t0 + 1 else wo w t := by
  unfold worm1
  rw [hh]
  show wh (if 0 < wo w t0 then (if 10 ≤ wo (wormV w t0) t0 then bringV (wormV w t0) t0 200 else wormV w t0) else w) t = _ ∧ ln (if 0 < wo w t0 then (if 10 ≤ wo (wormV w t0) t0 then bringV (wormV w t0) t0 200 else wormV w t0) else w) t = _ ∧ wo (if 0 < wo w t0 then (if 10 ≤ wo (wormV w t0) t0 then bringV (wormV w t0) t0 200 else wormV w t0) else w) t = _
  rw [worm_wo]
  by_cases h0 : 0 < wo w t0
  · rw [if_pos h0]
    by_cases h9 : 10 ≤ wo w t0 + 1
    · rw [if_pos h9]
      refine ⟨?_, rfl, ?_⟩
      · show va_up (wh w) t0 200 t = _
        by_cases e : t = t0
        · rw [e, va_up_self, if_pos ⟨rfl, by omega⟩]
        · rw [va_up_ne _ _ e, if_neg (fun z => e z.1)]
      · show va_up (wo w) t0 (wo w t0 + 1) t = _
        by_cases e : t = t0
        · rw [e, va_up_self, if_pos ⟨rfl, h0⟩]
        · rw [va_up_ne _ _ e, if_neg (fun z => e z.1)]
    · rw [if_neg h9]
      refine ⟨?_, rfl, ?_⟩
      · rw [if_neg (by omega)]; rfl
      · show va_up (wo w) t0 (wo w t0 + 1) t = _
        by_cases e : t = t0
        · rw [e, va_up_self, if_pos ⟨rfl, h0⟩]
        · rw [va_up_ne _ _ e, if_neg (fun z => e z.1)]
  · rw [if_neg h0, if_neg (by omega), if_neg (by omega)]
    exact ⟨rfl, rfl, rfl⟩
/-- the worms, place by place or timber by timber: the same -/
theorem wormTo_at {h : HV} {w : LV} (ok : HOK h) (k : LOK h w) {t : Nat} (ht : t < 10) : ∀ p, p ≤ hn h → wh (wormTo w p) t = (if wh w t < p ∧ 9 ≤ wo w t then 200 else wh w t) ∧ ln (wormTo w p) t = ln w t ∧ wo (wormTo w p) t = if wh w t < p ∧ 0 < wo w t then wo w t + 1 else wo w t
  | 0, _ => by
    rw [if_neg (by omega), if_neg (by omega)]; exact ⟨rfl, rfl, rfl⟩
  | p + 1, hp => by
    have okn := ok.1
    obtain ⟨i1, i2, i3⟩ := wormTo_at ok k ht p (by omega)
    have kp := LOK_wormTo ok k (p := p) (by omega)
    show wh (worm1 (wormTo w p) p) t = _ ∧ ln (worm1 (wormTo w p) p) t = _ ∧ wo (worm1 (wormTo w p) p) t = _
    cases hh : ti (wormTo w p) p with
    | none =>
      have e : worm1 (wormTo w p) p = wormTo w p := by unfold worm1; rw [hh]
      rw [e, i1, i2, i3]
      have hne : wh w t ≠ p := fun z => by
        rw [if_neg (by omega)] at i1
        have := (kp.2.2.2.1 p t (by omega)).mpr ⟨ht, by rw [i1, z]⟩
        rw [hh] at this; cases this
      have e2 : wh w t < p + 1 ↔ wh w t < p := by omega
      simp only [e2]
      exact ⟨trivial, trivial, trivial⟩
    | some t0 =>
      obtain ⟨j1, j2, j3⟩ := worm1_at hh t
      rw [j1, j2, j3, i1, i2, i3]
      have q0 := (kp.2.2.2.1 p t0 (by omega)).mp hh
      obtain ⟨m1, m2, m3⟩ := wormTo_at ok k q0.1 p (by omega)
      have e0 : wh w t0 = p := by
        have := q0.2
        rw [m1] at this
        split at this <;> omega
      rw [m3, if_neg (show ¬ (wh w t0 < p ∧ 0 < wo w t0) by omega)]
      by_cases e : t = t0
      · subst e
        have x1 : ¬ (wh w t < p ∧ 9 ≤ wo w t) := by omega
        have x2 : ¬ (wh w t < p ∧ 0 < wo w t) := by omega
        rw [if_neg x1, if_neg x2]
        refine ⟨?_, rfl, ?_⟩
        · by_cases h9 : 9 ≤ wo w t
          · rw [if_pos ⟨rfl, h9⟩, if_pos ⟨by omega, h9⟩]
          · rw [if_neg (fun z => h9 z.2), if_neg (fun z => h9 z.2)]
        · by_cases h9 : 0 < wo w t
          · rw [if_pos ⟨rfl, h9⟩, if_pos ⟨by omega, h9⟩]
          · rw [if_neg (fun z => h9 z.2), if_neg (fun z => h9 z.2)]
      · rw [if_neg (show ¬ (t = t0 ∧ 9 ≤ wo w t0) from fun z => e z.1), if_neg (show ¬ (t = t0 ∧ 0 < wo w t0) from fun z => e z.1)]
        have hne : wh w t ≠ p := fun z => by
          have a := in_t ok k ht (show p < 10 by omega) z
          have b := in_t ok k q0.1 (show p < 10 by omega) e0
          rw [a] at b; cases b; exact e rfl
        have e2 : wh w t < p + 1 ↔ wh w t < p := by omega
        exact ⟨by simp only [e2], rfl, by simp only [e2]⟩
theorem wormL_To {h : HV} {w : LV} (ok : HOK h) (k : LOK h w) {q : Nat → Nat → Int32} {b : Nat} (hB : BankR h q b (wormL w (hn h))) : BankR h q b (wormTo w (hn h)) := hB.cong (fun t ht => by
  have okn := ok.1
  obtain ⟨i1, i2, i3⟩ := wormTo_at ok k (show t < 10 by omega) (hn h) (Nat.le_refl _)
  rw [i1, i2, i3, wormL_wh, wormL_wo]
  have k5 := k.2.2.2.2.1 t (by omega)
  have e2 : wh w t < hn h ↔ (t < hn h ∧ wh w t < 100) := by omega
  simp only [e2, and_assoc]
  exact ⟨trivial, rfl, trivial⟩)
theorem iwX9_gnaw_X9 : ∀ w ∈ u_ws RX9 TX9 35, w ∈ wsX9_gnaw := by decide +kernel
theorem flX9_gnaw_40 : Cond.fieldLink RX9 40 RX9 (TX9 19).2.1 (TX9 19).2.2.1 ∈ wsX9_gnaw := by decide +kernel
theorem flX9_gnaw_46 : Cond.fieldLink RX9 46 RX9 (TX9 21).2.1 (TX9 21).2.2.1 ∈ wsX9_gnaw := by decide +kernel
theorem flX9_gnaw_114 : Cond.fieldLink RX9 114 RX9 (TX9 12).2.1 (TX9 12).2.2.1 ∈ wsX9_gnaw := by decide +kernel
set_option maxHeartbeats 4000000 in
set_option maxRecDepth 100000 in
theorem ctX9_gnaw (l : Launch) (g : Gx) (lo : Nat) (ad : Nat → Nat) {F : Nat → va_E} {c : Nat → Int32} {q : Nat → Nat → Int32} {su : Nat → Int64} (hM : MC g ad F c q su) {h : HV} (ok : HOK h) (hR : HullR h c q) {b : Nat} {w : LV} (hb : b ≤ 50) (hB : BankR h q b w) (hw : LOK h w) : MV l g lo 196 ad yX9_gnaw wsX9_gnaw 2 47 [.ref (ad (175)), .int (nI b)] F (fun F' => ∃ q', MC g ad F' c q' su ∧ Same 175 196 F F' ∧ QS b q q' ∧ BankR h q' b (downTo h (wormTo w (hn h)) (hn h))) := by
  have okn := ok.1
  have okp := ok.2.1
  have okh := ok.2.2.1
  have hS : Same 175 196 F F := Same.rf
  refine enter (cc := cX9_gnaw) (maxL := 3) (ret := none) (own := RX9) (by decide +kernel) rfl rfl (Nat.le_of_ble_eq_true rfl) ?_
  intro pp ee ss mm below meth cc B hini hC ls hl
  have hl : lv_has ls 3 [(0, .ref (ad (175))), (1, .int (nI b))] := hl
  refine lv_iconst (v := nI 0) B.1 B.2.1 dX9_gnaw_0 (by decide) ?_
  refine lv_istore_n (lv' := [(2, .int (nI 0)), (0, .ref (ad (175))), (1, .int (nI b))]) B.1 B.2.1 dX9_gnaw_1 rfl hl (by decide) rfl (fun ls hl => ?_)
  have loop2 : ∀ (k : Nat) (t : Nat) (q1 : Nat → Nat → Int32) (G : Nat → va_E), (t + k = hn h) → (MC g ad G c q1 su) → (Same 175 196 F G) → (QS b q q1) → (BankR h q1 b (wormL w t)) → ∀ (H : Heap) (locs : List Loc) (ls : Array Slot), Cu g lo 196 ad G ss ss.heap H locs → lv_has ls 3 [(2, .int (nI t)), (0, .ref (ad (175))), (1, .int (nI b))] → W pp l ee { frames := 2, cells := 0, slots := 0, locals := 47 } ss mm ([.ref (ad (175)), .int (nI b)] : List Value).toArray below meth cc H locs 0 0 (MQ below (va_Qv (fun F' => ∃ q', MC g ad F' c q' su ∧ Same 175 196 F F' ∧ QS b q q' ∧ BankR h q' b (downTo h (wormTo w (hn h)) (hn h))) (fun F' t => Wd g lo 196 ad F' t) (fun q => lo ≤ q)) ([.ref (ad (175)), .int (nI b)] : List Value).toArray ss 0 0 (fun q => lo ≤ q)) (F0 mm 2 ls []) := by
    intro k
    induction k with
    | zero =>
      intro t q1 G htk hM1 hS1 hQ1 hB1 H locs ls hC hl
      have w3 := (hw.1 t).1
      have w4 := (hw.1 t).2.2
      refine lv_iload_n B.1 B.2.1 dX9_gnaw_2 rfl (lv_at hl 0 rfl) ?_
      refine lv_aload_n B.1 B.2.1 dX9_gnaw_3 rfl (lv_at hl 1 rfl) ?_
      refine r_cg B hC (i := 175) (by decide) hM1.1 (C := RX9) (T := TX9) (n := 35) rfl iwX9_gnaw_X9 12 (by decide) (index := 114) flX9_gnaw_114 rfl (v := .int (c 12)) rfl dX9_gnaw_4 ?_
      refine r_tI (y := nI (hn h)) (hR.1) ?_
      refine lv_icmp_ge (tgt := 87) B.1 B.2.1 dX9_gnaw_7 (by decide) (fun _ => ?_) (fun z => absurd (nI_le (by omega) (by omega)) z)
      have hBW : BankR h q1 b (wormTo w (hn h)) := wormL_To ok hw ((show t = hn h by omega) ▸ hB1)
      have hwW := LOK_wormTo ok hw (p := hn h) okn
      refine lv_aload_n B.1 B.2.1 dX9_gnaw_87 rfl (lv_at hl 1 rfl) ?_
      refine lv_iload_n B.1 B.2.1 dX9_gnaw_88 rfl (lv_at hl 2 rfl) ?_
      refine r_callv B hC hl.1 (175) 9 rfl rfl (by decide) hM1.1 (As := [.int (nI b)]) (ctX9_comeDown l g lo ad hM1 ok (hR.qs hQ1) hb hBW hwW) gX9_gnaw_X9_comeDown rfl (n := 1) rfl (by decide +kernel) ⟨Nat.le_of_ble_eq_true rfl, Nat.le_of_ble_eq_true rfl⟩ ⟨Nat.zero_le _, Nat.zero_le _⟩ rfl (Nat.le_of_ble_eq_true rfl) dX9_gnaw_89 (fun F21 H locs hp89 hC => ?_)
      obtain ⟨q21, hM_F21, hT_F21, hq89, hb89⟩ := hp89
      have hS_F21 : Same 175 196 F F21 := Same.tr2 hS1 hT_F21 (by decide) (by decide)
      exact r_eV B hC (⟨_, hM_F21, hS_F21, hQ1.tr hq89, hb89⟩) dX9_gnaw_92
    | succ k ih2 =>
      intro t q1 G htk hM1 hS1 hQ1 hB1 H locs ls hC hl
      have w3 := (hw.1 t).1
      have w4 := (hw.1 t).2.2
      refine lv_iload_n B.1 B.2.1 dX9_gnaw_2 rfl (lv_at hl 0 rfl) ?_
      refine lv_aload_n B.1 B.2.1 dX9_gnaw_3 rfl (lv_at hl 1 rfl) ?_
      refine r_cg B hC (i := 175) (by decide) hM1.1 (C := RX9) (T := TX9) (n := 35) rfl iwX9_gnaw_X9 12 (by decide) (index := 114) flX9_gnaw_114 rfl (v := .int (c 12)) rfl dX9_gnaw_4 ?_
      refine r_tI (y := nI (hn h)) (hR.1) ?_
      refine lv_icmp_ge (tgt := 87) B.1 B.2.1 dX9_gnaw_7 (by decide) (fun z => absurd z (nI_ge (by omega) (by omega))) (fun _ => ?_)
      refine lv_aload_n B.1 B.2.1 dX9_gnaw_10 rfl (lv_at hl 1 rfl) ?_
      refine r_cg B hC (i := 175) (by decide) hM1.1 (C := RX9) (T := TX9) (n := 35) rfl iwX9_gnaw_X9 19 (by decide) (index := 40) flX9_gnaw_40 rfl (v := .ref (ad (186))) rfl dX9_gnaw_11 ?_
      refine lv_iload_n B.1 B.2.1 dX9_gnaw_14 rfl (lv_at hl 2 rfl) ?_
      refine lv_iload_n B.1 B.2.1 dX9_gnaw_15 rfl (lv_at hl 0 rfl) ?_
      refine lv_iadd B.1 B.2.1 dX9_gnaw_16 ?_
      refine r_tI (y := nI (b + t)) (nI_add _ _) ?_
      refine r_cald B hC (i := 186) (by decide) hM1.c186 (j := (b + t)) (by omega) (by decide) dX9_gnaw_17 ?_
      refine r_tI (y := q1 186 (b + t)) rfl ?_
      refine r_tI (y := nI (wh w t)) (by rw [(hB1 t (by omega)).1, (wormL_t w t).1]) ?_
      refine lv_bipush (v := nI 100) B.1 B.2.1 dX9_gnaw_18 (by decide) ?_
      refine lv_icmp_ge (tgt := 81) B.1 B.2.1 dX9_gnaw_20 (by decide) (fun c_20 => ?_) (fun c_20 => ?_)
      · have q_20 : 100 ≤ (wh w t) := (nI_leI (by omega) (by omega)).mp c_20
        refine lv_iinc (v := nI (t + 1)) (lv' := [(2, .int (nI (t + 1))), (0, .ref (ad (175))), (1, .int (nI b))]) B.1 B.2.1 dX9_gnaw_81 hl (k := 0) rfl (nI_1 _) (by decide) rfl (fun ls hl => ?_)
        refine lv_goto (tgt := 2) B.1 B.2.1 dX9_gnaw_84 (by decide) ?_
        exact ih2 (t + 1) q1 G (by omega) hM1 hS1 hQ1 (gn_no hB1 (by omega)) _ _ ls hC (lv_sub hl [0, 1, 2] rfl)
      · have q_20 : ¬ 100 ≤ (wh w t) := fun z => c_20 ((nI_leI (by omega) (by omega)).mpr z)
        refine lv_aload_n B.1 B.2.1 dX9_gnaw_23 rfl (lv_at hl 1 rfl) ?_
        refine r_cg B hC (i := 175) (by decide) hM1.1 (C := RX9) (T := TX9) (n := 35) rfl iwX9_gnaw_X9 21 (by decide) (index := 46) flX9_gnaw_46 rfl (v := .ref (ad (188))) rfl dX9_gnaw_24 ?_
        refine lv_iload_n B.1 B.2.1 dX9_gnaw_27 rfl (lv_at hl 2 rfl) ?_
        refine lv_iload_n B.1 B.2.1 dX9_gnaw_28 rfl (lv_at hl 0 rfl) ?_
        refine lv_iadd B.1 B.2.1 dX9_gnaw_29 ?_
        refine r_tI (y := nI (b + t)) (nI_add _ _) ?_
        refine r_cald B hC (i := 188) (by decide) hM1.c188 (j := (b + t)) (by omega) (by decide) dX9_gnaw_30 ?_
        refine r_tI (y := q1 188 (b + t)) rfl ?_
        refine r_tI (y := nI (wo w t)) (by rw [(hB1 t (by omega)).2.2, (wormL_t w t).2]) ?_
        refine lv_if_le (tgt := 81) B.1 B.2.1 dX9_gnaw_31 (by decide) (fun c_31 => ?_) (fun c_31 => ?_)
        · have q_31 : wo w t = 0 := Classical.byContradiction (fun z => nI_nle (by omega) (by omega) c_31)
          refine lv_iinc (v := nI (t + 1)) (lv' := [(2, .int (nI (t + 1))), (0, .ref (ad (175))), (1, .int (nI b))]) B.1 B.2.1 dX9_gnaw_81 hl (k := 0) rfl (nI_1 _) (by decide) rfl (fun ls hl => ?_)
          refine lv_goto (tgt := 2) B.1 B.2.1 dX9_gnaw_84 (by decide) ?_
          exact ih2 (t + 1) q1 G (by omega) hM1 hS1 hQ1 (gn_no hB1 (by omega)) _ _ ls hC (lv_sub hl [0, 1, 2] rfl)
        · have q_31 : ¬ wo w t = 0 := fun z => c_31 (nI_le0 z)
          have w5 := hw.2.2.2.2.2.2.1 t (by omega) (by omega)
          refine lv_aload_n B.1 B.2.1 dX9_gnaw_34 rfl (lv_at hl 1 rfl) ?_
          refine r_cg B hC (i := 175) (by decide) hM1.1 (C := RX9) (T := TX9) (n := 35) rfl iwX9_gnaw_X9 21 (by decide) (index := 46) flX9_gnaw_46 rfl (v := .ref (ad (188))) rfl dX9_gnaw_35 ?_
          refine lv_iload_n B.1 B.2.1 dX9_gnaw_38 rfl (lv_at hl 2 rfl) ?_
          refine lv_iload_n B.1 B.2.1 dX9_gnaw_39 rfl (lv_at hl 0 rfl) ?_
          refine lv_iadd B.1 B.2.1 dX9_gnaw_40 ?_
          refine r_tI (y := nI (b + t)) (nI_add _ _) ?_
          refine lv_dup2_11 B.1 B.2.1 dX9_gnaw_41 rfl rfl ?_
          refine r_cald B hC (i := 188) (by decide) hM1.c188 (j := (b + t)) (by omega) (by decide) dX9_gnaw_42 ?_
          refine r_tI (y := q1 188 (b + t)) rfl ?_
          refine r_tI (y := nI (wo w t)) (by rw [(hB1 t (by omega)).2.2, (wormL_t w t).2]) ?_
          refine lv_iconst (v := nI 1) B.1 B.2.1 dX9_gnaw_43 (by decide) ?_
          refine lv_iadd B.1 B.2.1 dX9_gnaw_44 ?_
          refine r_tI (y := nI ((wo w t) + 1)) (nI_add _ _) ?_
          refine r_cast B hC (i := 188) (by decide) hM1.c188 (j := (b + t)) (by omega) (by decide) dX9_gnaw_45 ?_
          intro H locs hC
          obtain ⟨F21, eF21⟩ : ∃ f : Nat → va_E, f = va_up G 188 (.inl (g.2.2 0, 60, .inl (upd (q1 188) ((b + t)) (nI ((wo w t) + 1))))) := ⟨_, rfl⟩
          have hC : Cu g lo 196 ad F21 ss ss.heap H locs := by rw [eF21]; exact hC
          obtain ⟨q21, eq21⟩ : ∃ f, f = va_up q1 188 (upd (q1 188) ((b + t)) (nI ((wo w t) + 1))) := ⟨_, rfl⟩
          have hM_F21 : MC g ad F21 c q21 su := by rw [eq21]; exact hM1.arr (by decide) (by decide) (by decide) (by decide) (by decide) eF21
          have hR_F21 : HullR h c q21 := by rw [eq21]; exact (hR.qs hQ1).upq (by decide)
          have hS_F21 : Same 175 196 F F21 := by rw [eF21]; exact hS1.up (by decide) (by decide)
          have hQ2 : QS b q q21 := by rw [eq21]; exact hQ1.up (by decide) (by omega)
          refine lv_aload_n B.1 B.2.1 dX9_gnaw_46 rfl (lv_at hl 1 rfl) ?_
          refine r_cg B hC (i := 175) (by decide) hM_F21.1 (C := RX9) (T := TX9) (n := 35) rfl iwX9_gnaw_X9 19 (by decide) (index := 40) flX9_gnaw_40 rfl (v := .ref (ad (186))) rfl dX9_gnaw_47 ?_
          refine lv_iload_n B.1 B.2.1 dX9_gnaw_50 rfl (lv_at hl 2 rfl) ?_
          refine lv_iload_n B.1 B.2.1 dX9_gnaw_51 rfl (lv_at hl 0 rfl) ?_
          refine lv_iadd B.1 B.2.1 dX9_gnaw_52 ?_
          refine r_tI (y := nI (b + t)) (nI_add _ _) ?_
          refine lv_aload_n B.1 B.2.1 dX9_gnaw_53 rfl (lv_at hl 1 rfl) ?_
          refine r_cg B hC (i := 175) (by decide) hM_F21.1 (C := RX9) (T := TX9) (n := 35) rfl iwX9_gnaw_X9 21 (by decide) (index := 46) flX9_gnaw_46 rfl (v := .ref (ad (188))) rfl dX9_gnaw_54 ?_
          refine lv_iload_n B.1 B.2.1 dX9_gnaw_57 rfl (lv_at hl 2 rfl) ?_
          refine lv_iload_n B.1 B.2.1 dX9_gnaw_58 rfl (lv_at hl 0 rfl) ?_
          refine lv_iadd B.1 B.2.1 dX9_gnaw_59 ?_
          refine r_tI (y := nI (b + t)) (nI_add _ _) ?_
          refine r_cald B hC (i := 188) (by decide) hM_F21.c188 (j := (b + t)) (by omega) (by decide) dX9_gnaw_60 ?_
          refine r_tI (y := q21 188 (b + t)) rfl ?_
          refine r_tI (y := nI (wo w t + 1)) (by rw [eq21, va_up_self]; show (if b + t = b + t then _ else _) = _; rw [if_pos rfl]) ?_
          refine lv_bipush (v := nI 10) B.1 B.2.1 dX9_gnaw_61 (by decide) ?_
          refine lv_icmp_ne (tgt := 72) B.1 B.2.1 dX9_gnaw_63 (by decide) (fun c_63 => ?_) (fun c_63 => ?_)
          · have q_63 : ¬ (wo w t + 1) = 10 := fun z => c_63 ((nI_eq (by omega) (by omega)).mpr z)
            refine lv_aload_n B.1 B.2.1 dX9_gnaw_72 rfl (lv_at hl 1 rfl) ?_
            refine r_cg B hC (i := 175) (by decide) hM_F21.1 (C := RX9) (T := TX9) (n := 35) rfl iwX9_gnaw_X9 19 (by decide) (index := 40) flX9_gnaw_40 rfl (v := .ref (ad (186))) rfl dX9_gnaw_73 ?_
            refine lv_iload_n B.1 B.2.1 dX9_gnaw_76 rfl (lv_at hl 2 rfl) ?_
            refine lv_iload_n B.1 B.2.1 dX9_gnaw_77 rfl (lv_at hl 0 rfl) ?_
            refine lv_iadd B.1 B.2.1 dX9_gnaw_78 ?_
            refine r_tI (y := nI (b + t)) (nI_add _ _) ?_
            refine r_cald B hC (i := 186) (by decide) hM_F21.c186 (j := (b + t)) (by omega) (by decide) dX9_gnaw_79 ?_
            refine r_tI (y := q21 186 (b + t)) rfl ?_
            refine r_tI (y := nI (wh w t)) (by rw [eq21, va_up_ne _ _ (by decide), (hB1 t (by omega)).1, (wormL_t w t).1]) ?_
            refine r_cast B hC (i := 186) (by decide) hM_F21.c186 (j := (b + t)) (by omega) (by decide) dX9_gnaw_80 ?_
            intro H locs hC
            obtain ⟨F22, eF22⟩ : ∃ f : Nat → va_E, f = va_up F21 186 (.inl (g.2.2 0, 60, .inl (upd (q21 186) ((b + t)) (nI (wh w t))))) := ⟨_, rfl⟩
            have hC : Cu g lo 196 ad F22 ss ss.heap H locs := by rw [eF22]; exact hC
            obtain ⟨q22, eq22⟩ : ∃ f, f = va_up q21 186 (upd (q21 186) ((b + t)) (nI (wh w t))) := ⟨_, rfl⟩
            have hM_F22 : MC g ad F22 c q22 su := by rw [eq22]; exact hM_F21.arr (by decide) (by decide) (by decide) (by decide) (by decide) eF22
            have hR_F22 : HullR h c q22 := by rw [eq22]; exact hR_F21.upq (by decide)
            have hS_F22 : Same 175 196 F F22 := by rw [eF22]; exact hS_F21.up (by decide) (by decide)
            have hQ3 : QS b q q22 := by rw [eq22]; exact hQ2.up (by decide) (by omega)
            refine lv_iinc (v := nI (t + 1)) (lv' := [(2, .int (nI (t + 1))), (0, .ref (ad (175))), (1, .int (nI b))]) B.1 B.2.1 dX9_gnaw_81 hl (k := 0) rfl (nI_1 _) (by decide) rfl (fun ls hl => ?_)
            refine lv_goto (tgt := 2) B.1 B.2.1 dX9_gnaw_84 (by decide) ?_
            exact ih2 (t + 1) q22 F22 (by omega) hM_F22 hS_F22 hQ3 (by rw [show q22 = va_up (va_up q1 188 (upd (q1 188) (b + t) (nI (wo w t + 1)))) 186 (upd (q1 186) (b + t) (nI (wh w t))) by subst eq22 eq21; rfl]; exact gn_yes hB1 (by omega) (by omega) (by rw [if_neg (by omega)])) _ _ ls hC (lv_sub hl [0, 1, 2] rfl)
          · have q_63 : (wo w t + 1) = 10 := (nI_eq (by omega) (by omega)).mp c_63
            refine lv_sipush (v := nI 200) B.1 B.2.1 dX9_gnaw_66 (by decide) ?_
            refine lv_goto (tgt := 80) B.1 B.2.1 dX9_gnaw_69 (by decide) ?_
            refine r_cast B hC (i := 186) (by decide) hM_F21.c186 (j := (b + t)) (by omega) (by decide) dX9_gnaw_80 ?_
            intro H locs hC
            obtain ⟨F22, eF22⟩ : ∃ f : Nat → va_E, f = va_up F21 186 (.inl (g.2.2 0, 60, .inl (upd (q21 186) ((b + t)) (nI 200)))) := ⟨_, rfl⟩
            have hC : Cu g lo 196 ad F22 ss ss.heap H locs := by rw [eF22]; exact hC
            obtain ⟨q22, eq22⟩ : ∃ f, f = va_up q21 186 (upd (q21 186) ((b + t)) (nI 200)) := ⟨_, rfl⟩
            have hM_F22 : MC g ad F22 c q22 su := by rw [eq22]; exact hM_F21.arr (by decide) (by decide) (by decide) (by decide) (by decide) eF22
            have hR_F22 : HullR h c q22 := by rw [eq22]; exact hR_F21.upq (by decide)
            have hS_F22 : Same 175 196 F F22 := by rw [eF22]; exact hS_F21.up (by decide) (by decide)
            have hQ3 : QS b q q22 := by rw [eq22]; exact hQ2.up (by decide) (by omega)
            refine lv_iinc (v := nI (t + 1)) (lv' := [(2, .int (nI (t + 1))), (0, .ref (ad (175))), (1, .int (nI b))]) B.1 B.2.1 dX9_gnaw_81 hl (k := 0) rfl (nI_1 _) (by decide) rfl (fun ls hl => ?_)
            refine lv_goto (tgt := 2) B.1 B.2.1 dX9_gnaw_84 (by decide) ?_
            exact ih2 (t + 1) q22 F22 (by omega) hM_F22 hS_F22 hQ3 (by rw [show q22 = va_up (va_up q1 188 (upd (q1 188) (b + t) (nI (wo w t + 1)))) 186 (upd (q1 186) (b + t) (nI 200)) by subst eq22 eq21; rfl]; exact gn_yes hB1 (by omega) (by omega) (by rw [if_pos (by omega)])) _ _ ls hC (lv_sub hl [0, 1, 2] rfl)
  exact loop2 (hn h) 0 q F (by omega) hM hS QS.rf (hB.cong (fun s hs => by rw [wormL_wh, wormL_wo, if_neg (by omega), if_neg (by omega)]; exact ⟨rfl, rfl, rfl⟩)) _ _ ls hC (lv_sub hl [0, 1, 2] rfl)
