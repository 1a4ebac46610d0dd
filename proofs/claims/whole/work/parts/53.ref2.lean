/-! THE REFERENCE: copy, openSet, leakOf, goes -/
def cp3 (q : Nat → Nat → Int32) (a b t : Nat) : Nat → Nat → Int32 := va_up (va_up (va_up q 186 (upd (q 186) (b + t) (q 186 (a + t)))) 187 (upd (q 187) (b + t) (q 187 (a + t)))) 188 (upd (q 188) (b + t) (q 188 (a + t)))
def CP (a b t : Nat) (q q1 : Nat → Nat → Int32) : Prop := QS b q q1 ∧ ∀ i, i < t → ∀ k, 186 ≤ k → k ≤ 188 → q1 k (b + i) = q k (a + i)
theorem cp3_k {q : Nat → Nat → Int32} {a b t k : Nat} (h1 : 186 ≤ k) (h2 : k ≤ 188) : cp3 q a b t k = upd (q k) (b + t) (q k (a + t)) := by
  rcases (show k = 186 ∨ k = 187 ∨ k = 188 by omega) with rfl | rfl | rfl <;> rfl
theorem cp3_n {q : Nat → Nat → Int32} {a b t k : Nat} (h : k < 186 ∨ 188 < k) : cp3 q a b t k = q k := by
  unfold cp3
  rw [va_up_ne _ _ (by omega), va_up_ne _ _ (by omega), va_up_ne _ _ (by omega)]
theorem cp_step {a b t : Nat} {q q1 : Nat → Nat → Int32} (h : CP a b t q q1) (ht : t < 10) (hab : a + 10 ≤ b ∨ b + 10 ≤ a) : CP a b (t + 1) q (cp3 q1 a b t) := by
  obtain ⟨h1, h2⟩ := h
  refine ⟨fun k => ⟨fun z => by rw [cp3_n z]; exact (h1 k).1 z, fun j z => ?_⟩, fun i hi k k1 k2 => ?_⟩
  · by_cases z2 : k < 186 ∨ 188 < k
    · rw [cp3_n z2]; exact (h1 k).2 j z
    · rw [cp3_k (by omega) (by omega)]
      show (if j = b + t then _ else q1 k j) = q k j
      rw [if_neg (by omega)]; exact (h1 k).2 j z
  · rw [cp3_k k1 k2]
    show (if b + i = b + t then q1 k (a + t) else q1 k (b + i)) = q k (a + i)
    split
    · next e => rw [show i = t by omega]; exact (h1 k).2 _ (by omega)
    · exact h2 i (by omega) k k1 k2
theorem CP.bank {a b : Nat} {q q1 : Nat → Nat → Int32} {h : HV} {w : LV} (k : CP a b 10 q q1) (hn10 : hn h ≤ 10) (hB : BankR h q a w) : BankR h q1 b w := fun t ht => by
  rw [k.2 t (by omega) 186 (by decide) (by decide), k.2 t (by omega) 187 (by decide) (by decide), k.2 t (by omega) 188 (by decide) (by decide)]
  exact hB t ht
theorem BankR.cong {h : HV} {q : Nat → Nat → Int32} {b : Nat} {w w' : LV} (k : BankR h q b w) (e : ∀ t, t < hn h → wh w' t = wh w t ∧ ln w' t = ln w t ∧ wo w' t = wo w t) : BankR h q b w' := fun t ht => by
  rw [(e t ht).1, (e t ht).2.1, (e t ht).2.2]; exact k t ht
theorem BankR.bring {h : HV} {q : Nat → Nat → Int32} {b t x : Nat} {w : LV} (k : BankR h q b w) : BankR h (va_up q 186 (upd (q 186) (b + t) (nI x))) b (bringV w t x) := fun s hs => by
  obtain ⟨k1, k2, k3⟩ := k s hs
  refine ⟨?_, k2, k3⟩
  show (if b + s = b + t then nI x else q 186 (b + s)) = nI (va_up (wh w) t x s)
  by_cases e : s = t
  · rw [if_pos (by omega), e, va_up_self]
  · rw [if_neg (by omega), va_up_ne _ _ e]; exact k1
theorem BankR.cut {h : HV} {q : Nat → Nat → Int32} {b t x : Nat} {w : LV} (k : BankR h q b w) : BankR h (va_up q 187 (upd (q 187) (b + t) (nI x))) b (cutV w t x) := fun s hs => by
  obtain ⟨k1, k2, k3⟩ := k s hs
  refine ⟨k1, ?_, k3⟩
  show (if b + s = b + t then nI x else q 187 (b + s)) = nI (va_up (ln w) t x s)
  by_cases e : s = t
  · rw [if_pos (by omega), e, va_up_self]
  · rw [if_neg (by omega), va_up_ne _ _ e]; exact k2
theorem BankR.worm {h : HV} {q : Nat → Nat → Int32} {b t : Nat} {w : LV} (k : BankR h q b w) : BankR h (va_up q 188 (upd (q 188) (b + t) (nI (wo w t + 1)))) b (wormV w t) := fun s hs => by
  obtain ⟨k1, k2, k3⟩ := k s hs
  refine ⟨k1, k2, ?_⟩
  show (if b + s = b + t then nI (wo w t + 1) else q 188 (b + s)) = nI (va_up (wo w) t (wo w t + 1) s)
  by_cases e : s = t
  · rw [if_pos (by omega), e, va_up_self]
  · rw [if_neg (by omega), va_up_ne _ _ e]; exact k3
/-- which MOVES may be: as the reference asks it -/
theorem fits_f {h : HV} {w : LV} {t p : Nat} (q : ti w p ≠ none) : fitsV h w t p = false := by
  cases hh : ti w p with
  | none => exact absurd hh q
  | some t2 => simp [fitsV, hh]
theorem goes_f1 {h : HV} {w : LV} (ok : HOK h) {t p : Nat} (q : wh w t = 200) : mayV h w t p = false := by
  have := ok.1
  unfold mayV
  rw [if_neg (by omega), decide_eq_false (by omega)]; rfl
theorem goes_f2 {h : HV} {w : LV} (ok : HOK h) (k : LOK h w) {t p : Nat} (ht : t < hn h) (hp : p < hn h) (q : wh w t = p) : mayV h w t p = false := by
  have := ok.1
  have hf : fitsV h w t p = false := fits_f (by rw [in_some ok k (by omega) ht q]; exact fun z => by cases z)
  unfold mayV
  rw [if_neg (by omega), hf]; simp
theorem goes_f3 {h : HV} {w : LV} {t p : Nat} (q1 : ¬ wh w t = 100) (q : takeV h w (wh w t) = false) : mayV h w t p = false := by
  unfold mayV
  rw [if_neg q1, q]; simp
theorem ti_100 (w : LV) (t p : Nat) : ti (bringV w t 100) p = if wh w t < 10 ∧ p = wh w t then none else ti w p := by
  show (if 100 < 10 then va_up (bringT w t) 100 (some t) else bringT w t) p = _
  rw [if_neg (by decide)]
  unfold bringT
  by_cases e : wh w t < 10
  · rw [if_pos e]
    by_cases e2 : p = wh w t
    · rw [if_pos ⟨e, e2⟩, e2, va_up_self]
    · rw [va_up_ne _ _ e2, if_neg (fun z => e2 z.2)]
  · rw [if_neg e, if_neg (fun z => e z.1)]
theorem fits_100 {h : HV} {w : LV} (ok : HOK h) {t p : Nat} (hp : p < hn h) (q : wh w t ≠ p) (hq : wh w t < 10 → ti w (wh w t) = some t) : fitsV h (bringV w t 100) t p = (fitsV h w t p && !(decide (wh w t < 10) && decide (hreN h p = some (wh w t)))) := by
  unfold fitsV
  rw [ti_100, if_neg (fun z => q z.2.symm), show ln (bringV w t 100) t = ln w t from rfl]
  cases hh : hreN h p with
  | none => simp [bornV]
  | some u =>
    have e : bornV (bringV w t 100) (some u) = (bornV w (some u) && !(decide (wh w t < 10) && decide (some u = some (wh w t)))) := by
      show (ti (bringV w t 100) u).isSome = _
      rw [ti_100]
      by_cases e1 : wh w t < 10 ∧ u = wh w t
      · rw [if_pos e1, e1.2]; simp [e1.1]
      · rw [if_neg e1]
        by_cases e2 : wh w t < 10
        · have : ¬ u = wh w t := fun z => e1 ⟨e2, z⟩
          simp [bornV, this]
        · simp [bornV, e2]
    rw [e]
    cases decide (p < hn h) <;> cases (ti w p).isNone <;> cases decide (hle h p ≤ ln w t) <;> cases bornV w (some u) <;> rfl
theorem goes_e {h : HV} {w : LV} (ok : HOK h) (k : LOK h w) {t p : Nat} (ht : t < hn h) (hp : p < hn h) (q1 : ¬ wh w t = 200) (q2 : ¬ wh w t = p) (q3 : wh w t = 100 ∨ takeV h w (wh w t) = true) : mayV h w t p = fitsV h (bringV w t 100) t p := by
  have okn := ok.1
  rw [fits_100 ok hp q2 (fun z => in_some ok k z ht rfl)]
  have k5 := k.2.2.2.2.1 t (by omega)
  unfold mayV
  by_cases e : wh w t = 100
  · rw [if_pos e, e, decide_eq_false (show ¬ 100 < 10 by decide)]; simp
  · rcases q3 with q3 | q3
    · exact absurd q3 e
    · rw [if_neg e, q3, decide_eq_true (show wh w t < hn h by omega), decide_eq_true (show wh w t < 10 by omega)]
      cases decide (hreN h p = some (wh w t)) <;> simp
theorem shr_nI {m p : Nat} (hm : m < 2 ^ 31) (hp : p < 31) : (nI m >>> (nI p &&& 31)) &&& nI 1 = nI (m / 2 ^ p % 2) := by
  apply Int32.toBitVec_inj.mp
  rw [Int32.toBitVec_and, Int32.toBitVec_shiftRight]
  have e31 : (31 : Int32) = nI 31 := rfl
  sorry
theorem iwX9_copy_X9 : ∀ w ∈ u_ws RX9 TX9 35, w ∈ wsX9_copy := by decide +kernel
theorem flX9_copy_40 : Cond.fieldLink RX9 40 RX9 (TX9 19).2.1 (TX9 19).2.2.1 ∈ wsX9_copy := by decide +kernel
theorem flX9_copy_43 : Cond.fieldLink RX9 43 RX9 (TX9 20).2.1 (TX9 20).2.2.1 ∈ wsX9_copy := by decide +kernel
theorem flX9_copy_46 : Cond.fieldLink RX9 46 RX9 (TX9 21).2.1 (TX9 21).2.2.1 ∈ wsX9_copy := by decide +kernel
set_option maxHeartbeats 4000000 in
set_option maxRecDepth 100000 in
theorem ctX9_copy (l : Launch) (g : Gx) (lo : Nat) (ad : Nat → Nat) {F : Nat → va_E} {c : Nat → Int32} {q : Nat → Nat → Int32} {su : Nat → Int64} (hM : MC g ad F c q su) {a b : Nat} (ha : a ≤ 50) (hb : b ≤ 50) (hab : a + 10 ≤ b ∨ b + 10 ≤ a) : MV l g lo 196 ad yX9_copy wsX9_copy 0 0 [.ref (ad (175)), .int (nI a), .int (nI b)] F (fun F' => ∃ q', MC g ad F' c q' su ∧ Same 175 196 F F' ∧ CP a b 10 q q') := by
  have hS : Same 175 196 F F := Same.rf
  refine enter (cc := cX9_copy) (maxL := 4) (ret := none) (own := RX9) (by decide +kernel) rfl rfl (Nat.le_of_ble_eq_true rfl) ?_
  intro pp ee ss mm below meth cc B hini hC ls hl
  have hl : lv_has ls 4 [(0, .ref (ad (175))), (1, .int (nI a)), (2, .int (nI b))] := hl
  refine lv_iconst (v := nI 0) B.1 B.2.1 dX9_copy_0 (by decide) ?_
  refine lv_istore_n (lv' := [(3, .int (nI 0)), (0, .ref (ad (175))), (1, .int (nI a)), (2, .int (nI b))]) B.1 B.2.1 dX9_copy_1 rfl hl (by decide) rfl (fun ls hl => ?_)
  have loop2 : ∀ (k : Nat) (t : Nat) (q1 : Nat → Nat → Int32) (G : Nat → va_E), (t + k = 10) → (MC g ad G c q1 su) → (Same 175 196 F G) → (CP a b t q q1) → ∀ (H : Heap) (locs : List Loc) (ls : Array Slot), Cu g lo 196 ad G ss ss.heap H locs → lv_has ls 4 [(3, .int (nI t)), (0, .ref (ad (175))), (1, .int (nI a)), (2, .int (nI b))] → W pp l ee { frames := 0, cells := 0, slots := 0, locals := 0 } ss mm ([.ref (ad (175)), .int (nI a), .int (nI b)] : List Value).toArray below meth cc H locs 0 0 (MQ below (va_Qv (fun F' => ∃ q', MC g ad F' c q' su ∧ Same 175 196 F F' ∧ CP a b 10 q q') (fun F' t => Wd g lo 196 ad F' t) (fun q => lo ≤ q)) ([.ref (ad (175)), .int (nI a), .int (nI b)] : List Value).toArray ss 0 0 (fun q => lo ≤ q)) (F0 mm 2 ls []) := by
    intro k
    induction k with
    | zero =>
      intro t q1 G htk hM1 hS1 hcp H locs ls hC hl
      refine lv_iload_n B.1 B.2.1 dX9_copy_2 rfl (lv_at hl 0 rfl) ?_
      refine lv_bipush (v := nI 10) B.1 B.2.1 dX9_copy_3 (by decide) ?_
      refine lv_icmp_ge (tgt := 62) B.1 B.2.1 dX9_copy_5 (by decide) (fun _ => ?_) (fun z => absurd (nI_le (by omega) (by omega)) z)
      exact r_eV B hC (⟨q1, hM1, hS1, by rw [show (10 : Nat) = t by omega]; exact hcp⟩) dX9_copy_62
    | succ k ih2 =>
      intro t q1 G htk hM1 hS1 hcp H locs ls hC hl
      refine lv_iload_n B.1 B.2.1 dX9_copy_2 rfl (lv_at hl 0 rfl) ?_
      refine lv_bipush (v := nI 10) B.1 B.2.1 dX9_copy_3 (by decide) ?_
      refine lv_icmp_ge (tgt := 62) B.1 B.2.1 dX9_copy_5 (by decide) (fun z => absurd z (nI_ge (by omega) (by omega))) (fun _ => ?_)
      refine lv_aload_n B.1 B.2.1 dX9_copy_8 rfl (lv_at hl 1 rfl) ?_
      refine r_cg B hC (i := 175) (by decide) hM1.1 (C := RX9) (T := TX9) (n := 35) rfl iwX9_copy_X9 19 (by decide) (index := 40) flX9_copy_40 rfl (v := .ref (ad (186))) rfl dX9_copy_9 ?_
      refine lv_iload_n B.1 B.2.1 dX9_copy_12 rfl (lv_at hl 3 rfl) ?_
      refine lv_iload_n B.1 B.2.1 dX9_copy_13 rfl (lv_at hl 0 rfl) ?_
      refine lv_iadd B.1 B.2.1 dX9_copy_14 ?_
      refine r_tI (y := nI (b + t)) (nI_add _ _) ?_
      refine lv_aload_n B.1 B.2.1 dX9_copy_15 rfl (lv_at hl 1 rfl) ?_
      refine r_cg B hC (i := 175) (by decide) hM1.1 (C := RX9) (T := TX9) (n := 35) rfl iwX9_copy_X9 19 (by decide) (index := 40) flX9_copy_40 rfl (v := .ref (ad (186))) rfl dX9_copy_16 ?_
      refine lv_iload_n B.1 B.2.1 dX9_copy_19 rfl (lv_at hl 2 rfl) ?_
      refine lv_iload_n B.1 B.2.1 dX9_copy_20 rfl (lv_at hl 0 rfl) ?_
      refine lv_iadd B.1 B.2.1 dX9_copy_21 ?_
      refine r_tI (y := nI (a + t)) (nI_add _ _) ?_
      refine r_cald B hC (i := 186) (by decide) hM1.c186 (j := (a + t)) (by omega) (by decide) dX9_copy_22 ?_
      refine r_tI (y := q1 186 (a + t)) rfl ?_
      refine r_cast B hC (i := 186) (by decide) hM1.c186 (j := (b + t)) (by omega) (by decide) dX9_copy_23 ?_
      intro H locs hC
      obtain ⟨F21, eF21⟩ : ∃ f : Nat → va_E, f = va_up G 186 (.inl (g.2.2 0, 60, .inl (upd (q1 186) ((b + t)) (q1 186 (a + t))))) := ⟨_, rfl⟩
      have hC : Cu g lo 196 ad F21 ss ss.heap H locs := by rw [eF21]; exact hC
      obtain ⟨q21, eq21⟩ : ∃ f, f = va_up q1 186 (upd (q1 186) ((b + t)) (q1 186 (a + t))) := ⟨_, rfl⟩
      have hM_F21 : MC g ad F21 c q21 su := by rw [eq21]; exact hM1.arr (by decide) (by decide) (by decide) (by decide) (by decide) eF21
      have hS_F21 : Same 175 196 F F21 := by rw [eF21]; exact hS1.up (by decide) (by decide)
      refine lv_aload_n B.1 B.2.1 dX9_copy_24 rfl (lv_at hl 1 rfl) ?_
      refine r_cg B hC (i := 175) (by decide) hM_F21.1 (C := RX9) (T := TX9) (n := 35) rfl iwX9_copy_X9 20 (by decide) (index := 43) flX9_copy_43 rfl (v := .ref (ad (187))) rfl dX9_copy_25 ?_
      refine lv_iload_n B.1 B.2.1 dX9_copy_28 rfl (lv_at hl 3 rfl) ?_
      refine lv_iload_n B.1 B.2.1 dX9_copy_29 rfl (lv_at hl 0 rfl) ?_
      refine lv_iadd B.1 B.2.1 dX9_copy_30 ?_
      refine r_tI (y := nI (b + t)) (nI_add _ _) ?_
      refine lv_aload_n B.1 B.2.1 dX9_copy_31 rfl (lv_at hl 1 rfl) ?_
      refine r_cg B hC (i := 175) (by decide) hM_F21.1 (C := RX9) (T := TX9) (n := 35) rfl iwX9_copy_X9 20 (by decide) (index := 43) flX9_copy_43 rfl (v := .ref (ad (187))) rfl dX9_copy_32 ?_
      refine lv_iload_n B.1 B.2.1 dX9_copy_35 rfl (lv_at hl 2 rfl) ?_
      refine lv_iload_n B.1 B.2.1 dX9_copy_36 rfl (lv_at hl 0 rfl) ?_
      refine lv_iadd B.1 B.2.1 dX9_copy_37 ?_
      refine r_tI (y := nI (a + t)) (nI_add _ _) ?_
      refine r_cald B hC (i := 187) (by decide) hM_F21.c187 (j := (a + t)) (by omega) (by decide) dX9_copy_38 ?_
      refine r_tI (y := q21 187 (a + t)) rfl ?_
      refine r_cast B hC (i := 187) (by decide) hM_F21.c187 (j := (b + t)) (by omega) (by decide) dX9_copy_39 ?_
      intro H locs hC
      obtain ⟨F22, eF22⟩ : ∃ f : Nat → va_E, f = va_up F21 187 (.inl (g.2.2 0, 60, .inl (upd (q21 187) ((b + t)) (q21 187 (a + t))))) := ⟨_, rfl⟩
      have hC : Cu g lo 196 ad F22 ss ss.heap H locs := by rw [eF22]; exact hC
      obtain ⟨q22, eq22⟩ : ∃ f, f = va_up q21 187 (upd (q21 187) ((b + t)) (q21 187 (a + t))) := ⟨_, rfl⟩
      have hM_F22 : MC g ad F22 c q22 su := by rw [eq22]; exact hM_F21.arr (by decide) (by decide) (by decide) (by decide) (by decide) eF22
      have hS_F22 : Same 175 196 F F22 := by rw [eF22]; exact hS_F21.up (by decide) (by decide)
      refine lv_aload_n B.1 B.2.1 dX9_copy_40 rfl (lv_at hl 1 rfl) ?_
      refine r_cg B hC (i := 175) (by decide) hM_F22.1 (C := RX9) (T := TX9) (n := 35) rfl iwX9_copy_X9 21 (by decide) (index := 46) flX9_copy_46 rfl (v := .ref (ad (188))) rfl dX9_copy_41 ?_
      refine lv_iload_n B.1 B.2.1 dX9_copy_44 rfl (lv_at hl 3 rfl) ?_
      refine lv_iload_n B.1 B.2.1 dX9_copy_45 rfl (lv_at hl 0 rfl) ?_
      refine lv_iadd B.1 B.2.1 dX9_copy_46 ?_
      refine r_tI (y := nI (b + t)) (nI_add _ _) ?_
      refine lv_aload_n B.1 B.2.1 dX9_copy_47 rfl (lv_at hl 1 rfl) ?_
      refine r_cg B hC (i := 175) (by decide) hM_F22.1 (C := RX9) (T := TX9) (n := 35) rfl iwX9_copy_X9 21 (by decide) (index := 46) flX9_copy_46 rfl (v := .ref (ad (188))) rfl dX9_copy_48 ?_
      refine lv_iload_n B.1 B.2.1 dX9_copy_51 rfl (lv_at hl 2 rfl) ?_
      refine lv_iload_n B.1 B.2.1 dX9_copy_52 rfl (lv_at hl 0 rfl) ?_
      refine lv_iadd B.1 B.2.1 dX9_copy_53 ?_
      refine r_tI (y := nI (a + t)) (nI_add _ _) ?_
      refine r_cald B hC (i := 188) (by decide) hM_F22.c188 (j := (a + t)) (by omega) (by decide) dX9_copy_54 ?_
      refine r_tI (y := q22 188 (a + t)) rfl ?_
      refine r_cast B hC (i := 188) (by decide) hM_F22.c188 (j := (b + t)) (by omega) (by decide) dX9_copy_55 ?_
      intro H locs hC
      obtain ⟨F23, eF23⟩ : ∃ f : Nat → va_E, f = va_up F22 188 (.inl (g.2.2 0, 60, .inl (upd (q22 188) ((b + t)) (q22 188 (a + t))))) := ⟨_, rfl⟩
      have hC : Cu g lo 196 ad F23 ss ss.heap H locs := by rw [eF23]; exact hC
      obtain ⟨q23, eq23⟩ : ∃ f, f = va_up q22 188 (upd (q22 188) ((b + t)) (q22 188 (a + t))) := ⟨_, rfl⟩
      have hM_F23 : MC g ad F23 c q23 su := by rw [eq23]; exact hM_F22.arr (by decide) (by decide) (by decide) (by decide) (by decide) eF23
      have hS_F23 : Same 175 196 F F23 := by rw [eF23]; exact hS_F22.up (by decide) (by decide)
      refine lv_iinc (v := nI (t + 1)) (lv' := [(3, .int (nI (t + 1))), (0, .ref (ad (175))), (1, .int (nI a)), (2, .int (nI b))]) B.1 B.2.1 dX9_copy_56 hl (k := 0) rfl (nI_1 _) (by decide) rfl (fun ls hl => ?_)
      refine lv_goto (tgt := 2) B.1 B.2.1 dX9_copy_59 (by decide) ?_
      exact ih2 (t + 1) q23 F23 (by omega) hM_F23 hS_F23 (by rw [show q23 = cp3 q1 a b t by subst eq21 eq22 eq23; rfl]; exact cp_step hcp (by omega) hab) _ _ ls hC (lv_sub hl [0, 1, 2, 3] rfl)
  exact loop2 10 0 q F (by omega) hM hS ⟨QS.rf, fun i hi => absurd hi (Nat.not_lt_zero i)⟩ _ _ ls hC (lv_sub hl [0, 1, 2, 3] rfl)
theorem iwX9_openSet_X9 : ∀ w ∈ u_ws RX9 TX9 35, w ∈ wsX9_openSet := by decide +kernel
theorem flX9_openSet_114 : Cond.fieldLink RX9 114 RX9 (TX9 12).2.1 (TX9 12).2.2.1 ∈ wsX9_openSet := by decide +kernel
set_option maxHeartbeats 4000000 in
set_option maxRecDepth 100000 in
theorem ctX9_openSet (l : Launch) (g : Gx) (lo : Nat) (ad : Nat → Nat) {F : Nat → va_E} {c : Nat → Int32} {q : Nat → Nat → Int32} {su : Nat → Int64} (hM : MC g ad F c q su) {h : HV} (ok : HOK h) (hR : HullR h c q) {b : Nat} {w : LV} (hb : b ≤ 50) (hB : BankR h q b w) (hw : LOK h w) : MI l g lo 196 ad yX9_openSet wsX9_openSet 1 23 [.ref (ad (175)), .int (nI b)] F (fun r F' => r = nI (openTo w (hn h)) ∧ F' = F) := by
  have okn := ok.1
  have okp := ok.2.1
  have okh := ok.2.2.1
  have hS : Same 175 196 F F := Same.rf
  refine enter (cc := cX9_openSet) (maxL := 4) (ret := some .int) (own := RX9) (by decide +kernel) rfl rfl (Nat.le_of_ble_eq_true rfl) ?_
  intro pp ee ss mm below meth cc B hini hC ls hl
  have hl : lv_has ls 4 [(0, .ref (ad (175))), (1, .int (nI b))] := hl
  refine lv_iconst (v := nI 0) B.1 B.2.1 dX9_openSet_0 (by decide) ?_
  refine lv_istore_n (lv' := [(2, .int (nI 0)), (0, .ref (ad (175))), (1, .int (nI b))]) B.1 B.2.1 dX9_openSet_1 rfl hl (by decide) rfl (fun ls hl => ?_)
  refine lv_iconst (v := nI 0) B.1 B.2.1 dX9_openSet_2 (by decide) ?_
  refine lv_istore_n (lv' := [(3, .int (nI 0)), (2, .int (nI 0)), (0, .ref (ad (175))), (1, .int (nI b))]) B.1 B.2.1 dX9_openSet_3 rfl hl (by decide) rfl (fun ls hl => ?_)
  have loop4 : ∀ (k : Nat) (p a : Nat), (p + k = hn h) → (a = openTo w p) → ∀ (H : Heap) (locs : List Loc) (ls : Array Slot), Cu g lo 196 ad F ss ss.heap H locs → lv_has ls 4 [(3, .int (nI p)), (2, .int (nI a)), (0, .ref (ad (175))), (1, .int (nI b))] → W pp l ee { frames := 1, cells := 0, slots := 0, locals := 23 } ss mm ([.ref (ad (175)), .int (nI b)] : List Value).toArray below meth cc H locs 0 0 (MQ below (va_Qi (fun r F' => r = nI (openTo w (hn h)) ∧ F' = F) (fun F' t => Wd g lo 196 ad F' t) (fun q => lo ≤ q)) ([.ref (ad (175)), .int (nI b)] : List Value).toArray ss 0 0 (fun q => lo ≤ q)) (F0 mm 4 ls []) := by
    intro k
    induction k with
    | zero =>
      intro p a hpk ha H locs ls hC hl
      refine lv_iload_n B.1 B.2.1 dX9_openSet_4 rfl (lv_at hl 0 rfl) ?_
      refine lv_aload_n B.1 B.2.1 dX9_openSet_5 rfl (lv_at hl 2 rfl) ?_
      refine r_cg B hC (i := 175) (by decide) hM.1 (C := RX9) (T := TX9) (n := 35) rfl iwX9_openSet_X9 12 (by decide) (index := 114) flX9_openSet_114 rfl (v := .int (c 12)) rfl dX9_openSet_6 ?_
      refine r_tI (y := nI (hn h)) (hR.1) ?_
      refine lv_icmp_ge (tgt := 39) B.1 B.2.1 dX9_openSet_9 (by decide) (fun _ => ?_) (fun z => absurd (nI_le (by omega) (by omega)) z)
      refine lv_iload_n B.1 B.2.1 dX9_openSet_39 rfl (lv_at hl 1 rfl) ?_
      exact r_eI B hC (v := nI a) (⟨by rw [ha, show p = hn h by omega], rfl⟩) dX9_openSet_40
    | succ k ih4 =>
      intro p a hpk ha H locs ls hC hl
      refine lv_iload_n B.1 B.2.1 dX9_openSet_4 rfl (lv_at hl 0 rfl) ?_
      refine lv_aload_n B.1 B.2.1 dX9_openSet_5 rfl (lv_at hl 2 rfl) ?_
      refine r_cg B hC (i := 175) (by decide) hM.1 (C := RX9) (T := TX9) (n := 35) rfl iwX9_openSet_X9 12 (by decide) (index := 114) flX9_openSet_114 rfl (v := .int (c 12)) rfl dX9_openSet_6 ?_
      refine r_tI (y := nI (hn h)) (hR.1) ?_
      refine lv_icmp_ge (tgt := 39) B.1 B.2.1 dX9_openSet_9 (by decide) (fun z => absurd z (nI_ge (by omega) (by omega))) (fun _ => ?_)
      refine lv_iload_n B.1 B.2.1 dX9_openSet_12 rfl (lv_at hl 1 rfl) ?_
      refine lv_aload_n B.1 B.2.1 dX9_openSet_13 rfl (lv_at hl 2 rfl) ?_
      refine lv_iload_n B.1 B.2.1 dX9_openSet_14 rfl (lv_at hl 3 rfl) ?_
      refine lv_iload_n B.1 B.2.1 dX9_openSet_15 rfl (lv_at hl 0 rfl) ?_
      refine r_calli B hC hl.1 (175) 9 rfl rfl (by decide) hM.1 (As := [.int (nI b), .int (nI p)]) (ctX9_inside l g lo ad hM ok hR hb hB hw (p := p) (by omega)) gX9_openSet_X9_inside rfl (n := 2) rfl (by decide +kernel) ⟨Nat.le_of_ble_eq_true rfl, Nat.le_of_ble_eq_true rfl⟩ ⟨Nat.zero_le _, Nat.zero_le _⟩ rfl (Nat.le_of_ble_eq_true rfl) dX9_openSet_16 (fun r16 F1 H locs hp16 hC => ?_)
      obtain ⟨er, eF⟩ := hp16
      subst er
      rw [eF] at hC
      refine lv_bipush (v := (-9)) B.1 B.2.1 dX9_openSet_19 (by decide) ?_
      refine lv_icmp_ne (tgt := 30) B.1 B.2.1 dX9_openSet_21 (by decide) (fun c_21 => ?_) (fun c_21 => ?_)
      · have q_21 : ¬ ti w p = none := fun z => c_21 ((oI_9 (fun j hj => Nat.lt_trans (hw.t10 (by omega) j hj) (by decide))).mpr z)
        refine lv_iconst (v := nI 0) B.1 B.2.1 dX9_openSet_30 (by decide) ?_
        refine lv_ior B.1 B.2.1 dX9_openSet_31 ?_
        refine r_tI (y := nI (a + 0)) (by first | exact or_bit (by rw [ha]; exact openTo_lt w p) | (rw [nI_or, Nat.or_zero]; rfl)) ?_
        refine lv_istore_n (lv' := [(2, .int (nI (a + 0))), (3, .int (nI p)), (0, .ref (ad (175))), (1, .int (nI b))]) B.1 B.2.1 dX9_openSet_32 rfl hl (by decide) rfl (fun ls hl => ?_)
        refine lv_iinc (v := nI (p + 1)) (lv' := [(3, .int (nI (p + 1))), (2, .int (nI (a + 0))), (0, .ref (ad (175))), (1, .int (nI b))]) B.1 B.2.1 dX9_openSet_33 hl (k := 1) rfl (nI_1 _) (by decide) rfl (fun ls hl => ?_)
        refine lv_goto (tgt := 4) B.1 B.2.1 dX9_openSet_36 (by decide) ?_
        exact ih4 (p + 1) ((a + 0)) (by omega) (by simp only [openTo, ha]; simp [q_21]) _ _ ls hC (lv_sub hl [0, 1, 2, 3] rfl)
      · have q_21 : ti w p = none := (oI_9 (fun j hj => Nat.lt_trans (hw.t10 (by omega) j hj) (by decide))).mp c_21
        refine lv_iconst (v := nI 1) B.1 B.2.1 dX9_openSet_24 (by decide) ?_
        refine lv_iload_n B.1 B.2.1 dX9_openSet_25 rfl (lv_at hl 0 rfl) ?_
        refine lv_ishl B.1 B.2.1 dX9_openSet_26 ?_
        refine r_tI (y := nI (2 ^ p)) (shl_1 p (by omega)) ?_
        refine lv_goto (tgt := 31) B.1 B.2.1 dX9_openSet_27 (by decide) ?_
        refine lv_ior B.1 B.2.1 dX9_openSet_31 ?_
        refine r_tI (y := nI (a + 2 ^ p)) (by first | exact or_bit (by rw [ha]; exact openTo_lt w p) | (rw [nI_or, Nat.or_zero]; rfl)) ?_
        refine lv_istore_n (lv' := [(2, .int (nI (a + 2 ^ p))), (3, .int (nI p)), (0, .ref (ad (175))), (1, .int (nI b))]) B.1 B.2.1 dX9_openSet_32 rfl hl (by decide) rfl (fun ls hl => ?_)
        refine lv_iinc (v := nI (p + 1)) (lv' := [(3, .int (nI (p + 1))), (2, .int (nI (a + 2 ^ p))), (0, .ref (ad (175))), (1, .int (nI b))]) B.1 B.2.1 dX9_openSet_33 hl (k := 1) rfl (nI_1 _) (by decide) rfl (fun ls hl => ?_)
        refine lv_goto (tgt := 4) B.1 B.2.1 dX9_openSet_36 (by decide) ?_
        exact ih4 (p + 1) ((a + 2 ^ p)) (by omega) (by simp only [openTo, ha]; simp [q_21]) _ _ ls hC (lv_sub hl [0, 1, 2, 3] rfl)
  exact loop4 (hn h) 0 0 (by omega) rfl _ _ ls hC (lv_sub hl [0, 1, 2, 3] rfl)
