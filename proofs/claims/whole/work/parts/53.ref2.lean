/-! THE REFERENCE: copy, openSet, leakOf, goes -/
def cp3 (q : Nat → Nat → Int32) (a b t : Nat) : Nat → Nat → Int32 := va_up (va_up (va_up q 186 (upd (q 186) (b + t) (q 186 (a + t)))) 187 (upd (q 187) (b + t) (q 187 (a + t)))) 188 (upd (q 188) (b + t) (q 188 (a + t)))
def CP (a b t : Nat) (q q1 : Nat → Nat → Int32) : Prop := QS b q q1 ∧ ∀ i, i < t → ∀ k, 186 ≤ k → k ≤ 188 → q1 k (b + i) = q k (a + i)
theorem cp3_k {q : Nat → Nat → Int32} {a b t k : Nat} (h1 : 186 ≤ k) (h2 : k ≤ 188) : cp3 q a b t k = upd (q k) (b + t) (q k (a + t)) := by
  rcases (show k = 186 ∨ k = 187 ∨ k = 188 by omega) with rfl | rfl | rfl <;> rfl
theorem cp3_n {q : Nat → Nat → Int32} {a b t k : Nat} (h : k < 186 ∨ 188 < k) : cp3 q a b t k = q k := by
  unfold cp3
  rw [va_up_ne _ _ (by omega), va_up_ne _ _ (by omega), va_up_ne _ _ (by omega)]
theorem cp_step {a b t : Nat} {q q1 : Nat → Nat → Int32} (h : CP a b t q q1) (ht : t < 10) (hab : a + 10 ≤ b ∨ b + 10 ≤ a) : CP a b (t + 1) q (cp3 q1 a b t) := by
  obtain ⟨h1, h2⟩ := h
  refine ⟨fun k => ⟨fun z => by rw [cp3_n z]; exact (h1 k).1 z, fun j z => ?_⟩, fun i hi k k1 k2 => ?_⟩
  · by_cases z2 : k < 186 ∨ 188 < k
    · rw [cp3_n z2]; exact (h1 k).2 j z
    · rw [cp3_k (by omega) (by omega)]
      show (if j = b + t then _ else q1 k j) = q k j
      rw [if_neg (by omega)]; exact (h1 k).2 j z
  · rw [cp3_k k1 k2]
    show (if b + i = b + t then q1 k (a + t) else q1 k (b + i)) = q k (a + i)
    split
    · next e => rw [show i = t by omega]; exact (h1 k).2 _ (by omega)
    · exact h2 i (by omega) k k1 k2
theorem CP.bank {a b : Nat} {q q1 : Nat → Nat → Int32} {h : HV} {w : LV} (k : CP a b 10 q q1) (hn10 : hn h ≤ 10) (hB : BankR h q a w) : BankR h q1 b w := fun t ht => by
  rw [k.2 t (by omega) 186 (by decide) (by decide), k.2 t (by omega) 187 (by decide) (by decide), k.2 t (by omega) 188 (by decide) (by decide)]
  exact hB t ht
theorem BankR.cong {h : HV} {q : Nat → Nat → Int32} {b : Nat} {w w' : LV} (k : BankR h q b w) (e : ∀ t, t < hn h → wh w' t = wh w t ∧ ln w' t = ln w t ∧ wo w' t = wo w t) : BankR h q b w' := fun t ht => by
  rw [(e t ht).1, (e t ht).2.1, (e t ht).2.2]; exact k t ht
theorem BankR.bring {h : HV} {q : Nat → Nat → Int32} {b t x : Nat} {w : LV} (k : BankR h q b w) : BankR h (va_up q 186 (upd (q 186) (b + t) (nI x))) b (bringV w t x) := fun s hs => by
  obtain ⟨k1, k2, k3⟩ := k s hs
  refine ⟨?_, k2, k3⟩
  show (if b + s = b + t then nI x else q 186 (b + s)) = nI (va_up (wh w) t x s)
  by_cases e : s = t
  · rw [if_pos (by omega), e, va_up_self]
  · rw [if_neg (by omega), va_up_ne _ _ e]; exact k1
theorem BankR.cut {h : HV} {q : Nat → Nat → Int32} {b t x : Nat} {w : LV} (k : BankR h q b w) : BankR h (va_up q 187 (upd (q 187) (b + t) (nI x))) b (cutV w t x) := fun s hs => by
  obtain ⟨k1, k2, k3⟩ := k s hs
  refine ⟨k1, ?_, k3⟩
  show (if b + s = b + t then nI x else q 187 (b + s)) = nI (va_up (ln w) t x s)
  by_cases e : s = t
  · rw [if_pos (by omega), e, va_up_self]
  · rw [if_neg (by omega), va_up_ne _ _ e]; exact k2
theorem BankR.worm {h : HV} {q : Nat → Nat → Int32} {b t : Nat} {w : LV} (k : BankR h q b w) : BankR h (va_up q 188 (upd (q 188) (b + t) (nI (wo w t + 1)))) b (wormV w t) := fun s hs => by
  obtain ⟨k1, k2, k3⟩ := k s hs
  refine ⟨k1, k2, ?_⟩
  show (if b + s = b + t then nI (wo w t + 1) else q 188 (b + s)) = nI (va_up (wo w) t (wo w t + 1) s)
  by_cases e : s = t
  · rw [if_pos (by omega), e, va_up_self]
  · rw [if_neg (by omega), va_up_ne _ _ e]; exact k3
/-- which MOVES may be: as the reference asks it -/
theorem fits_f {h : HV} {w : LV} {t p : Nat} (q : ti w p ≠ none) : fitsV h w t p = false := by
  cases hh : ti w p with
  | none => exact absurd hh q
  | some t2 => simp [fitsV, hh]
theorem goes_f1 {h : HV} {w : LV} (ok : HOK h) {t p : Nat} (q : wh w t = 200) : mayV h w t p = false := by
  have := ok.1
  unfold mayV
  rw [if_neg (by omega), decide_eq_false (by omega)]; rfl
theorem goes_f2 {h : HV} {w : LV} (ok : HOK h) (k : LOK h w) {t p : Nat} (ht : t < hn h) (hp : p < hn h) (q : wh w t = p) : mayV h w t p = false := by
  have := ok.1
  have hf : fitsV h w t p = false := fits_f (by rw [in_some ok k (by omega) ht q]; exact fun z => by cases z)
  unfold mayV
  rw [if_neg (by omega), hf]; simp
theorem goes_f3 {h : HV} {w : LV} {t p : Nat} (q1 : ¬ wh w t = 100) (q : takeV h w (wh w t) = false) : mayV h w t p = false := by
  unfold mayV
  rw [if_neg q1, q]; simp
theorem ti_100 (w : LV) (t p : Nat) : ti (bringV w t 100) p = if wh w t < 10 ∧ p = wh w t then none else ti w p := by
  show (if 100 < 10 then va_up (bringT w t) 100 (some t) else bringT w t) p = _
  rw [if_neg (by decide)]
  unfold bringT
  by_cases e : wh w t < 10
  · rw [if_pos e]
    by_cases e2 : p = wh w t
    · rw [if_pos ⟨e, e2⟩, e2, va_up_self]
    · rw [va_up_ne _ _ e2, if_neg (fun z => e2 z.2)]
  · rw [if_neg e, if_neg (fun z => e z.1)]
theorem fits_100 {h : HV} {w : LV} (ok : HOK h) {t p : Nat} (hp : p < hn h) (q : wh w t ≠ p) (hq : wh w t < 10 → ti w (wh w t) = some t) : fitsV h (bringV w t 100) t p = (fitsV h w t p && !(decide (wh w t < 10) && decide (hreN h p = some (wh w t)))) := by
  unfold fitsV
  rw [ti_100, if_neg (fun z => q z.2.symm), show ln (bringV w t 100) t = ln w t from rfl]
  cases hh : hreN h p with
  | none => simp [bornV]
  | some u =>
    have e : bornV (bringV w t 100) (some u) = (bornV w (some u) && !(decide (wh w t < 10) && decide (some u = some (wh w t)))) := by
      show (ti (bringV w t 100) u).isSome = _
      rw [ti_100]
      by_cases e1 : wh w t < 10 ∧ u = wh w t
      · rw [if_pos e1, e1.2]; simp [e1.1]
      · rw [if_neg e1]
        by_cases e2 : wh w t < 10
        · have : ¬ u = wh w t := fun z => e1 ⟨e2, z⟩
          simp [bornV, this]
        · simp [bornV, e2]
    rw [e]
    cases decide (p < hn h) <;> cases (ti w p).isNone <;> cases decide (hle h p ≤ ln w t) <;> cases bornV w (some u) <;> rfl
theorem goes_e {h : HV} {w : LV} (ok : HOK h) (k : LOK h w) {t p : Nat} (ht : t < hn h) (hp : p < hn h) (q1 : ¬ wh w t = 200) (q2 : ¬ wh w t = p) (q3 : wh w t = 100 ∨ takeV h w (wh w t) = true) : mayV h w t p = fitsV h (bringV w t 100) t p := by
  have okn := ok.1
  rw [fits_100 ok hp q2 (fun z => in_some ok k z ht rfl)]
  have k5 := k.2.2.2.2.1 t (by omega)
  unfold mayV
  by_cases e : wh w t = 100
  · rw [if_pos e, e, decide_eq_false (show ¬ 100 < 10 by decide)]; simp
  · rcases q3 with q3 | q3
    · exact absurd q3 e
    · rw [if_neg e, q3, decide_eq_true (show wh w t < hn h by omega), decide_eq_true (show wh w t < 10 by omega)]
      cases decide (hreN h p = some (wh w t)) <;> simp
theorem sh_amt31 : ∀ i, i < 10 → ((nI i &&& 31).toBitVec.smod 32).toNat = i := by decide
theorem nI_and1 (m : Nat) : nI m &&& nI 1 = nI (m % 2) := by
  apply Int32.toBitVec_inj.mp
  rw [Int32.toBitVec_and]
  show BitVec.ofNat 32 m &&& BitVec.ofNat 32 1 = BitVec.ofNat 32 (m % 2)
  rw [← BitVec.ofNat_and, Nat.and_one_is_mod]
theorem openTo_bit (w : LV) {p : Nat} : ∀ {n : Nat}, p < n → openTo w n / 2 ^ p % 2 = if ti w p = none then 1 else 0
  | n + 1, hp => by
    show (openTo w n + (if ti w n = none then 2 ^ n else 0)) / 2 ^ p % 2 = _
    have hpos : 0 < 2 ^ p := Nat.pow_pos (by decide)
    rcases Nat.lt_or_ge p n with z | z
    · have q := openTo_bit w z
      have e : 2 ^ n = 2 ^ p * (2 * 2 ^ (n - p - 1)) := by
        rw [← Nat.mul_assoc, ← Nat.pow_succ, ← Nat.pow_add]; congr 1; omega
      split
      · rw [e, Nat.add_mul_div_left _ _ hpos, Nat.add_mul_mod_self_left]; exact q
      · exact q
    · have e : n = p := by omega
      subst e
      have q := openTo_lt w n
      by_cases h0 : ti w n = none
      · rw [if_pos h0, if_pos h0, Nat.add_div_right _ hpos, Nat.div_eq_of_lt q]
      · rw [if_neg h0, if_neg h0, Nat.add_zero, Nat.div_eq_of_lt q]
theorem openTo_le {w : LV} {n : Nat} (h : n ≤ 10) : openTo w n < 1024 := Nat.lt_of_lt_of_le (openTo_lt w n) (Nat.pow_le_pow_right (by decide) h)
theorem iwX9_copy_X9 : ∀ w ∈ u_ws RX9 TX9 35, w ∈ wsX9_copy := by decide +kernel
theorem flX9_copy_40 : Cond.fieldLink RX9 40 RX9 (TX9 19).2.1 (TX9 19).2.2.1 ∈ wsX9_copy := by decide +kernel
theorem flX9_copy_43 : Cond.fieldLink RX9 43 RX9 (TX9 20).2.1 (TX9 20).2.2.1 ∈ wsX9_copy := by decide +kernel
theorem flX9_copy_46 : Cond.fieldLink RX9 46 RX9 (TX9 21).2.1 (TX9 21).2.2.1 ∈ wsX9_copy := by decide +kernel
set_option maxHeartbeats 4000000 in
set_option maxRecDepth 100000 in
theorem ctX9_copy (l : Launch) (g : Gx) (lo : Nat) (ad : Nat → Nat) {F : Nat → va_E} {c : Nat → Int32} {q : Nat → Nat → Int32} {su : Nat → Int64} (hM : MC g ad F c q su) {a b : Nat} (ha : a ≤ 50) (hb : b ≤ 50) (hab : a + 10 ≤ b ∨ b + 10 ≤ a) : MV l g lo 196 ad yX9_copy wsX9_copy 0 0 [.ref (ad (175)), .int (nI a), .int (nI b)] F (fun F' => ∃ q', MC g ad F' c q' su ∧ Same 175 196 F F' ∧ CP a b 10 q q') := by
  have hS : Same 175 196 F F := Same.rf
  refine enter (cc := cX9_copy) (maxL := 4) (ret := none) (own := RX9) (by decide +kernel) rfl rfl (Nat.le_of_ble_eq_true rfl) ?_
  intro pp ee ss mm below meth cc B hini hC ls hl
  have hl : lv_has ls 4 [(0, .ref (ad (175))), (1, .int (nI a)), (2, .int (nI b))] := hl
  refine lv_iconst (v := nI 0) B.1 B.2.1 dX9_copy_0 (by decide) ?_
  refine lv_istore_n (lv' := [(3, .int (nI 0)), (0, .ref (ad (175))), (1, .int (nI a)), (2, .int (nI b))]) B.1 B.2.1 dX9_copy_1 rfl hl (by decide) rfl (fun ls hl => ?_)
  have loop2 : ∀ (k : Nat) (t : Nat) (q1 : Nat → Nat → Int32) (G : Nat → va_E), (t + k = 10) → (MC g ad G c q1 su) → (Same 175 196 F G) → (CP a b t q q1) → ∀ (H : Heap) (locs : List Loc) (ls : Array Slot), Cu g lo 196 ad G ss ss.heap H locs → lv_has ls 4 [(3, .int (nI t)), (0, .ref (ad (175))), (1, .int (nI a)), (2, .int (nI b))] → W pp l ee { frames := 0, cells := 0, slots := 0, locals := 0 } ss mm ([.ref (ad (175)), .int (nI a), .int (nI b)] : List Value).toArray below meth cc H locs 0 0 (MQ below (va_Qv (fun F' => ∃ q', MC g ad F' c q' su ∧ Same 175 196 F F' ∧ CP a b 10 q q') (fun F' t => Wd g lo 196 ad F' t) (fun q => lo ≤ q)) ([.ref (ad (175)), .int (nI a), .int (nI b)] : List Value).toArray ss 0 0 (fun q => lo ≤ q)) (F0 mm 2 ls []) := by
    intro k
    induction k with
    | zero =>
      intro t q1 G htk hM1 hS1 hcp H locs ls hC hl
      refine lv_iload_n B.1 B.2.1 dX9_copy_2 rfl (lv_at hl 0 rfl) ?_
      refine lv_bipush (v := nI 10) B.1 B.2.1 dX9_copy_3 (by decide) ?_
      refine lv_icmp_ge (tgt := 62) B.1 B.2.1 dX9_copy_5 (by decide) (fun _ => ?_) (fun z => absurd (nI_le (by omega) (by omega)) z)
      exact r_eV B hC (⟨q1, hM1, hS1, by rw [show (10 : Nat) = t by omega]; exact hcp⟩) dX9_copy_62
    | succ k ih2 =>
      intro t q1 G htk hM1 hS1 hcp H locs ls hC hl
      refine lv_iload_n B.1 B.2.1 dX9_copy_2 rfl (lv_at hl 0 rfl) ?_
      refine lv_bipush (v := nI 10) B.1 B.2.1 dX9_copy_3 (by decide) ?_
      refine lv_icmp_ge (tgt := 62) B.1 B.2.1 dX9_copy_5 (by decide) (fun z => absurd z (nI_ge (by omega) (by omega))) (fun _ => ?_)
      refine lv_aload_n B.1 B.2.1 dX9_copy_8 rfl (lv_at hl 1 rfl) ?_
      refine r_cg B hC (i := 175) (by decide) hM1.1 (C := RX9) (T := TX9) (n := 35) rfl iwX9_copy_X9 19 (by decide) (index := 40) flX9_copy_40 rfl (v := .ref (ad (186))) rfl dX9_copy_9 ?_
      refine lv_iload_n B.1 B.2.1 dX9_copy_12 rfl (lv_at hl 3 rfl) ?_
      refine lv_iload_n B.1 B.2.1 dX9_copy_13 rfl (lv_at hl 0 rfl) ?_
      refine lv_iadd B.1 B.2.1 dX9_copy_14 ?_
      refine r_tI (y := nI (b + t)) (nI_add _ _) ?_
      refine lv_aload_n B.1 B.2.1 dX9_copy_15 rfl (lv_at hl 1 rfl) ?_
      refine r_cg B hC (i := 175) (by decide) hM1.1 (C := RX9) (T := TX9) (n := 35) rfl iwX9_copy_X9 19 (by decide) (index := 40) flX9_copy_40 rfl (v := .ref (ad (186))) rfl dX9_copy_16 ?_
      refine lv_iload_n B.1 B.2.1 dX9_copy_19 rfl (lv_at hl 2 rfl) ?_
      refine lv_iload_n B.1 B.2.1 dX9_copy_20 rfl (lv_at hl 0 rfl) ?_
      refine lv_iadd B.1 B.2.1 dX9_copy_21 ?_
      refine r_tI (y := nI (a + t)) (nI_add _ _) ?_
      refine r_cald B hC (i := 186) (by decide) hM1.c186 (j := (a + t)) (by omega) (by decide) dX9_copy_22 ?_
      refine r_tI (y := q1 186 (a + t)) rfl ?_
      refine r_cast B hC (i := 186) (by decide) hM1.c186 (j := (b + t)) (by omega) (by decide) dX9_copy_23 ?_
      intro H locs hC
      obtain ⟨F21, eF21⟩ : ∃ f : Nat → va_E, f = va_up G 186 (.inl (g.2.2 0, 60, .inl (upd (q1 186) ((b + t)) (q1 186 (a + t))))) := ⟨_, rfl⟩
      have hC : Cu g lo 196 ad F21 ss ss.heap H locs := by rw [eF21]; exact hC
      obtain ⟨q21, eq21⟩ : ∃ f, f = va_up q1 186 (upd (q1 186) ((b + t)) (q1 186 (a + t))) := ⟨_, rfl⟩
      have hM_F21 : MC g ad F21 c q21 su := by rw [eq21]; exact hM1.arr (by decide) (by decide) (by decide) (by decide) (by decide) eF21
      have hS_F21 : Same 175 196 F F21 := by rw [eF21]; exact hS1.up (by decide) (by decide)
      refine lv_aload_n B.1 B.2.1 dX9_copy_24 rfl (lv_at hl 1 rfl) ?_
      refine r_cg B hC (i := 175) (by decide) hM_F21.1 (C := RX9) (T := TX9) (n := 35) rfl iwX9_copy_X9 20 (by decide) (index := 43) flX9_copy_43 rfl (v := .ref (ad (187))) rfl dX9_copy_25 ?_
      refine lv_iload_n B.1 B.2.1 dX9_copy_28 rfl (lv_at hl 3 rfl) ?_
      refine lv_iload_n B.1 B.2.1 dX9_copy_29 rfl (lv_at hl 0 rfl) ?_
      refine lv_iadd B.1 B.2.1 dX9_copy_30 ?_
      refine r_tI (y := nI (b + t)) (nI_add _ _) ?_
      refine lv_aload_n B.1 B.2.1 dX9_copy_31 rfl (lv_at hl 1 rfl) ?_
      refine r_cg B hC (i := 175) (by decide) hM_F21.1 (C := RX9) (T := TX9) (n := 35) rfl iwX9_copy_X9 20 (by decide) (index := 43) flX9_copy_43 rfl (v := .ref (ad (187))) rfl dX9_copy_32 ?_
      refine lv_iload_n B.1 B.2.1 dX9_copy_35 rfl (lv_at hl 2 rfl) ?_
      refine lv_iload_n B.1 B.2.1 dX9_copy_36 rfl (lv_at hl 0 rfl) ?_
      refine lv_iadd B.1 B.2.1 dX9_copy_37 ?_
      refine r_tI (y := nI (a + t)) (nI_add _ _) ?_
      refine r_cald B hC (i := 187) (by decide) hM_F21.c187 (j := (a + t)) (by omega) (by decide) dX9_copy_38 ?_
      refine r_tI (y := q21 187 (a + t)) rfl ?_
      refine r_cast B hC (i := 187) (by decide) hM_F21.c187 (j := (b + t)) (by omega) (by decide) dX9_copy_39 ?_
      intro H locs hC
      obtain ⟨F22, eF22⟩ : ∃ f : Nat → va_E, f = va_up F21 187 (.inl (g.2.2 0, 60, .inl (upd (q21 187) ((b + t)) (q21 187 (a + t))))) := ⟨_, rfl⟩
      have hC : Cu g lo 196 ad F22 ss ss.heap H locs := by rw [eF22]; exact hC
      obtain ⟨q22, eq22⟩ : ∃ f, f = va_up q21 187 (upd (q21 187) ((b + t)) (q21 187 (a + t))) := ⟨_, rfl⟩
      have hM_F22 : MC g ad F22 c q22 su := by rw [eq22]; exact hM_F21.arr (by decide) (by decide) (by decide) (by decide) (by decide) eF22
      have hS_F22 : Same 175 196 F F22 := by rw [eF22]; exact hS_F21.up (by decide) (by decide)
      refine lv_aload_n B.1 B.2.1 dX9_copy_40 rfl (lv_at hl 1 rfl) ?_
      refine r_cg B hC (i := 175) (by decide) hM_F22.1 (C := RX9) (T := TX9) (n := 35) rfl iwX9_copy_X9 21 (by decide) (index := 46) flX9_copy_46 rfl (v := .ref (ad (188))) rfl dX9_copy_41 ?_
      refine lv_iload_n B.1 B.2.1 dX9_copy_44 rfl (lv_at hl 3 rfl) ?_
      refine lv_iload_n B.1 B.2.1 dX9_copy_45 rfl (lv_at hl 0 rfl) ?_
      refine lv_iadd B.1 B.2.1 dX9_copy_46 ?_
      refine r_tI (y := nI (b + t)) (nI_add _ _) ?_
      refine lv_aload_n B.1 B.2.1 dX9_copy_47 rfl (lv_at hl 1 rfl) ?_
      refine r_cg B hC (i := 175) (by decide) hM_F22.1 (C := RX9) (T := TX9) (n := 35) rfl iwX9_copy_X9 21 (by decide) (index := 46) flX9_copy_46 rfl (v := .ref (ad (188))) rfl dX9_copy_48 ?_
      refine lv_iload_n B.1 B.2.1 dX9_copy_51 rfl (lv_at hl 2 rfl) ?_
      refine lv_iload_n B.1 B.2.1 dX9_copy_52 rfl (lv_at hl 0 rfl) ?_
      refine lv_iadd B.1 B.2.1 dX9_copy_53 ?_
      refine r_tI (y := nI (a + t)) (nI_add _ _) ?_
      refine r_cald B hC (i := 188) (by decide) hM_F22.c188 (j := (a + t)) (by omega) (by decide) dX9_copy_54 ?_
      refine r_tI (y := q22 188 (a + t)) rfl ?_
      refine r_cast B hC (i := 188) (by decide) hM_F22.c188 (j := (b + t)) (by omega) (by decide) dX9_copy_55 ?_
      intro H locs hC
      obtain ⟨F23, eF23⟩ : ∃ f : Nat → va_E, f = va_up F22 188 (.inl (g.2.2 0, 60, .inl (upd (q22 188) ((b + t)) (q22 188 (a + t))))) := ⟨_, rfl⟩
      have hC : Cu g lo 196 ad F23 ss ss.heap H locs := by rw [eF23]; exact hC
      obtain ⟨q23, eq23⟩ : ∃ f, f = va_up q22 188 (upd (q22 188) ((b + t)) (q22 188 (a + t))) := ⟨_, rfl⟩
      have hM_F23 : MC g ad F23 c q23 su := by rw [eq23]; exact hM_F22.arr (by decide) (by decide) (by decide) (by decide) (by decide) eF23
      have hS_F23 : Same 175 196 F F23 := by rw [eF23]; exact hS_F22.up (by decide) (by decide)
      refine lv_iinc (v := nI (t + 1)) (lv' := [(3, .int (nI (t + 1))), (0, .ref (ad (175))), (1, .int (nI a)), (2, .int (nI b))]) B.1 B.2.1 dX9_copy_56 hl (k := 0) rfl (nI_1 _) (by decide) rfl (fun ls hl => ?_)
      refine lv_goto (tgt := 2) B.1 B.2.1 dX9_copy_59 (by decide) ?_
      exact ih2 (t + 1) q23 F23 (by omega) hM_F23 hS_F23 (by rw [show q23 = cp3 q1 a b t by subst eq21 eq22 eq23; rfl]; exact cp_step hcp (by omega) hab) _ _ ls hC (lv_sub hl [0, 1, 2, 3] rfl)
  exact loop2 10 0 q F (by omega) hM hS ⟨QS.rf, fun i hi => absurd hi (Nat.not_lt_zero i)⟩ _ _ ls hC (lv_sub hl [0, 1, 2, 3] rfl)
theorem iwX9_openSet_X9 : ∀ w ∈ u_ws RX9 TX9 35, w ∈ wsX9_openSet := by decide +kernel
theorem flX9_openSet_114 : Cond.fieldLink RX9 114 RX9 (TX9 12).2.1 (TX9 12).2.2.1 ∈ wsX9_openSet := by decide +kernel
set_option maxHeartbeats 4000000 in
set_option maxRecDepth 100000 in
theorem ctX9_openSet (l : Launch) (g : Gx) (lo : Nat) (ad : Nat → Nat) {F : Nat → va_E} {c : Nat → Int32} {q : Nat → Nat → Int32} {su : Nat → Int64} (hM : MC g ad F c q su) {h : HV} (ok : HOK h) (hR : HullR h c q) {b : Nat} {w : LV} (hb : b ≤ 50) (hB : BankR h q b w) (hw : LOK h w) : MI l g lo 196 ad yX9_openSet wsX9_openSet 1 23 [.ref (ad (175)), .int (nI b)] F (fun r F' => r = nI (openTo w (hn h)) ∧ F' = F) := by
  have okn := ok.1
  have okp := ok.2.1
  have okh := ok.2.2.1
  have hS : Same 175 196 F F := Same.rf
  refine enter (cc := cX9_openSet) (maxL := 4) (ret := some .int) (own := RX9) (by decide +kernel) rfl rfl (Nat.le_of_ble_eq_true rfl) ?_
  intro pp ee ss mm below meth cc B hini hC ls hl
  have hl : lv_has ls 4 [(0, .ref (ad (175))), (1, .int (nI b))] := hl
  refine lv_iconst (v := nI 0) B.1 B.2.1 dX9_openSet_0 (by decide) ?_
  refine lv_istore_n (lv' := [(2, .int (nI 0)), (0, .ref (ad (175))), (1, .int (nI b))]) B.1 B.2.1 dX9_openSet_1 rfl hl (by decide) rfl (fun ls hl => ?_)
  refine lv_iconst (v := nI 0) B.1 B.2.1 dX9_openSet_2 (by decide) ?_
  refine lv_istore_n (lv' := [(3, .int (nI 0)), (2, .int (nI 0)), (0, .ref (ad (175))), (1, .int (nI b))]) B.1 B.2.1 dX9_openSet_3 rfl hl (by decide) rfl (fun ls hl => ?_)
  have loop4 : ∀ (k : Nat) (p a : Nat), (p + k = hn h) → (a = openTo w p) → ∀ (H : Heap) (locs : List Loc) (ls : Array Slot), Cu g lo 196 ad F ss ss.heap H locs → lv_has ls 4 [(3, .int (nI p)), (2, .int (nI a)), (0, .ref (ad (175))), (1, .int (nI b))] → W pp l ee { frames := 1, cells := 0, slots := 0, locals := 23 } ss mm ([.ref (ad (175)), .int (nI b)] : List Value).toArray below meth cc H locs 0 0 (MQ below (va_Qi (fun r F' => r = nI (openTo w (hn h)) ∧ F' = F) (fun F' t => Wd g lo 196 ad F' t) (fun q => lo ≤ q)) ([.ref (ad (175)), .int (nI b)] : List Value).toArray ss 0 0 (fun q => lo ≤ q)) (F0 mm 4 ls []) := by
    intro k
    induction k with
    | zero =>
      intro p a hpk ha H locs ls hC hl
      refine lv_iload_n B.1 B.2.1 dX9_openSet_4 rfl (lv_at hl 0 rfl) ?_
      refine lv_aload_n B.1 B.2.1 dX9_openSet_5 rfl (lv_at hl 2 rfl) ?_
      refine r_cg B hC (i := 175) (by decide) hM.1 (C := RX9) (T := TX9) (n := 35) rfl iwX9_openSet_X9 12 (by decide) (index := 114) flX9_openSet_114 rfl (v := .int (c 12)) rfl dX9_openSet_6 ?_
      refine r_tI (y := nI (hn h)) (hR.1) ?_
      refine lv_icmp_ge (tgt := 39) B.1 B.2.1 dX9_openSet_9 (by decide) (fun _ => ?_) (fun z => absurd (nI_le (by omega) (by omega)) z)
      refine lv_iload_n B.1 B.2.1 dX9_openSet_39 rfl (lv_at hl 1 rfl) ?_
      exact r_eI B hC (v := nI a) (⟨by rw [ha, show p = hn h by omega], rfl⟩) dX9_openSet_40
    | succ k ih4 =>
      intro p a hpk ha H locs ls hC hl
      refine lv_iload_n B.1 B.2.1 dX9_openSet_4 rfl (lv_at hl 0 rfl) ?_
      refine lv_aload_n B.1 B.2.1 dX9_openSet_5 rfl (lv_at hl 2 rfl) ?_
      refine r_cg B hC (i := 175) (by decide) hM.1 (C := RX9) (T := TX9) (n := 35) rfl iwX9_openSet_X9 12 (by decide) (index := 114) flX9_openSet_114 rfl (v := .int (c 12)) rfl dX9_openSet_6 ?_
      refine r_tI (y := nI (hn h)) (hR.1) ?_
      refine lv_icmp_ge (tgt := 39) B.1 B.2.1 dX9_openSet_9 (by decide) (fun z => absurd z (nI_ge (by omega) (by omega))) (fun _ => ?_)
      refine lv_iload_n B.1 B.2.1 dX9_openSet_12 rfl (lv_at hl 1 rfl) ?_
      refine lv_aload_n B.1 B.2.1 dX9_openSet_13 rfl (lv_at hl 2 rfl) ?_
      refine lv_iload_n B.1 B.2.1 dX9_openSet_14 rfl (lv_at hl 3 rfl) ?_
      refine lv_iload_n B.1 B.2.1 dX9_openSet_15 rfl (lv_at hl 0 rfl) ?_
      refine r_calli B hC hl.1 (175) 9 rfl rfl (by decide) hM.1 (As := [.int (nI b), .int (nI p)]) (ctX9_inside l g lo ad hM ok hR hb hB hw (p := p) (by omega)) gX9_openSet_X9_inside rfl (n := 2) rfl (by decide +kernel) ⟨Nat.le_of_ble_eq_true rfl, Nat.le_of_ble_eq_true rfl⟩ ⟨Nat.zero_le _, Nat.zero_le _⟩ rfl (Nat.le_of_ble_eq_true rfl) dX9_openSet_16 (fun r16 F1 H locs hp16 hC => ?_)
      obtain ⟨er, eF⟩ := hp16
      subst er
      rw [eF] at hC
      refine lv_bipush (v := (-9)) B.1 B.2.1 dX9_openSet_19 (by decide) ?_
      refine lv_icmp_ne (tgt := 30) B.1 B.2.1 dX9_openSet_21 (by decide) (fun c_21 => ?_) (fun c_21 => ?_)
      · have q_21 : ¬ ti w p = none := fun z => c_21 ((oI_9 (fun j hj => Nat.lt_trans (hw.t10 (by omega) j hj) (by decide))).mpr z)
        refine lv_iconst (v := nI 0) B.1 B.2.1 dX9_openSet_30 (by decide) ?_
        refine lv_ior B.1 B.2.1 dX9_openSet_31 ?_
        refine r_tI (y := nI (a + 0)) (by first | exact or_bit (by rw [ha]; exact openTo_lt w p) | (rw [nI_or, Nat.or_zero]; rfl)) ?_
        refine lv_istore_n (lv' := [(2, .int (nI (a + 0))), (3, .int (nI p)), (0, .ref (ad (175))), (1, .int (nI b))]) B.1 B.2.1 dX9_openSet_32 rfl hl (by decide) rfl (fun ls hl => ?_)
        refine lv_iinc (v := nI (p + 1)) (lv' := [(3, .int (nI (p + 1))), (2, .int (nI (a + 0))), (0, .ref (ad (175))), (1, .int (nI b))]) B.1 B.2.1 dX9_openSet_33 hl (k := 1) rfl (nI_1 _) (by decide) rfl (fun ls hl => ?_)
        refine lv_goto (tgt := 4) B.1 B.2.1 dX9_openSet_36 (by decide) ?_
        exact ih4 (p + 1) ((a + 0)) (by omega) (by simp only [openTo, ha]; simp [q_21]) _ _ ls hC (lv_sub hl [0, 1, 2, 3] rfl)
      · have q_21 : ti w p = none := (oI_9 (fun j hj => Nat.lt_trans (hw.t10 (by omega) j hj) (by decide))).mp c_21
        refine lv_iconst (v := nI 1) B.1 B.2.1 dX9_openSet_24 (by decide) ?_
        refine lv_iload_n B.1 B.2.1 dX9_openSet_25 rfl (lv_at hl 0 rfl) ?_
        refine lv_ishl B.1 B.2.1 dX9_openSet_26 ?_
        refine r_tI (y := nI (2 ^ p)) (shl_1 p (by omega)) ?_
        refine lv_goto (tgt := 31) B.1 B.2.1 dX9_openSet_27 (by decide) ?_
        refine lv_ior B.1 B.2.1 dX9_openSet_31 ?_
        refine r_tI (y := nI (a + 2 ^ p)) (by first | exact or_bit (by rw [ha]; exact openTo_lt w p) | (rw [nI_or, Nat.or_zero]; rfl)) ?_
        refine lv_istore_n (lv' := [(2, .int (nI (a + 2 ^ p))), (3, .int (nI p)), (0, .ref (ad (175))), (1, .int (nI b))]) B.1 B.2.1 dX9_openSet_32 rfl hl (by decide) rfl (fun ls hl => ?_)
        refine lv_iinc (v := nI (p + 1)) (lv' := [(3, .int (nI (p + 1))), (2, .int (nI (a + 2 ^ p))), (0, .ref (ad (175))), (1, .int (nI b))]) B.1 B.2.1 dX9_openSet_33 hl (k := 1) rfl (nI_1 _) (by decide) rfl (fun ls hl => ?_)
        refine lv_goto (tgt := 4) B.1 B.2.1 dX9_openSet_36 (by decide) ?_
        exact ih4 (p + 1) ((a + 2 ^ p)) (by omega) (by simp only [openTo, ha]; simp [q_21]) _ _ ls hC (lv_sub hl [0, 1, 2, 3] rfl)
  exact loop4 (hn h) 0 0 (by omega) rfl _ _ ls hC (lv_sub hl [0, 1, 2, 3] rfl)
theorem iwX9_leakOf_X9 : ∀ w ∈ u_ws RX9 TX9 35, w ∈ wsX9_leakOf := by decide +kernel
theorem flX9_leakOf_28 : Cond.fieldLink RX9 28 RX9 (TX9 9).2.1 (TX9 9).2.2.1 ∈ wsX9_leakOf := by decide +kernel
theorem flX9_leakOf_114 : Cond.fieldLink RX9 114 RX9 (TX9 12).2.1 (TX9 12).2.2.1 ∈ wsX9_leakOf := by decide +kernel
set_option maxHeartbeats 4000000 in
set_option maxRecDepth 100000 in
theorem ctX9_leakOf (l : Launch) (g : Gx) (lo : Nat) (ad : Nat → Nat) {F : Nat → va_E} {c : Nat → Int32} {q : Nat → Nat → Int32} {su : Nat → Int64} (hM : MC g ad F c q su) {h : HV} (ok : HOK h) (hR : HullR h c q) {b : Nat} {w : LV} (hb : b ≤ 50) (hB : BankR h q b w) (hw : LOK h w) : MI l g lo 196 ad yX9_leakOf wsX9_leakOf 2 46 [.ref (ad (175)), .int (nI b)] F (fun r F' => r = nI (leakV h w) ∧ F' = F) := by
  have okn := ok.1
  have okp := ok.2.1
  have okh := ok.2.2.1
  have hS : Same 175 196 F F := Same.rf
  have hop := openTo_le (w := w) okn
  refine enter (cc := cX9_leakOf) (maxL := 5) (ret := some .int) (own := RX9) (by decide +kernel) rfl rfl (Nat.le_of_ble_eq_true rfl) ?_
  intro pp ee ss mm below meth cc B hini hC ls hl
  have hl : lv_has ls 5 [(0, .ref (ad (175))), (1, .int (nI b))] := hl
  refine lv_aload_n B.1 B.2.1 dX9_leakOf_0 rfl (lv_at hl 0 rfl) ?_
  refine lv_iload_n B.1 B.2.1 dX9_leakOf_1 rfl (lv_at hl 1 rfl) ?_
  refine r_calli B hC hl.1 (175) 9 rfl rfl (by decide) hM.1 (As := [.int (nI b)]) (ctX9_openSet l g lo ad hM ok hR hb hB hw) gX9_leakOf_X9_openSet rfl (n := 1) rfl (by decide +kernel) ⟨Nat.le_of_ble_eq_true rfl, Nat.le_of_ble_eq_true rfl⟩ ⟨Nat.zero_le _, Nat.zero_le _⟩ rfl (Nat.le_of_ble_eq_true rfl) dX9_leakOf_2 (fun r2 F1 H locs hp2 hC => ?_)
  obtain ⟨er, eF⟩ := hp2
  subst er
  rw [eF] at hC
  refine lv_istore_n (lv' := [(2, .int (nI (openTo w (hn h)))), (0, .ref (ad (175))), (1, .int (nI b))]) B.1 B.2.1 dX9_leakOf_5 rfl hl (by decide) rfl (fun ls hl => ?_)
  refine lv_iconst (v := nI 0) B.1 B.2.1 dX9_leakOf_6 (by decide) ?_
  refine lv_istore_n (lv' := [(3, .int (nI 0)), (2, .int (nI (openTo w (hn h)))), (0, .ref (ad (175))), (1, .int (nI b))]) B.1 B.2.1 dX9_leakOf_7 rfl hl (by decide) rfl (fun ls hl => ?_)
  refine lv_iconst (v := nI 0) B.1 B.2.1 dX9_leakOf_8 (by decide) ?_
  refine lv_istore (lv' := [(4, .int (nI 0)), (3, .int (nI 0)), (2, .int (nI (openTo w (hn h)))), (0, .ref (ad (175))), (1, .int (nI b))]) B.1 B.2.1 dX9_leakOf_9 hl (by decide) rfl (fun ls hl => ?_)
  have loop11 : ∀ (k : Nat) (p a : Nat), (p + k = hn h) → (a = leakTo h w p) → ∀ (H : Heap) (locs : List Loc) (ls : Array Slot), Cu g lo 196 ad F ss ss.heap H locs → lv_has ls 5 [(4, .int (nI p)), (3, .int (nI a)), (2, .int (nI (openTo w (hn h)))), (0, .ref (ad (175))), (1, .int (nI b))] → W pp l ee { frames := 2, cells := 0, slots := 0, locals := 46 } ss mm ([.ref (ad (175)), .int (nI b)] : List Value).toArray below meth cc H locs 0 0 (MQ below (va_Qi (fun r F' => r = nI (leakV h w) ∧ F' = F) (fun F' t => Wd g lo 196 ad F' t) (fun q => lo ≤ q)) ([.ref (ad (175)), .int (nI b)] : List Value).toArray ss 0 0 (fun q => lo ≤ q)) (F0 mm 11 ls []) := by
    intro k
    induction k with
    | zero =>
      intro p a hpk ha H locs ls hC hl
      refine lv_iload B.1 B.2.1 dX9_leakOf_11 (lv_at hl 0 rfl) ?_
      refine lv_aload_n B.1 B.2.1 dX9_leakOf_13 rfl (lv_at hl 3 rfl) ?_
      refine r_cg B hC (i := 175) (by decide) hM.1 (C := RX9) (T := TX9) (n := 35) rfl iwX9_leakOf_X9 12 (by decide) (index := 114) flX9_leakOf_114 rfl (v := .int (c 12)) rfl dX9_leakOf_14 ?_
      refine r_tI (y := nI (hn h)) (hR.1) ?_
      refine lv_icmp_ge (tgt := 50) B.1 B.2.1 dX9_leakOf_17 (by decide) (fun _ => ?_) (fun z => absurd (nI_le (by omega) (by omega)) z)
      refine lv_iload_n B.1 B.2.1 dX9_leakOf_50 rfl (lv_at hl 1 rfl) ?_
      exact r_eI B hC (v := nI a) (⟨by rw [ha, show p = hn h by omega]; rfl, rfl⟩) dX9_leakOf_51
    | succ k ih11 =>
      intro p a hpk ha H locs ls hC hl
      refine lv_iload B.1 B.2.1 dX9_leakOf_11 (lv_at hl 0 rfl) ?_
      refine lv_aload_n B.1 B.2.1 dX9_leakOf_13 rfl (lv_at hl 3 rfl) ?_
      refine r_cg B hC (i := 175) (by decide) hM.1 (C := RX9) (T := TX9) (n := 35) rfl iwX9_leakOf_X9 12 (by decide) (index := 114) flX9_leakOf_114 rfl (v := .int (c 12)) rfl dX9_leakOf_14 ?_
      refine r_tI (y := nI (hn h)) (hR.1) ?_
      refine lv_icmp_ge (tgt := 50) B.1 B.2.1 dX9_leakOf_17 (by decide) (fun z => absurd z (nI_ge (by omega) (by omega))) (fun _ => ?_)
      refine lv_iload_n B.1 B.2.1 dX9_leakOf_20 rfl (lv_at hl 1 rfl) ?_
      refine lv_iload_n B.1 B.2.1 dX9_leakOf_21 rfl (lv_at hl 2 rfl) ?_
      refine lv_iload B.1 B.2.1 dX9_leakOf_22 (lv_at hl 0 rfl) ?_
      refine lv_ishr B.1 B.2.1 dX9_leakOf_24 ?_
      refine r_tI (y := nI (openTo w (hn h) / 2 ^ p)) (pk_shrN (by omega) _ p (sh_amt31 p (by omega))) ?_
      refine lv_iconst (v := nI 1) B.1 B.2.1 dX9_leakOf_25 (by decide) ?_
      refine lv_iand B.1 B.2.1 dX9_leakOf_26 ?_
      refine r_tI (y := nI (if ti w p = none then 1 else 0)) (by rw [nI_and1, openTo_bit w (by omega)]) ?_
      refine lv_iconst (v := nI 1) B.1 B.2.1 dX9_leakOf_27 (by decide) ?_
      refine lv_icmp_ne (tgt := 41) B.1 B.2.1 dX9_leakOf_28 (by decide) (fun c_28 => ?_) (fun c_28 => ?_)
      · have q_28 : ¬ ti w p = none := fun z => c_28 (by rw [if_pos z])
        refine lv_iconst (v := nI 0) B.1 B.2.1 dX9_leakOf_41 (by decide) ?_
        refine lv_iadd B.1 B.2.1 dX9_leakOf_42 ?_
        refine r_tI (y := nI (a + 0)) (nI_add _ _) ?_
        refine lv_istore_n (lv' := [(3, .int (nI (a + 0))), (4, .int (nI p)), (2, .int (nI (openTo w (hn h)))), (0, .ref (ad (175))), (1, .int (nI b))]) B.1 B.2.1 dX9_leakOf_43 rfl hl (by decide) rfl (fun ls hl => ?_)
        refine lv_iinc (v := nI (p + 1)) (lv' := [(4, .int (nI (p + 1))), (3, .int (nI (a + 0))), (2, .int (nI (openTo w (hn h)))), (0, .ref (ad (175))), (1, .int (nI b))]) B.1 B.2.1 dX9_leakOf_44 hl (k := 1) rfl (nI_1 _) (by decide) rfl (fun ls hl => ?_)
        refine lv_goto (tgt := 11) B.1 B.2.1 dX9_leakOf_47 (by decide) ?_
        exact ih11 (p + 1) ((a + 0)) (by omega) (by simp only [leakTo, ha]; simp [q_28]) _ _ ls hC (lv_sub hl [0, 1, 2, 3, 4] rfl)
      · have q_28 : ti w p = none := Classical.byContradiction (fun z => by rw [if_neg z] at c_28; exact absurd c_28 (by decide))
        refine lv_aload_n B.1 B.2.1 dX9_leakOf_31 rfl (lv_at hl 3 rfl) ?_
        refine r_cg B hC (i := 175) (by decide) hM.1 (C := RX9) (T := TX9) (n := 35) rfl iwX9_leakOf_X9 9 (by decide) (index := 28) flX9_leakOf_28 rfl (v := .ref (ad (182))) rfl dX9_leakOf_32 ?_
        refine lv_iload B.1 B.2.1 dX9_leakOf_35 (lv_at hl 0 rfl) ?_
        refine r_cald B hC (i := 182) (by decide) hM.c182 (j := p) (by omega) (by decide) dX9_leakOf_37 ?_
        refine r_tI (y := q 182 p) rfl ?_
        refine r_tI (y := nI (hin_ h p)) ((hR.2.2.2 p (by omega)).2.1) ?_
        refine lv_goto (tgt := 42) B.1 B.2.1 dX9_leakOf_38 (by decide) ?_
        refine lv_iadd B.1 B.2.1 dX9_leakOf_42 ?_
        refine r_tI (y := nI (a + (hin_ h p))) (nI_add _ _) ?_
        refine lv_istore_n (lv' := [(3, .int (nI (a + (hin_ h p)))), (4, .int (nI p)), (2, .int (nI (openTo w (hn h)))), (0, .ref (ad (175))), (1, .int (nI b))]) B.1 B.2.1 dX9_leakOf_43 rfl hl (by decide) rfl (fun ls hl => ?_)
        refine lv_iinc (v := nI (p + 1)) (lv' := [(4, .int (nI (p + 1))), (3, .int (nI (a + (hin_ h p)))), (2, .int (nI (openTo w (hn h)))), (0, .ref (ad (175))), (1, .int (nI b))]) B.1 B.2.1 dX9_leakOf_44 hl (k := 1) rfl (nI_1 _) (by decide) rfl (fun ls hl => ?_)
        refine lv_goto (tgt := 11) B.1 B.2.1 dX9_leakOf_47 (by decide) ?_
        exact ih11 (p + 1) ((a + (hin_ h p))) (by omega) (by simp only [leakTo, ha]; simp [q_28]) _ _ ls hC (lv_sub hl [0, 1, 2, 3, 4] rfl)
  exact loop11 (hn h) 0 0 (by omega) rfl _ _ ls hC (lv_sub hl [0, 1, 2, 3, 4] rfl)
theorem iwX9_goes_X9 : ∀ w ∈ u_ws RX9 TX9 35, w ∈ wsX9_goes := by decide +kernel
theorem flX9_goes_25 : Cond.fieldLink RX9 25 RX9 (TX9 8).2.1 (TX9 8).2.2.1 ∈ wsX9_goes := by decide +kernel
theorem flX9_goes_40 : Cond.fieldLink RX9 40 RX9 (TX9 19).2.1 (TX9 19).2.2.1 ∈ wsX9_goes := by decide +kernel
theorem flX9_goes_43 : Cond.fieldLink RX9 43 RX9 (TX9 20).2.1 (TX9 20).2.2.1 ∈ wsX9_goes := by decide +kernel
set_option maxHeartbeats 4000000 in
set_option maxRecDepth 100000 in
theorem ctX9_goes (l : Launch) (g : Gx) (lo : Nat) (ad : Nat → Nat) {F : Nat → va_E} {c : Nat → Int32} {q : Nat → Nat → Int32} {su : Nat → Int64} (hM : MC g ad F c q su) {h : HV} (ok : HOK h) (hR : HullR h c q) {b : Nat} {w : LV} (hb : b ≤ 50) (hB : BankR h q b w) (hw : LOK h w) {t p : Nat} (ht : t < hn h) (hp : p < hn h) : MI l g lo 196 ad yX9_goes wsX9_goes 3 69 [.ref (ad (175)), .int (nI b), .int (nI t), .int (nI p)] F (fun r F' => ∃ q', MC g ad F' c q' su ∧ Same 175 196 F F' ∧ QS b q q' ∧ r = bI (mayV h w t p) ∧ BankR h q' b (if mayV h w t p = true then cutV' h w t p else w)) := by
  have okn := ok.1
  have okp := ok.2.1
  have okh := ok.2.2.1
  have hS : Same 175 196 F F := Same.rf
  have w3 := (hw.1 t).1
  have w4 := (ok.2.2.2.1 p).1
  refine enter (cc := cX9_goes) (maxL := 5) (ret := some .boolean) (own := RX9) (by decide +kernel) rfl rfl (Nat.le_of_ble_eq_true rfl) ?_
  intro pp ee ss mm below meth cc B hini hC ls hl
  have hl : lv_has ls 5 [(0, .ref (ad (175))), (1, .int (nI b)), (2, .int (nI t)), (3, .int (nI p))] := hl
  refine lv_aload_n B.1 B.2.1 dX9_goes_0 rfl (lv_at hl 0 rfl) ?_
  refine r_cg B hC (i := 175) (by decide) hM.1 (C := RX9) (T := TX9) (n := 35) rfl iwX9_goes_X9 19 (by decide) (index := 40) flX9_goes_40 rfl (v := .ref (ad (186))) rfl dX9_goes_1 ?_
  refine lv_iload_n B.1 B.2.1 dX9_goes_4 rfl (lv_at hl 1 rfl) ?_
  refine lv_iload_n B.1 B.2.1 dX9_goes_5 rfl (lv_at hl 2 rfl) ?_
  refine lv_iadd B.1 B.2.1 dX9_goes_6 ?_
  refine r_tI (y := nI (b + t)) (nI_add _ _) ?_
  refine r_cald B hC (i := 186) (by decide) hM.c186 (j := (b + t)) (by omega) (by decide) dX9_goes_7 ?_
  refine r_tI (y := q 186 (b + t)) rfl ?_
  refine r_tI (y := nI (wh w t)) ((hB t ht).1) ?_
  refine lv_istore (lv' := [(4, .int (nI (wh w t))), (0, .ref (ad (175))), (1, .int (nI b)), (2, .int (nI t)), (3, .int (nI p))]) B.1 B.2.1 dX9_goes_8 hl (by decide) rfl (fun ls hl => ?_)
  refine lv_iload B.1 B.2.1 dX9_goes_10 (lv_at hl 0 rfl) ?_
  refine lv_sipush (v := nI 200) B.1 B.2.1 dX9_goes_12 (by decide) ?_
  refine lv_icmp_eq (tgt := 41) B.1 B.2.1 dX9_goes_15 (by decide) (fun c_15 => ?_) (fun c_15 => ?_)
  · have q_15 : (wh w t) = 200 := (nI_eq (by omega) (by omega)).mp c_15
    refine lv_iconst (v := nI 0) B.1 B.2.1 dX9_goes_41 (by decide) ?_
    exact r_eZ B hC (v := nI 0) (rfl) (⟨q, hM, hS, QS.rf, by rw [goes_f1 ok q_15]; rfl, by rw [goes_f1 ok q_15]; exact hB⟩) dX9_goes_42
  · have q_15 : ¬ (wh w t) = 200 := fun z => c_15 ((nI_eq (by omega) (by omega)).mpr z)
    refine lv_iload B.1 B.2.1 dX9_goes_18 (lv_at hl 0 rfl) ?_
    refine lv_iload_n B.1 B.2.1 dX9_goes_20 rfl (lv_at hl 4 rfl) ?_
    refine lv_icmp_eq (tgt := 41) B.1 B.2.1 dX9_goes_21 (by decide) (fun c_21 => ?_) (fun c_21 => ?_)
    · have q_21 : (wh w t) = p := (nI_eq (by omega) (by omega)).mp c_21
      refine lv_iconst (v := nI 0) B.1 B.2.1 dX9_goes_41 (by decide) ?_
      exact r_eZ B hC (v := nI 0) (rfl) (⟨q, hM, hS, QS.rf, by rw [goes_f2 ok hw ht hp q_21]; rfl, by rw [goes_f2 ok hw ht hp q_21]; exact hB⟩) dX9_goes_42
    · have q_21 : ¬ (wh w t) = p := fun z => c_21 ((nI_eq (by omega) (by omega)).mpr z)
      refine lv_iload B.1 B.2.1 dX9_goes_24 (lv_at hl 0 rfl) ?_
      refine lv_bipush (v := nI 100) B.1 B.2.1 dX9_goes_26 (by decide) ?_
      refine lv_icmp_eq (tgt := 43) B.1 B.2.1 dX9_goes_28 (by decide) (fun c_28 => ?_) (fun c_28 => ?_)
      · have q_28 : (wh w t) = 100 := (nI_eq (by omega) (by omega)).mp c_28
        have hwo := hw.2.2.2.2.2.2.1 t (by omega) q_15
        have hw1 : LOK h (bringV w t 100) := LOK_bring ok hw ht (Or.inr ⟨hwo, Or.inl rfl⟩)
        have he := goes_e ok hw ht hp q_15 q_21 (Or.inl q_28)
        refine lv_aload_n B.1 B.2.1 dX9_goes_43 rfl (lv_at hl 1 rfl) ?_
        refine r_cg B hC (i := 175) (by decide) hM.1 (C := RX9) (T := TX9) (n := 35) rfl iwX9_goes_X9 19 (by decide) (index := 40) flX9_goes_40 rfl (v := .ref (ad (186))) rfl dX9_goes_44 ?_
        refine lv_iload_n B.1 B.2.1 dX9_goes_47 rfl (lv_at hl 2 rfl) ?_
        refine lv_iload_n B.1 B.2.1 dX9_goes_48 rfl (lv_at hl 3 rfl) ?_
        refine lv_iadd B.1 B.2.1 dX9_goes_49 ?_
        refine r_tI (y := nI (b + t)) (nI_add _ _) ?_
        refine lv_bipush (v := nI 100) B.1 B.2.1 dX9_goes_50 (by decide) ?_
        refine r_cast B hC (i := 186) (by decide) hM.c186 (j := (b + t)) (by omega) (by decide) dX9_goes_52 ?_
        intro H locs hC
        obtain ⟨F1, eF1⟩ : ∃ f : Nat → va_E, f = va_up F 186 (.inl (g.2.2 0, 60, .inl (upd (q 186) ((b + t)) (nI 100)))) := ⟨_, rfl⟩
        have hC : Cu g lo 196 ad F1 ss ss.heap H locs := by rw [eF1]; exact hC
        obtain ⟨q1, eq1⟩ : ∃ f, f = va_up q 186 (upd (q 186) ((b + t)) (nI 100)) := ⟨_, rfl⟩
        have hM_F1 : MC g ad F1 c q1 su := by rw [eq1]; exact hM.arr (by decide) (by decide) (by decide) (by decide) (by decide) eF1
        have hR_F1 : HullR h c q1 := by rw [eq1]; exact hR.upq (by decide)
        have hS_F1 : Same 175 196 F F1 := by rw [eF1]; exact hS.up (by decide) (by decide)
        have hB1 : BankR h q1 b (bringV w t 100) := by rw [eq1]; exact hB.bring
        have hQ1 : QS b q q1 := by rw [eq1]; exact QS.rf.up (by decide) (by omega)
        refine lv_aload_n B.1 B.2.1 dX9_goes_53 rfl (lv_at hl 1 rfl) ?_
        refine lv_iload_n B.1 B.2.1 dX9_goes_54 rfl (lv_at hl 2 rfl) ?_
        refine lv_iload_n B.1 B.2.1 dX9_goes_55 rfl (lv_at hl 3 rfl) ?_
        refine lv_iload_n B.1 B.2.1 dX9_goes_56 rfl (lv_at hl 4 rfl) ?_
        refine r_calli B hC hl.1 (175) 9 rfl rfl (by decide) hM_F1.1 (As := [.int (nI b), .int (nI t), .int (nI p)]) (ctX9_canPut l g lo ad hM_F1 ok hR_F1 hb hB1 hw1 (t := t) (p := p) ht hp) gX9_goes_X9_canPut rfl (n := 3) rfl (by decide +kernel) ⟨Nat.le_of_ble_eq_true rfl, Nat.le_of_ble_eq_true rfl⟩ ⟨Nat.zero_le _, Nat.zero_le _⟩ rfl (Nat.le_of_ble_eq_true rfl) dX9_goes_57 (fun r57 F2 H locs hp57 hC => ?_)
        obtain ⟨er, eF⟩ := hp57
        subst er
        rw [eF] at hC
        refine lv_if_ne (tgt := 75) B.1 B.2.1 dX9_goes_60 (by decide) (fun c_60 => ?_) (fun c_60 => ?_)
        · have q_60 : fitsV h (bringV w t 100) t p = true := by have z := bI_t.mp c_60; rw [Bool.and_eq_true] at z; exact z.2
          refine lv_aload_n B.1 B.2.1 dX9_goes_75 rfl (lv_at hl 1 rfl) ?_
          refine r_cg B hC (i := 175) (by decide) hM_F1.1 (C := RX9) (T := TX9) (n := 35) rfl iwX9_goes_X9 19 (by decide) (index := 40) flX9_goes_40 rfl (v := .ref (ad (186))) rfl dX9_goes_76 ?_
          refine lv_iload_n B.1 B.2.1 dX9_goes_79 rfl (lv_at hl 2 rfl) ?_
          refine lv_iload_n B.1 B.2.1 dX9_goes_80 rfl (lv_at hl 3 rfl) ?_
          refine lv_iadd B.1 B.2.1 dX9_goes_81 ?_
          refine r_tI (y := nI (b + t)) (nI_add _ _) ?_
          refine lv_iload_n B.1 B.2.1 dX9_goes_82 rfl (lv_at hl 4 rfl) ?_
          refine r_cast B hC (i := 186) (by decide) hM_F1.c186 (j := (b + t)) (by omega) (by decide) dX9_goes_83 ?_
          intro H locs hC
          obtain ⟨F2, eF2⟩ : ∃ f : Nat → va_E, f = va_up F1 186 (.inl (g.2.2 0, 60, .inl (upd (q1 186) ((b + t)) (nI p)))) := ⟨_, rfl⟩
          have hC : Cu g lo 196 ad F2 ss ss.heap H locs := by rw [eF2]; exact hC
          obtain ⟨q2, eq2⟩ : ∃ f, f = va_up q1 186 (upd (q1 186) ((b + t)) (nI p)) := ⟨_, rfl⟩
          have hM_F2 : MC g ad F2 c q2 su := by rw [eq2]; exact hM_F1.arr (by decide) (by decide) (by decide) (by decide) (by decide) eF2
          have hR_F2 : HullR h c q2 := by rw [eq2]; exact hR_F1.upq (by decide)
          have hS_F2 : Same 175 196 F F2 := by rw [eF2]; exact hS_F1.up (by decide) (by decide)
          have hB2 : BankR h q2 b (bringV w t p) := by rw [eq2]; exact (hB1.bring (x := p)).cong (fun s hs => ⟨by show va_up (wh w) t p s = va_up (va_up (wh w) t 100) t p s; by_cases e : s = t; rw [e, va_up_self, va_up_self]; rw [va_up_ne _ _ e, va_up_ne _ _ e, va_up_ne _ _ e], rfl, rfl⟩)
          have hQ2 : QS b q q2 := by rw [eq2]; exact hQ1.up (by decide) (by omega)
          refine lv_aload_n B.1 B.2.1 dX9_goes_84 rfl (lv_at hl 1 rfl) ?_
          refine r_cg B hC (i := 175) (by decide) hM_F2.1 (C := RX9) (T := TX9) (n := 35) rfl iwX9_goes_X9 20 (by decide) (index := 43) flX9_goes_43 rfl (v := .ref (ad (187))) rfl dX9_goes_85 ?_
          refine lv_iload_n B.1 B.2.1 dX9_goes_88 rfl (lv_at hl 2 rfl) ?_
          refine lv_iload_n B.1 B.2.1 dX9_goes_89 rfl (lv_at hl 3 rfl) ?_
          refine lv_iadd B.1 B.2.1 dX9_goes_90 ?_
          refine r_tI (y := nI (b + t)) (nI_add _ _) ?_
          refine lv_aload_n B.1 B.2.1 dX9_goes_91 rfl (lv_at hl 1 rfl) ?_
          refine r_cg B hC (i := 175) (by decide) hM_F2.1 (C := RX9) (T := TX9) (n := 35) rfl iwX9_goes_X9 8 (by decide) (index := 25) flX9_goes_25 rfl (v := .ref (ad (181))) rfl dX9_goes_92 ?_
          refine lv_iload_n B.1 B.2.1 dX9_goes_95 rfl (lv_at hl 4 rfl) ?_
          refine r_cald B hC (i := 181) (by decide) hM_F2.c181 (j := p) (by omega) (by decide) dX9_goes_96 ?_
          refine r_tI (y := q2 181 p) rfl ?_
          refine r_tI (y := nI (hle h p)) ((hR_F2.2.2.2 p hp).1) ?_
          refine r_cast B hC (i := 187) (by decide) hM_F2.c187 (j := (b + t)) (by omega) (by decide) dX9_goes_97 ?_
          intro H locs hC
          obtain ⟨F3, eF3⟩ : ∃ f : Nat → va_E, f = va_up F2 187 (.inl (g.2.2 0, 60, .inl (upd (q2 187) ((b + t)) (nI (hle h p))))) := ⟨_, rfl⟩
          have hC : Cu g lo 196 ad F3 ss ss.heap H locs := by rw [eF3]; exact hC
          obtain ⟨q3, eq3⟩ : ∃ f, f = va_up q2 187 (upd (q2 187) ((b + t)) (nI (hle h p))) := ⟨_, rfl⟩
          have hM_F3 : MC g ad F3 c q3 su := by rw [eq3]; exact hM_F2.arr (by decide) (by decide) (by decide) (by decide) (by decide) eF3
          have hR_F3 : HullR h c q3 := by rw [eq3]; exact hR_F2.upq (by decide)
          have hS_F3 : Same 175 196 F F3 := by rw [eF3]; exact hS_F2.up (by decide) (by decide)
          have hB3 : BankR h q3 b (cutV' h w t p) := by rw [eq3]; exact hB2.cut
          have hQ3 : QS b q q3 := by rw [eq3]; exact hQ2.up (by decide) (by omega)
          refine lv_iconst (v := nI 1) B.1 B.2.1 dX9_goes_98 (by decide) ?_
          exact r_eZ B hC (v := nI 1) (rfl) (⟨_, hM_F3, hS_F3, hQ3, by rw [he, q_60]; rfl, by rw [he, q_60]; exact hB3⟩) dX9_goes_99
        · have q_60 : fitsV h (bringV w t 100) t p = false := by have z := bI_f.mp c_60; rw [show wh (bringV w t 100) t = 100 from va_up_self _ _ _, decide_eq_true rfl, Bool.true_and] at z; exact z
          refine lv_aload_n B.1 B.2.1 dX9_goes_63 rfl (lv_at hl 1 rfl) ?_
          refine r_cg B hC (i := 175) (by decide) hM_F1.1 (C := RX9) (T := TX9) (n := 35) rfl iwX9_goes_X9 19 (by decide) (index := 40) flX9_goes_40 rfl (v := .ref (ad (186))) rfl dX9_goes_64 ?_
          refine lv_iload_n B.1 B.2.1 dX9_goes_67 rfl (lv_at hl 2 rfl) ?_
          refine lv_iload_n B.1 B.2.1 dX9_goes_68 rfl (lv_at hl 3 rfl) ?_
          refine lv_iadd B.1 B.2.1 dX9_goes_69 ?_
          refine r_tI (y := nI (b + t)) (nI_add _ _) ?_
          refine lv_iload B.1 B.2.1 dX9_goes_70 (lv_at hl 0 rfl) ?_
          refine r_cast B hC (i := 186) (by decide) hM_F1.c186 (j := (b + t)) (by omega) (by decide) dX9_goes_72 ?_
          intro H locs hC
          obtain ⟨F2, eF2⟩ : ∃ f : Nat → va_E, f = va_up F1 186 (.inl (g.2.2 0, 60, .inl (upd (q1 186) ((b + t)) (nI (wh w t))))) := ⟨_, rfl⟩
          have hC : Cu g lo 196 ad F2 ss ss.heap H locs := by rw [eF2]; exact hC
          obtain ⟨q2, eq2⟩ : ∃ f, f = va_up q1 186 (upd (q1 186) ((b + t)) (nI (wh w t))) := ⟨_, rfl⟩
          have hM_F2 : MC g ad F2 c q2 su := by rw [eq2]; exact hM_F1.arr (by decide) (by decide) (by decide) (by decide) (by decide) eF2
          have hR_F2 : HullR h c q2 := by rw [eq2]; exact hR_F1.upq (by decide)
          have hS_F2 : Same 175 196 F F2 := by rw [eF2]; exact hS_F1.up (by decide) (by decide)
          have hB2 : BankR h q2 b w := by rw [eq2]; exact (hB1.bring (x := wh w t)).cong (fun s hs => ⟨by show wh w s = va_up (va_up (wh w) t 100) t (wh w t) s; by_cases e : s = t; rw [e, va_up_self]; rw [va_up_ne _ _ e, va_up_ne _ _ e], rfl, rfl⟩)
          have hQ2 : QS b q q2 := by rw [eq2]; exact hQ1.up (by decide) (by omega)
          refine lv_iconst (v := nI 0) B.1 B.2.1 dX9_goes_73 (by decide) ?_
          exact r_eZ B hC (v := nI 0) (rfl) (⟨_, hM_F2, hS_F2, hQ2, by rw [he, q_60]; rfl, by rw [he, q_60]; exact hB2⟩) dX9_goes_74
      · have q_28 : ¬ (wh w t) = 100 := fun z => c_28 ((nI_eq (by omega) (by omega)).mpr z)
        have h5 := hw.2.2.2.2.1 t (by omega)
        refine lv_aload_n B.1 B.2.1 dX9_goes_31 rfl (lv_at hl 1 rfl) ?_
        refine lv_iload_n B.1 B.2.1 dX9_goes_32 rfl (lv_at hl 2 rfl) ?_
        refine lv_iload B.1 B.2.1 dX9_goes_33 (lv_at hl 0 rfl) ?_
        refine r_calli B hC hl.1 (175) 9 rfl rfl (by decide) hM.1 (As := [.int (nI b), .int (nI (wh w t))]) (ctX9_canTake l g lo ad hM ok hR hb hB hw (p := wh w t) (by omega)) gX9_goes_X9_canTake rfl (n := 2) rfl (by decide +kernel) ⟨Nat.le_of_ble_eq_true rfl, Nat.le_of_ble_eq_true rfl⟩ ⟨Nat.zero_le _, Nat.zero_le _⟩ rfl (Nat.le_of_ble_eq_true rfl) dX9_goes_35 (fun r35 F1 H locs hp35 hC => ?_)
        obtain ⟨er, eF⟩ := hp35
        subst er
        rw [eF] at hC
        refine lv_if_ne (tgt := 43) B.1 B.2.1 dX9_goes_38 (by decide) (fun c_38 => ?_) (fun c_38 => ?_)
        · have q_38 := bI_t.mp c_38
          have hwo := hw.2.2.2.2.2.2.1 t (by omega) q_15
          have hw1 : LOK h (bringV w t 100) := LOK_bring ok hw ht (Or.inr ⟨hwo, Or.inl rfl⟩)
          have he := goes_e ok hw ht hp q_15 q_21 (Or.inr q_38)
          refine lv_aload_n B.1 B.2.1 dX9_goes_43 rfl (lv_at hl 1 rfl) ?_
          refine r_cg B hC (i := 175) (by decide) hM.1 (C := RX9) (T := TX9) (n := 35) rfl iwX9_goes_X9 19 (by decide) (index := 40) flX9_goes_40 rfl (v := .ref (ad (186))) rfl dX9_goes_44 ?_
          refine lv_iload_n B.1 B.2.1 dX9_goes_47 rfl (lv_at hl 2 rfl) ?_
          refine lv_iload_n B.1 B.2.1 dX9_goes_48 rfl (lv_at hl 3 rfl) ?_
          refine lv_iadd B.1 B.2.1 dX9_goes_49 ?_
          refine r_tI (y := nI (b + t)) (nI_add _ _) ?_
          refine lv_bipush (v := nI 100) B.1 B.2.1 dX9_goes_50 (by decide) ?_
          refine r_cast B hC (i := 186) (by decide) hM.c186 (j := (b + t)) (by omega) (by decide) dX9_goes_52 ?_
          intro H locs hC
          obtain ⟨F1, eF1⟩ : ∃ f : Nat → va_E, f = va_up F 186 (.inl (g.2.2 0, 60, .inl (upd (q 186) ((b + t)) (nI 100)))) := ⟨_, rfl⟩
          have hC : Cu g lo 196 ad F1 ss ss.heap H locs := by rw [eF1]; exact hC
          obtain ⟨q1, eq1⟩ : ∃ f, f = va_up q 186 (upd (q 186) ((b + t)) (nI 100)) := ⟨_, rfl⟩
          have hM_F1 : MC g ad F1 c q1 su := by rw [eq1]; exact hM.arr (by decide) (by decide) (by decide) (by decide) (by decide) eF1
          have hR_F1 : HullR h c q1 := by rw [eq1]; exact hR.upq (by decide)
          have hS_F1 : Same 175 196 F F1 := by rw [eF1]; exact hS.up (by decide) (by decide)
          have hB1 : BankR h q1 b (bringV w t 100) := by rw [eq1]; exact hB.bring
          have hQ1 : QS b q q1 := by rw [eq1]; exact QS.rf.up (by decide) (by omega)
          refine lv_aload_n B.1 B.2.1 dX9_goes_53 rfl (lv_at hl 1 rfl) ?_
          refine lv_iload_n B.1 B.2.1 dX9_goes_54 rfl (lv_at hl 2 rfl) ?_
          refine lv_iload_n B.1 B.2.1 dX9_goes_55 rfl (lv_at hl 3 rfl) ?_
          refine lv_iload_n B.1 B.2.1 dX9_goes_56 rfl (lv_at hl 4 rfl) ?_
          refine r_calli B hC hl.1 (175) 9 rfl rfl (by decide) hM_F1.1 (As := [.int (nI b), .int (nI t), .int (nI p)]) (ctX9_canPut l g lo ad hM_F1 ok hR_F1 hb hB1 hw1 (t := t) (p := p) ht hp) gX9_goes_X9_canPut rfl (n := 3) rfl (by decide +kernel) ⟨Nat.le_of_ble_eq_true rfl, Nat.le_of_ble_eq_true rfl⟩ ⟨Nat.zero_le _, Nat.zero_le _⟩ rfl (Nat.le_of_ble_eq_true rfl) dX9_goes_57 (fun r57 F2 H locs hp57 hC => ?_)
          obtain ⟨er, eF⟩ := hp57
          subst er
          rw [eF] at hC
          refine lv_if_ne (tgt := 75) B.1 B.2.1 dX9_goes_60 (by decide) (fun c_60 => ?_) (fun c_60 => ?_)
          · have q_60 : fitsV h (bringV w t 100) t p = true := by have z := bI_t.mp c_60; rw [Bool.and_eq_true] at z; exact z.2
            refine lv_aload_n B.1 B.2.1 dX9_goes_75 rfl (lv_at hl 1 rfl) ?_
            refine r_cg B hC (i := 175) (by decide) hM_F1.1 (C := RX9) (T := TX9) (n := 35) rfl iwX9_goes_X9 19 (by decide) (index := 40) flX9_goes_40 rfl (v := .ref (ad (186))) rfl dX9_goes_76 ?_
            refine lv_iload_n B.1 B.2.1 dX9_goes_79 rfl (lv_at hl 2 rfl) ?_
            refine lv_iload_n B.1 B.2.1 dX9_goes_80 rfl (lv_at hl 3 rfl) ?_
            refine lv_iadd B.1 B.2.1 dX9_goes_81 ?_
            refine r_tI (y := nI (b + t)) (nI_add _ _) ?_
            refine lv_iload_n B.1 B.2.1 dX9_goes_82 rfl (lv_at hl 4 rfl) ?_
            refine r_cast B hC (i := 186) (by decide) hM_F1.c186 (j := (b + t)) (by omega) (by decide) dX9_goes_83 ?_
            intro H locs hC
            obtain ⟨F2, eF2⟩ : ∃ f : Nat → va_E, f = va_up F1 186 (.inl (g.2.2 0, 60, .inl (upd (q1 186) ((b + t)) (nI p)))) := ⟨_, rfl⟩
            have hC : Cu g lo 196 ad F2 ss ss.heap H locs := by rw [eF2]; exact hC
            obtain ⟨q2, eq2⟩ : ∃ f, f = va_up q1 186 (upd (q1 186) ((b + t)) (nI p)) := ⟨_, rfl⟩
            have hM_F2 : MC g ad F2 c q2 su := by rw [eq2]; exact hM_F1.arr (by decide) (by decide) (by decide) (by decide) (by decide) eF2
            have hR_F2 : HullR h c q2 := by rw [eq2]; exact hR_F1.upq (by decide)
            have hS_F2 : Same 175 196 F F2 := by rw [eF2]; exact hS_F1.up (by decide) (by decide)
            have hB2 : BankR h q2 b (bringV w t p) := by rw [eq2]; exact (hB1.bring (x := p)).cong (fun s hs => ⟨by show va_up (wh w) t p s = va_up (va_up (wh w) t 100) t p s; by_cases e : s = t; rw [e, va_up_self, va_up_self]; rw [va_up_ne _ _ e, va_up_ne _ _ e, va_up_ne _ _ e], rfl, rfl⟩)
            have hQ2 : QS b q q2 := by rw [eq2]; exact hQ1.up (by decide) (by omega)
            refine lv_aload_n B.1 B.2.1 dX9_goes_84 rfl (lv_at hl 1 rfl) ?_
            refine r_cg B hC (i := 175) (by decide) hM_F2.1 (C := RX9) (T := TX9) (n := 35) rfl iwX9_goes_X9 20 (by decide) (index := 43) flX9_goes_43 rfl (v := .ref (ad (187))) rfl dX9_goes_85 ?_
            refine lv_iload_n B.1 B.2.1 dX9_goes_88 rfl (lv_at hl 2 rfl) ?_
            refine lv_iload_n B.1 B.2.1 dX9_goes_89 rfl (lv_at hl 3 rfl) ?_
            refine lv_iadd B.1 B.2.1 dX9_goes_90 ?_
            refine r_tI (y := nI (b + t)) (nI_add _ _) ?_
            refine lv_aload_n B.1 B.2.1 dX9_goes_91 rfl (lv_at hl 1 rfl) ?_
            refine r_cg B hC (i := 175) (by decide) hM_F2.1 (C := RX9) (T := TX9) (n := 35) rfl iwX9_goes_X9 8 (by decide) (index := 25) flX9_goes_25 rfl (v := .ref (ad (181))) rfl dX9_goes_92 ?_
            refine lv_iload_n B.1 B.2.1 dX9_goes_95 rfl (lv_at hl 4 rfl) ?_
            refine r_cald B hC (i := 181) (by decide) hM_F2.c181 (j := p) (by omega) (by decide) dX9_goes_96 ?_
            refine r_tI (y := q2 181 p) rfl ?_
            refine r_tI (y := nI (hle h p)) ((hR_F2.2.2.2 p hp).1) ?_
            refine r_cast B hC (i := 187) (by decide) hM_F2.c187 (j := (b + t)) (by omega) (by decide) dX9_goes_97 ?_
            intro H locs hC
            obtain ⟨F3, eF3⟩ : ∃ f : Nat → va_E, f = va_up F2 187 (.inl (g.2.2 0, 60, .inl (upd (q2 187) ((b + t)) (nI (hle h p))))) := ⟨_, rfl⟩
            have hC : Cu g lo 196 ad F3 ss ss.heap H locs := by rw [eF3]; exact hC
            obtain ⟨q3, eq3⟩ : ∃ f, f = va_up q2 187 (upd (q2 187) ((b + t)) (nI (hle h p))) := ⟨_, rfl⟩
            have hM_F3 : MC g ad F3 c q3 su := by rw [eq3]; exact hM_F2.arr (by decide) (by decide) (by decide) (by decide) (by decide) eF3
            have hR_F3 : HullR h c q3 := by rw [eq3]; exact hR_F2.upq (by decide)
            have hS_F3 : Same 175 196 F F3 := by rw [eF3]; exact hS_F2.up (by decide) (by decide)
            have hB3 : BankR h q3 b (cutV' h w t p) := by rw [eq3]; exact hB2.cut
            have hQ3 : QS b q q3 := by rw [eq3]; exact hQ2.up (by decide) (by omega)
            refine lv_iconst (v := nI 1) B.1 B.2.1 dX9_goes_98 (by decide) ?_
            exact r_eZ B hC (v := nI 1) (rfl) (⟨_, hM_F3, hS_F3, hQ3, by rw [he, q_60]; rfl, by rw [he, q_60]; exact hB3⟩) dX9_goes_99
          · have q_60 : fitsV h (bringV w t 100) t p = false := by have z := bI_f.mp c_60; rw [show wh (bringV w t 100) t = 100 from va_up_self _ _ _, decide_eq_true rfl, Bool.true_and] at z; exact z
            refine lv_aload_n B.1 B.2.1 dX9_goes_63 rfl (lv_at hl 1 rfl) ?_
            refine r_cg B hC (i := 175) (by decide) hM_F1.1 (C := RX9) (T := TX9) (n := 35) rfl iwX9_goes_X9 19 (by decide) (index := 40) flX9_goes_40 rfl (v := .ref (ad (186))) rfl dX9_goes_64 ?_
            refine lv_iload_n B.1 B.2.1 dX9_goes_67 rfl (lv_at hl 2 rfl) ?_
            refine lv_iload_n B.1 B.2.1 dX9_goes_68 rfl (lv_at hl 3 rfl) ?_
            refine lv_iadd B.1 B.2.1 dX9_goes_69 ?_
            refine r_tI (y := nI (b + t)) (nI_add _ _) ?_
            refine lv_iload B.1 B.2.1 dX9_goes_70 (lv_at hl 0 rfl) ?_
            refine r_cast B hC (i := 186) (by decide) hM_F1.c186 (j := (b + t)) (by omega) (by decide) dX9_goes_72 ?_
            intro H locs hC
            obtain ⟨F2, eF2⟩ : ∃ f : Nat → va_E, f = va_up F1 186 (.inl (g.2.2 0, 60, .inl (upd (q1 186) ((b + t)) (nI (wh w t))))) := ⟨_, rfl⟩
            have hC : Cu g lo 196 ad F2 ss ss.heap H locs := by rw [eF2]; exact hC
            obtain ⟨q2, eq2⟩ : ∃ f, f = va_up q1 186 (upd (q1 186) ((b + t)) (nI (wh w t))) := ⟨_, rfl⟩
            have hM_F2 : MC g ad F2 c q2 su := by rw [eq2]; exact hM_F1.arr (by decide) (by decide) (by decide) (by decide) (by decide) eF2
            have hR_F2 : HullR h c q2 := by rw [eq2]; exact hR_F1.upq (by decide)
            have hS_F2 : Same 175 196 F F2 := by rw [eF2]; exact hS_F1.up (by decide) (by decide)
            have hB2 : BankR h q2 b w := by rw [eq2]; exact (hB1.bring (x := wh w t)).cong (fun s hs => ⟨by show wh w s = va_up (va_up (wh w) t 100) t (wh w t) s; by_cases e : s = t; rw [e, va_up_self]; rw [va_up_ne _ _ e, va_up_ne _ _ e], rfl, rfl⟩)
            have hQ2 : QS b q q2 := by rw [eq2]; exact hQ1.up (by decide) (by omega)
            refine lv_iconst (v := nI 0) B.1 B.2.1 dX9_goes_73 (by decide) ?_
            exact r_eZ B hC (v := nI 0) (rfl) (⟨_, hM_F2, hS_F2, hQ2, by rw [he, q_60]; rfl, by rw [he, q_60]; exact hB2⟩) dX9_goes_74
        · have q_38 := bI_f.mp c_38
          refine lv_iconst (v := nI 0) B.1 B.2.1 dX9_goes_41 (by decide) ?_
          exact r_eZ B hC (v := nI 0) (rfl) (⟨q, hM, hS, QS.rf, by rw [goes_f3 q_28 q_38]; rfl, by rw [goes_f3 q_28 q_38]; exact hB⟩) dX9_goes_42
