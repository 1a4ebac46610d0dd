/-! THE REFERENCE: comeDown, gnaw -/
theorem va_comm {α : Type} (f : Nat → α) {a b : Nat} (x y : α) (h : a ≠ b) : va_up (va_up f a x) b y = va_up (va_up f b y) a x := by
  funext j
  by_cases e : j = b
  · subst e; rw [va_up_self, va_up_ne _ _ h.symm, va_up_self]
  · rw [va_up_ne _ _ e]
    by_cases e2 : j = a
    · subst e2; rw [va_up_self, va_up_self]
    · rw [va_up_ne _ _ e2, va_up_ne _ _ e2, va_up_ne _ _ e]
theorem bring_100 {v : LV} {a : Nat} (ha : wh v a < 10) : bringV v a 100 = (va_up (wh v) a 100, ln v, wo v, va_up (ti v) (wh v a) none, wa v, su v) := by
  unfold bringV bringT; rw [if_pos ha, if_neg (by decide)]
theorem bring_comm {w : LV} {s t : Nat} (h : s ≠ t) (h1 : wh w s < 10) (h2 : wh w t < 10) (h3 : wh w s ≠ wh w t) : bringV (bringV w s 100) t 100 = bringV (bringV w t 100) s 100 := by
  have e : ∀ a b : Nat, a ≠ b → wh w a < 10 → wh w b < 10 → bringV (bringV w a 100) b 100 = (va_up (va_up (wh w) a 100) b 100, ln w, wo w, va_up (va_up (ti w) (wh w a) none) (wh w b) none, wa w, su w) := by
    intro a b hab ha hb
    have z2 : wh (bringV w a 100) b = wh w b := va_up_ne _ _ hab.symm
    rw [bring_100 (by rw [z2]; exact hb), z2, bring_100 ha]
    rfl
  rw [e s t h h1 h2, e t s h.symm h2 h1, va_comm _ _ _ h, va_comm (ti w) _ _ h3]
/-- what comes down stays down: the places below are gone through alike -/
theorem down_keep {h : HV} {v : LV} (ok : HOK h) (k : LOK h v) {p0 t0 j : Nat} (hj : j < p0) (hp : p0 < 10) (ht : ti v p0 = some t0) : ti (down1 h v j) p0 = some t0 := by
  have q := k.tn ok hp ht
  unfold down1
  cases hh : ti v j with
  | none => exact ht
  | some t =>
    show ti (if hangV h v j = true then bringV v t 100 else v) p0 = some t0
    split
    · rw [ti_100, if_neg (fun z => by have := (k.tn ok (by omega) hh).2.1; omega)]; exact ht
    · exact ht
theorem hang_100 {h : HV} {v : LV} {t j : Nat} (hj : ∀ r, hre h j = some r → r ≠ wh v t) : hangV h (bringV v t 100) j = hangV h v j := by
  unfold hangV
  cases hh : hre h j with
  | none => rfl
  | some r =>
    show (ti (bringV v t 100) r).isNone = (ti v r).isNone
    rw [ti_100, if_neg (fun z => hj r hh z.2)]
theorem down_comm {h : HV} {v : LV} (ok : HOK h) (k : LOK h v) {p0 t0 j : Nat} (hj : j < p0) (hp : p0 < hn h) (ht : ti v p0 = some t0) : down1 h (bringV v t0 100) j = bringV (down1 h v j) t0 100 := by
  have okn := ok.1
  have q := k.tn ok (by omega) ht
  have hti : ti (bringV v t0 100) j = ti v j := by rw [ti_100, if_neg (fun z => by omega)]
  unfold down1
  rw [hti]
  cases hh : ti v j with
  | none => rfl
  | some t =>
    have q2 := k.tn ok (by omega) hh
    show (if hangV h (bringV v t0 100) j = true then bringV (bringV v t0 100) t 100 else bringV v t0 100) = bringV (if hangV h v j = true then bringV v t 100 else v) t0 100
    rw [hang_100 (fun r hr => by have := (ok.2.2.2.2.1 j r hr).2 (by omega); omega)]
    split
    · exact bring_comm (fun e => by subst e; omega) (by omega) (by omega) (by omega)
    · rfl
theorem down_gone {h : HV} {v : LV} {j r : Nat} (hr : ti v r = none) : ti (down1 h v j) r = none := by
  unfold down1
  cases hh : ti v j with
  | none => exact hr
  | some t =>
    show ti (if hangV h v j = true then bringV v t 100 else v) r = none
    split
    · rw [ti_100]; split
      · rfl
      · exact hr
    · exact hr
theorem downTo_gone {h : HV} {v : LV} {r : Nat} (hr : ti v r = none) : ∀ k, ti (downTo h v k) r = none
  | 0 => hr
  | k + 1 => down_gone (downTo_gone hr k)
theorem downTo_keep {h : HV} {w : LV} (ok : HOK h) (k : LOK h w) {p0 t0 : Nat} (hp : p0 < 10) (ht : ti w p0 = some t0) : ∀ j, j ≤ p0 → ti (downTo h w j) p0 = some t0
  | 0, _ => ht
  | j + 1, hj => down_keep ok (LOK_downTo ok k (by omega)) (by omega) hp (downTo_keep ok k hp ht j (by omega))
theorem downTo_comm {h : HV} {w : LV} (ok : HOK h) (k : LOK h w) {p0 t0 : Nat} (hp : p0 < hn h) (ht : ti w p0 = some t0) : ∀ j, j ≤ p0 → downTo h (bringV w t0 100) j = bringV (downTo h w j) t0 100
  | 0, _ => rfl
  | j + 1, hj => by
    have okn := ok.1
    show down1 h (downTo h (bringV w t0 100) j) j = bringV (down1 h (downTo h w j) j) t0 100
    rw [downTo_comm ok k hp ht j (by omega)]
    exact down_comm ok (LOK_downTo ok k (by omega)) (by omega) hp (downTo_keep ok k (by omega) ht j (by omega))
theorem downTo_hang {h : HV} {w : LV} (ok : HOK h) (k : LOK h w) {p0 t0 : Nat} (hp : p0 < hn h) (ht : ti w p0 = some t0) (hg : hangV h w p0 = true) : ∀ d, downTo h (bringV w t0 100) (p0 + 1 + d) = downTo h w (p0 + 1 + d)
  | 0 => by
    have okn := ok.1
    show down1 h (downTo h (bringV w t0 100) p0) p0 = down1 h (downTo h w p0) p0
    have e := downTo_keep ok k (by omega) ht p0 (Nat.le_refl _)
    have q := (LOK_downTo ok k (show p0 ≤ 10 by omega)).tn ok (by omega) e
    rw [downTo_comm ok k hp ht p0 (Nat.le_refl _)]
    have hg2 : hangV h (downTo h w p0) p0 = true := by
      unfold hangV at hg ⊢
      cases hr : hre h p0 with
      | none => rw [hr] at hg; exact hg
      | some r =>
        rw [hr] at hg
        show (ti (downTo h w p0) r).isNone = true
        rw [downTo_gone (Option.isNone_iff_eq_none.mp hg)]; rfl
    have e1 : down1 h (downTo h w p0) p0 = bringV (downTo h w p0) t0 100 := by
      unfold down1; rw [e]
      show (if hangV h (downTo h w p0) p0 = true then _ else _) = _
      rw [if_pos hg2]
    rw [e1]
    unfold down1
    rw [ti_100, if_pos ⟨by omega, q.2.1.symm⟩]
  | d + 1 => by
    show down1 h (downTo h (bringV w t0 100) (p0 + 1 + d)) (p0 + 1 + d) = down1 h (downTo h w (p0 + 1 + d)) (p0 + 1 + d)
    rw [downTo_hang ok k hp ht hg d]
/-- a timber that hangs in the air -/
def hangs (h : HV) (w : LV) (t : Nat) : Bool := decide (wh w t < hn h) && hangV h w (wh w t)
theorem down_step {h : HV} {w : LV} (ok : HOK h) (k : LOK h w) {t : Nat} (ht : t < hn h) (hg : hangs h w t = true) : downTo h (bringV w t 100) (hn h) = downTo h w (hn h) := by
  have okn := ok.1
  unfold hangs at hg
  rw [Bool.and_eq_true, decide_eq_true_eq] at hg
  have q := downTo_hang ok k hg.1 (in_some ok k (by omega) ht rfl) hg.2 (hn h - (wh w t + 1))
  rwa [show wh w t + 1 + (hn h - (wh w t + 1)) = hn h by omega] at q
theorem down_fix {h : HV} {w : LV} (ok : HOK h) (k : LOK h w) (hg : ∀ t, t < hn h → hangs h w t = false) : ∀ j, j ≤ hn h → downTo h w j = w
  | 0, _ => rfl
  | j + 1, hj => by
    have okn := ok.1
    show down1 h (downTo h w j) j = w
    rw [down_fix ok k hg j (by omega)]
    unfold down1
    cases hh : ti w j with
    | none => rfl
    | some t =>
      have q := k.tn ok (by omega) hh
      have q2 := hg t (k.in_ ok (by omega) hh)
      unfold hangs at q2
      rw [q.2.1, decide_eq_true q.2.2, Bool.true_and] at q2
      show (if hangV h w j = true then bringV w t 100 else w) = w
      rw [q2]; rfl
/-- how many timbers are in a place -/
def cnpTo (w : LV) : Nat → Nat
  | 0 => 0
  | k + 1 => cnpTo w k + (if wh w k < 100 then 1 else 0)
theorem cnp_ne {w : LV} {t : Nat} : ∀ {k : Nat}, k ≤ t → cnpTo (bringV w t 100) k = cnpTo w k
  | 0, _ => rfl
  | k + 1, hk => by
    show cnpTo (bringV w t 100) k + (if va_up (wh w) t 100 k < 100 then 1 else 0) = _
    rw [cnp_ne (by omega), va_up_ne _ _ (by omega)]; rfl
theorem cnp_dec {w : LV} {t : Nat} (hw : wh w t < 100) : ∀ {k : Nat}, t < k → cnpTo (bringV w t 100) k < cnpTo w k
  | k + 1, hk => by
    show cnpTo (bringV w t 100) k + (if va_up (wh w) t 100 k < 100 then 1 else 0) < cnpTo w k + (if wh w k < 100 then 1 else 0)
    by_cases e : k = t
    · subst e
      rw [cnp_ne (Nat.le_refl _), va_up_self, if_neg (by decide), if_pos hw]; omega
    · rw [va_up_ne _ _ e]
      have := cnp_dec hw (show t < k by omega)
      omega
theorem cnp_le (w : LV) : ∀ k, cnpTo w k ≤ k
  | 0 => Nat.le_refl _
  | k + 1 => by
    have := cnp_le w k
    show cnpTo w k + (if wh w k < 100 then 1 else 0) ≤ k + 1
    split <;> omega
theorem iwX9_comeDown_X9 : ∀ w ∈ u_ws RX9 TX9 35, w ∈ wsX9_comeDown := by decide +kernel
theorem flX9_comeDown_31 : Cond.fieldLink RX9 31 RX9 (TX9 10).2.1 (TX9 10).2.2.1 ∈ wsX9_comeDown := by decide +kernel
theorem flX9_comeDown_40 : Cond.fieldLink RX9 40 RX9 (TX9 19).2.1 (TX9 19).2.2.1 ∈ wsX9_comeDown := by decide +kernel
theorem flX9_comeDown_114 : Cond.fieldLink RX9 114 RX9 (TX9 12).2.1 (TX9 12).2.2.1 ∈ wsX9_comeDown := by decide +kernel
set_option maxHeartbeats 4000000 in
set_option maxRecDepth 100000 in
theorem ctX9_comeDown (l : Launch) (g : Gx) (lo : Nat) (ad : Nat → Nat) {F : Nat → va_E} {c : Nat → Int32} {q : Nat → Nat → Int32} {su : Nat → Int64} (hM : MC g ad F c q su) {h : HV} (ok : HOK h) (hR : HullR h c q) {b : Nat} {w : LV} (hb : b ≤ 50) (hB : BankR h q b w) (hw : LOK h w) : MV l g lo 196 ad yX9_comeDown wsX9_comeDown 1 23 [.ref (ad (175)), .int (nI b)] F (fun F' => ∃ q', MC g ad F' c q' su ∧ Same 175 196 F F' ∧ QS b q q' ∧ BankR h q' b (downTo h w (hn h))) := by
  have okn := ok.1
  have okp := ok.2.1
  have okh := ok.2.2.1
  have hS : Same 175 196 F F := Same.rf
  refine enter (cc := cX9_comeDown) (maxL := 5) (ret := none) (own := RX9) (by decide +kernel) rfl rfl (Nat.le_of_ble_eq_true rfl) ?_
  intro pp ee ss mm below meth cc B hini hC ls hl
  have hl : lv_has ls 5 [(0, .ref (ad (175))), (1, .int (nI b))] := hl
  refine lv_iconst (v := nI 1) B.1 B.2.1 dX9_comeDown_0 (by decide) ?_
  refine lv_istore_n (lv' := [(2, .int (nI 1)), (0, .ref (ad (175))), (1, .int (nI b))]) B.1 B.2.1 dX9_comeDown_1 rfl hl (by decide) rfl (fun ls hl => ?_)
  have loop2 : ∀ (k : Nat) (m : Bool) (u : LV) (q1 : Nat → Nat → Int32) (G : Nat → va_E), (MC g ad G c q1 su) → (Same 175 196 F G) → (QS b q q1) → (BankR h q1 b u) → (LOK h u) → (downTo h u (hn h) = downTo h w (hn h)) → (m = false → downTo h u (hn h) = u) → (m = true → cnpTo u (hn h) < k) → ∀ (H : Heap) (locs : List Loc) (ls : Array Slot), Cu g lo 196 ad G ss ss.heap H locs → lv_has ls 5 [(2, .int (bI m)), (0, .ref (ad (175))), (1, .int (nI b))] → W pp l ee { frames := 1, cells := 0, slots := 0, locals := 23 } ss mm ([.ref (ad (175)), .int (nI b)] : List Value).toArray below meth cc H locs 0 0 (MQ below (va_Qv (fun F' => ∃ q', MC g ad F' c q' su ∧ Same 175 196 F F' ∧ QS b q q' ∧ BankR h q' b (downTo h w (hn h))) (fun F' t => Wd g lo 196 ad F' t) (fun q => lo ≤ q)) ([.ref (ad (175)), .int (nI b)] : List Value).toArray ss 0 0 (fun q => lo ≤ q)) (F0 mm 2 ls []) := by
    intro k
    induction k with
    | zero =>
      intro m u q1 G hM1 hS1 hQ1 hB1 hu hD hm hk H locs ls hC hl
      refine lv_iload_n B.1 B.2.1 dX9_comeDown_2 rfl (lv_at hl 0 rfl) ?_
      refine lv_if_eq (tgt := 85) B.1 B.2.1 dX9_comeDown_3 (by decide) (fun _ => ?_) (fun z => absurd (bI_f.mpr (by cases m with | false => rfl | true => exact absurd (hk rfl) (Nat.not_lt_zero _))) z)
      exact r_eV B hC (⟨q1, hM1, hS1, hQ1, by rw [← hD, hm (by cases m with | false => rfl | true => exact absurd (hk rfl) (Nat.not_lt_zero _))]; exact hB1⟩) dX9_comeDown_85
    | succ k ih2 =>
      intro m u q1 G hM1 hS1 hQ1 hB1 hu hD hm hk H locs ls hC hl
      refine lv_iload_n B.1 B.2.1 dX9_comeDown_2 rfl (lv_at hl 0 rfl) ?_
      refine lv_if_eq (tgt := 85) B.1 B.2.1 dX9_comeDown_3 (by decide) (fun c_3 => ?_) (fun c_3 => ?_)
      · have q_3 : m = false := bI_f.mp c_3
        exact r_eV B hC (⟨q1, hM1, hS1, hQ1, by rw [← hD, hm (q_3)]; exact hB1⟩) dX9_comeDown_85
      · have q_3 : m = true := bI_t.mp c_3
        refine lv_iconst (v := nI 0) B.1 B.2.1 dX9_comeDown_6 (by decide) ?_
        refine lv_istore_n (lv' := [(2, .int (nI 0)), (0, .ref (ad (175))), (1, .int (nI b))]) B.1 B.2.1 dX9_comeDown_7 rfl hl (by decide) rfl (fun ls hl => ?_)
        refine lv_iconst (v := nI 0) B.1 B.2.1 dX9_comeDown_8 (by decide) ?_
        refine lv_istore_n (lv' := [(3, .int (nI 0)), (2, .int (nI 0)), (0, .ref (ad (175))), (1, .int (nI b))]) B.1 B.2.1 dX9_comeDown_9 rfl hl (by decide) rfl (fun ls hl => ?_)
        have loop10 : ∀ (k2 : Nat) (t : Nat) (m2 : Bool) (u2 : LV) (q2 : Nat → Nat → Int32) (G2 : Nat → va_E), (t + k2 = hn h) → (MC g ad G2 c q2 su) → (Same 175 196 F G2) → (QS b q q2) → (BankR h q2 b u2) → (LOK h u2) → (downTo h u2 (hn h) = downTo h w (hn h)) → (m2 = false → u2 = u ∧ ∀ s, s < t → hangs h u s = false) → (m2 = true → cnpTo u2 (hn h) < cnpTo u (hn h)) → ∀ (H : Heap) (locs : List Loc) (ls : Array Slot), Cu g lo 196 ad G2 ss ss.heap H locs → lv_has ls 5 [(3, .int (nI t)), (2, .int (bI m2)), (0, .ref (ad (175))), (1, .int (nI b))] → W pp l ee { frames := 1, cells := 0, slots := 0, locals := 23 } ss mm ([.ref (ad (175)), .int (nI b)] : List Value).toArray below meth cc H locs 0 0 (MQ below (va_Qv (fun F' => ∃ q', MC g ad F' c q' su ∧ Same 175 196 F F' ∧ QS b q q' ∧ BankR h q' b (downTo h w (hn h))) (fun F' t => Wd g lo 196 ad F' t) (fun q => lo ≤ q)) ([.ref (ad (175)), .int (nI b)] : List Value).toArray ss 0 0 (fun q => lo ≤ q)) (F0 mm 10 ls []) := by
          intro k2
          induction k2 with
          | zero =>
            intro t m2 u2 q2 G2 htk hM2 hS2 hQ2 hB2 hu2 hD2 hm2 hk2 H locs ls hC hl
            have w3 := (hu2.1 t).1
            refine lv_iload_n B.1 B.2.1 dX9_comeDown_10 rfl (lv_at hl 0 rfl) ?_
            refine lv_aload_n B.1 B.2.1 dX9_comeDown_11 rfl (lv_at hl 2 rfl) ?_
            refine r_cg B hC (i := 175) (by decide) hM2.1 (C := RX9) (T := TX9) (n := 35) rfl iwX9_comeDown_X9 12 (by decide) (index := 114) flX9_comeDown_114 rfl (v := .int (c 12)) rfl dX9_comeDown_12 ?_
            refine r_tI (y := nI (hn h)) (hR.1) ?_
            refine lv_icmp_ge (tgt := 82) B.1 B.2.1 dX9_comeDown_15 (by decide) (fun _ => ?_) (fun z => absurd (nI_le (by omega) (by omega)) z)
            refine lv_goto (tgt := 2) B.1 B.2.1 dX9_comeDown_82 (by decide) ?_
            exact ih2 m2 u2 q2 G2 hM2 hS2 hQ2 hB2 hu2 hD2 (fun z => down_fix ok hu2 (fun s hs => by rw [(hm2 z).1]; exact (hm2 z).2 s (by omega)) _ (Nat.le_refl _)) (fun z => by have := hk2 z; have := hk q_3; omega) _ _ ls hC (lv_sub hl [1, 2, 3] rfl)
          | succ k2 ih10 =>
            intro t m2 u2 q2 G2 htk hM2 hS2 hQ2 hB2 hu2 hD2 hm2 hk2 H locs ls hC hl
            have w3 := (hu2.1 t).1
            refine lv_iload_n B.1 B.2.1 dX9_comeDown_10 rfl (lv_at hl 0 rfl) ?_
            refine lv_aload_n B.1 B.2.1 dX9_comeDown_11 rfl (lv_at hl 2 rfl) ?_
            refine r_cg B hC (i := 175) (by decide) hM2.1 (C := RX9) (T := TX9) (n := 35) rfl iwX9_comeDown_X9 12 (by decide) (index := 114) flX9_comeDown_114 rfl (v := .int (c 12)) rfl dX9_comeDown_12 ?_
            refine r_tI (y := nI (hn h)) (hR.1) ?_
            refine lv_icmp_ge (tgt := 82) B.1 B.2.1 dX9_comeDown_15 (by decide) (fun z => absurd z (nI_ge (by omega) (by omega))) (fun _ => ?_)
            refine lv_aload_n B.1 B.2.1 dX9_comeDown_18 rfl (lv_at hl 2 rfl) ?_
            refine r_cg B hC (i := 175) (by decide) hM2.1 (C := RX9) (T := TX9) (n := 35) rfl iwX9_comeDown_X9 19 (by decide) (index := 40) flX9_comeDown_40 rfl (v := .ref (ad (186))) rfl dX9_comeDown_19 ?_
            refine lv_iload_n B.1 B.2.1 dX9_comeDown_22 rfl (lv_at hl 3 rfl) ?_
            refine lv_iload_n B.1 B.2.1 dX9_comeDown_23 rfl (lv_at hl 0 rfl) ?_
            refine lv_iadd B.1 B.2.1 dX9_comeDown_24 ?_
            refine r_tI (y := nI (b + t)) (nI_add _ _) ?_
            refine r_cald B hC (i := 186) (by decide) hM2.c186 (j := (b + t)) (by omega) (by decide) dX9_comeDown_25 ?_
            refine r_tI (y := q2 186 (b + t)) rfl ?_
            refine r_tI (y := nI (wh u2 t)) ((hB2 t (by omega)).1) ?_
            refine lv_istore (lv' := [(4, .int (nI (wh u2 t))), (3, .int (nI t)), (2, .int (bI m2)), (0, .ref (ad (175))), (1, .int (nI b))]) B.1 B.2.1 dX9_comeDown_26 hl (by decide) rfl (fun ls hl => ?_)
            refine lv_iload B.1 B.2.1 dX9_comeDown_28 (lv_at hl 0 rfl) ?_
            refine lv_bipush (v := nI 100) B.1 B.2.1 dX9_comeDown_30 (by decide) ?_
            refine lv_icmp_ge (tgt := 76) B.1 B.2.1 dX9_comeDown_32 (by decide) (fun c_32 => ?_) (fun c_32 => ?_)
            · have q_32 : 100 ≤ wh u2 t := (nI_leI (by decide) (by omega)).mp c_32
              have hh : hangs h u2 t = false := by rw [hangs, decide_eq_false (by omega)]; rfl
              refine lv_iinc (v := nI (t + 1)) (lv' := [(3, .int (nI (t + 1))), (4, .int (nI (wh u2 t))), (2, .int (bI m2)), (0, .ref (ad (175))), (1, .int (nI b))]) B.1 B.2.1 dX9_comeDown_76 hl (k := 1) rfl (nI_1 _) (by decide) rfl (fun ls hl => ?_)
              refine lv_goto (tgt := 10) B.1 B.2.1 dX9_comeDown_79 (by decide) ?_
              exact ih10 (t + 1) m2 u2 q2 G2 (by omega) hM2 hS2 hQ2 hB2 hu2 hD2 (fun z => ⟨(hm2 z).1, fun s hs => by rcases Nat.lt_succ_iff_lt_or_eq.mp hs with y | y; exact (hm2 z).2 s y; rw [y, ← (hm2 z).1]; exact hh⟩) hk2 _ _ ls hC (lv_sub hl [0, 2, 3, 4] rfl)
            · have q_32 : ¬ 100 ≤ wh u2 t := fun z => c_32 ((nI_leI (by decide) (by omega)).mpr z)
              have h5 := hu2.2.2.2.2.1 t (by omega)
              have hpn : wh u2 t < hn h := by omega
              refine lv_aload_n B.1 B.2.1 dX9_comeDown_35 rfl (lv_at hl 3 rfl) ?_
              refine r_cg B hC (i := 175) (by decide) hM2.1 (C := RX9) (T := TX9) (n := 35) rfl iwX9_comeDown_X9 10 (by decide) (index := 31) flX9_comeDown_31 rfl (v := .ref (ad (183))) rfl dX9_comeDown_36 ?_
              refine lv_iload B.1 B.2.1 dX9_comeDown_39 (lv_at hl 0 rfl) ?_
              refine r_cald B hC (i := 183) (by decide) hM2.c183 (j := (wh u2 t)) (by omega) (by decide) dX9_comeDown_41 ?_
              refine r_tI (y := q2 183 (wh u2 t)) rfl ?_
              refine r_tI (y := oI (hre h (wh u2 t))) (((hR.qs hQ2).2.2.2 _ hpn).2.2.1) ?_
              refine lv_bipush (v := (-9)) B.1 B.2.1 dX9_comeDown_42 (by decide) ?_
              refine lv_icmp_eq (tgt := 76) B.1 B.2.1 dX9_comeDown_44 (by decide) (fun c_44 => ?_) (fun c_44 => ?_)
              · have q_44 : hre h (wh u2 t) = none := (oI_9 (fun j hj => Nat.lt_trans (ok.2.2.2.2.1 _ j hj).1 (by decide))).mp c_44
                have hh : hangs h u2 t = false := by rw [hangs, hangV, q_44]; simp
                refine lv_iinc (v := nI (t + 1)) (lv' := [(3, .int (nI (t + 1))), (4, .int (nI (wh u2 t))), (2, .int (bI m2)), (0, .ref (ad (175))), (1, .int (nI b))]) B.1 B.2.1 dX9_comeDown_76 hl (k := 1) rfl (nI_1 _) (by decide) rfl (fun ls hl => ?_)
                refine lv_goto (tgt := 10) B.1 B.2.1 dX9_comeDown_79 (by decide) ?_
                exact ih10 (t + 1) m2 u2 q2 G2 (by omega) hM2 hS2 hQ2 hB2 hu2 hD2 (fun z => ⟨(hm2 z).1, fun s hs => by rcases Nat.lt_succ_iff_lt_or_eq.mp hs with y | y; exact (hm2 z).2 s y; rw [y, ← (hm2 z).1]; exact hh⟩) hk2 _ _ ls hC (lv_sub hl [0, 2, 3, 4] rfl)
              · have q_44 : ¬ hre h (wh u2 t) = none := fun z => c_44 ((oI_9 (fun j hj => Nat.lt_trans (ok.2.2.2.2.1 _ j hj).1 (by decide))).mpr z)
                obtain ⟨r, hr⟩ := Option.ne_none_iff_exists'.mp q_44
                have hr10 := (ok.2.2.2.2.1 _ r hr).1
                refine lv_aload_n B.1 B.2.1 dX9_comeDown_47 rfl (lv_at hl 3 rfl) ?_
                refine lv_iload_n B.1 B.2.1 dX9_comeDown_48 rfl (lv_at hl 4 rfl) ?_
                refine lv_aload_n B.1 B.2.1 dX9_comeDown_49 rfl (lv_at hl 3 rfl) ?_
                refine r_cg B hC (i := 175) (by decide) hM2.1 (C := RX9) (T := TX9) (n := 35) rfl iwX9_comeDown_X9 10 (by decide) (index := 31) flX9_comeDown_31 rfl (v := .ref (ad (183))) rfl dX9_comeDown_50 ?_
                refine lv_iload B.1 B.2.1 dX9_comeDown_53 (lv_at hl 0 rfl) ?_
                refine r_cald B hC (i := 183) (by decide) hM2.c183 (j := (wh u2 t)) (by omega) (by decide) dX9_comeDown_55 ?_
                refine r_tI (y := q2 183 (wh u2 t)) rfl ?_
                refine r_tI (y := nI r) (by rw [((hR.qs hQ2).2.2.2 _ hpn).2.2.1, hr]; rfl) ?_
                refine r_calli B hC hl.1 (175) 9 rfl rfl (by decide) hM2.1 (As := [.int (nI b), .int (nI r)]) (ctX9_inside l g lo ad hM2 ok (hR.qs hQ2) hb hB2 hu2 (p := r) (by omega)) gX9_comeDown_X9_inside rfl (n := 2) rfl (by decide +kernel) ⟨Nat.le_of_ble_eq_true rfl, Nat.le_of_ble_eq_true rfl⟩ ⟨Nat.zero_le _, Nat.zero_le _⟩ rfl (Nat.le_of_ble_eq_true rfl) dX9_comeDown_56 (fun r56 F61 H locs hp56 hC => ?_)
                obtain ⟨er, eF⟩ := hp56
                subst er
                rw [eF] at hC
                refine lv_bipush (v := (-9)) B.1 B.2.1 dX9_comeDown_59 (by decide) ?_
                refine lv_icmp_ne (tgt := 76) B.1 B.2.1 dX9_comeDown_61 (by decide) (fun c_61 => ?_) (fun c_61 => ?_)
                · have q_61 : ¬ ti u2 r = none := fun z => c_61 ((oI_9 (fun j hj => Nat.lt_trans (hu2.t10 (by omega) j hj) (by decide))).mpr z)
                  have hh : hangs h u2 t = false := by rw [hangs, hangV, hr]; cases hh2 : ti u2 r <;> simp_all
                  refine lv_iinc (v := nI (t + 1)) (lv' := [(3, .int (nI (t + 1))), (4, .int (nI (wh u2 t))), (2, .int (bI m2)), (0, .ref (ad (175))), (1, .int (nI b))]) B.1 B.2.1 dX9_comeDown_76 hl (k := 1) rfl (nI_1 _) (by decide) rfl (fun ls hl => ?_)
                  refine lv_goto (tgt := 10) B.1 B.2.1 dX9_comeDown_79 (by decide) ?_
                  exact ih10 (t + 1) m2 u2 q2 G2 (by omega) hM2 hS2 hQ2 hB2 hu2 hD2 (fun z => ⟨(hm2 z).1, fun s hs => by rcases Nat.lt_succ_iff_lt_or_eq.mp hs with y | y; exact (hm2 z).2 s y; rw [y, ← (hm2 z).1]; exact hh⟩) hk2 _ _ ls hC (lv_sub hl [0, 2, 3, 4] rfl)
                · have q_61 : ti u2 r = none := (oI_9 (fun j hj => Nat.lt_trans (hu2.t10 (by omega) j hj) (by decide))).mp c_61
                  have hh : hangs h u2 t = true := by rw [hangs, hangV, hr, decide_eq_true hpn]; simp [q_61]
                  refine lv_aload_n B.1 B.2.1 dX9_comeDown_64 rfl (lv_at hl 3 rfl) ?_
                  refine r_cg B hC (i := 175) (by decide) hM2.1 (C := RX9) (T := TX9) (n := 35) rfl iwX9_comeDown_X9 19 (by decide) (index := 40) flX9_comeDown_40 rfl (v := .ref (ad (186))) rfl dX9_comeDown_65 ?_
                  refine lv_iload_n B.1 B.2.1 dX9_comeDown_68 rfl (lv_at hl 4 rfl) ?_
                  refine lv_iload_n B.1 B.2.1 dX9_comeDown_69 rfl (lv_at hl 1 rfl) ?_
                  refine lv_iadd B.1 B.2.1 dX9_comeDown_70 ?_
                  refine r_tI (y := nI (b + t)) (nI_add _ _) ?_
                  refine lv_bipush (v := nI 100) B.1 B.2.1 dX9_comeDown_71 (by decide) ?_
                  refine r_cast B hC (i := 186) (by decide) hM2.c186 (j := (b + t)) (by omega) (by decide) dX9_comeDown_73 ?_
                  intro H locs hC
                  obtain ⟨F61, eF61⟩ : ∃ f : Nat → va_E, f = va_up G2 186 (.inl (g.2.2 0, 60, .inl (upd (q2 186) ((b + t)) (nI 100)))) := ⟨_, rfl⟩
                  have hC : Cu g lo 196 ad F61 ss ss.heap H locs := by rw [eF61]; exact hC
                  obtain ⟨q61, eq61⟩ : ∃ f, f = va_up q2 186 (upd (q2 186) ((b + t)) (nI 100)) := ⟨_, rfl⟩
                  have hM_F61 : MC g ad F61 c q61 su := by rw [eq61]; exact hM2.arr (by decide) (by decide) (by decide) (by decide) (by decide) eF61
                  have hR_F61 : HullR h c q61 := by rw [eq61]; exact (hR.qs hQ2).upq (by decide)
                  have hS_F61 : Same 175 196 F F61 := by rw [eF61]; exact hS2.up (by decide) (by decide)
                  have hB3 : BankR h q61 b (bringV u2 t 100) := by rw [eq61]; exact hB2.bring
                  have hQ3 : QS b q q61 := by rw [eq61]; exact hQ2.up (by decide) (by omega)
                  have hu3 : LOK h (bringV u2 t 100) := LOK_bring ok hu2 (by omega) (Or.inr ⟨hu2.2.2.2.2.2.2.1 t (by omega) (by omega), Or.inl rfl⟩)
                  refine lv_iconst (v := nI 1) B.1 B.2.1 dX9_comeDown_74 (by decide) ?_
                  refine lv_istore_n (lv' := [(2, .int (nI 1)), (4, .int (nI (wh u2 t))), (3, .int (nI t)), (0, .ref (ad (175))), (1, .int (nI b))]) B.1 B.2.1 dX9_comeDown_75 rfl hl (by decide) rfl (fun ls hl => ?_)
                  refine lv_iinc (v := nI (t + 1)) (lv' := [(3, .int (nI (t + 1))), (2, .int (nI 1)), (4, .int (nI (wh u2 t))), (0, .ref (ad (175))), (1, .int (nI b))]) B.1 B.2.1 dX9_comeDown_76 hl (k := 2) rfl (nI_1 _) (by decide) rfl (fun ls hl => ?_)
                  refine lv_goto (tgt := 10) B.1 B.2.1 dX9_comeDown_79 (by decide) ?_
                  exact ih10 (t + 1) true (bringV u2 t 100) q61 F61 (by omega) hM_F61 hS_F61 hQ3 hB3 hu3 ((down_step ok hu2 (by omega) hh).trans hD2) (fun z => by cases z) (fun _ => by have z1 := cnp_dec (w := u2) (t := t) (by omega) (show t < hn h by omega); cases m2 with | false => rw [(hm2 rfl).1] at z1 ⊢; exact z1 | true => exact Nat.lt_trans z1 (hk2 rfl)) _ _ ls hC (lv_sub hl [0, 1, 3, 4] rfl)
        exact loop10 (hn h) 0 false u q1 G (by omega) hM1 hS1 hQ1 hB1 hu hD (fun _ => ⟨rfl, fun s hs => absurd hs (Nat.not_lt_zero s)⟩) (fun z => by cases z) _ _ ls hC (lv_sub hl [0, 1, 2, 3] rfl)
  exact loop2 (hn h + 1) true w q F hM hS QS.rf hB hw rfl (fun z => by cases z) (fun _ => Nat.lt_succ_of_le (cnp_le _ _)) _ _ ls hC (lv_sub hl [0, 1, 2] rfl)
