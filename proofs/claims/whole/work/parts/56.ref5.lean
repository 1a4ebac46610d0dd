/-! THE REFERENCE: floatsOf -/
/-- su, where a row's own 'su' hides it (a whole name bears the claim's own, which changes with the class) -/
abbrev suL (w : LV) : Bool := su w
/-- all WATCHES, one by one -/
def flR (h : HV) : Nat → Nat → LV → Nat
  | 0, _, _ => 99
  | k + 1, s, u => if hho h < waterN h u then s else flR h k (s + 1) (watchV h u)
theorem su_down1 (h : HV) (w : LV) (p : Nat) : su (down1 h w p) = su w := by
  unfold down1
  cases ti w p with
  | none => rfl
  | some t => show su (if hangV h w p = true then bringV w t 100 else w) = su w; split <;> rfl
theorem su_downTo (h : HV) (w : LV) : ∀ k, su (downTo h w k) = su w
  | 0 => rfl
  | k + 1 => (su_down1 h _ k).trans (su_downTo h w k)
theorem su_worm1 (w : LV) (p : Nat) : su (worm1 w p) = su w := by
  unfold worm1
  cases ti w p with
  | none => rfl
  | some t => show su (if 0 < wo w t then (if 10 ≤ wo (wormV w t) t then bringV (wormV w t) t 200 else wormV w t) else w) = su w; split; split <;> rfl; rfl
theorem su_wormTo (w : LV) : ∀ k, su (wormTo w k) = su w
  | 0 => rfl
  | k + 1 => (su_worm1 _ k).trans (su_wormTo w k)
theorem down1_wat (h : HV) (w : LV) (x p : Nat) : down1 h (waterV w x) p = waterV (down1 h w p) x := by
  unfold down1
  show (match ti w p with | none => waterV w x | some t => if hangV h w p = true then bringV (waterV w x) t 100 else waterV w x) = _
  cases ti w p with
  | none => rfl
  | some t => show (if hangV h w p = true then bringV (waterV w x) t 100 else waterV w x) = waterV (if hangV h w p = true then bringV w t 100 else w) x; split <;> rfl
theorem downTo_wat (h : HV) (w : LV) (x : Nat) : ∀ k, downTo h (waterV w x) k = waterV (downTo h w k) x
  | 0 => rfl
  | k + 1 => by show down1 h (downTo h (waterV w x) k) k = _; rw [downTo_wat h w x k]; exact down1_wat h _ x k
theorem worm1_wat (w : LV) (x p : Nat) : worm1 (waterV w x) p = waterV (worm1 w p) x := by
  unfold worm1
  show (match ti w p with | none => waterV w x | some t => if 0 < wo w t then (if 10 ≤ wo (wormV w t) t then bringV (wormV (waterV w x) t) t 200 else wormV (waterV w x) t) else waterV w x) = _
  cases ti w p with
  | none => rfl
  | some t => show (if 0 < wo w t then (if 10 ≤ wo (wormV w t) t then bringV (wormV (waterV w x) t) t 200 else wormV (waterV w x) t) else waterV w x) = waterV (if 0 < wo w t then (if 10 ≤ wo (wormV w t) t then bringV (wormV w t) t 200 else wormV w t) else w) x; split; split <;> rfl; rfl
theorem wormTo_wat (w : LV) (x : Nat) : ∀ k, wormTo (waterV w x) k = waterV (wormTo w k) x
  | 0 => rfl
  | k + 1 => by show worm1 (wormTo (waterV w x) k) k = _; rw [wormTo_wat w x k]; exact worm1_wat _ x k
theorem watch_ns {h : HV} {w : LV} (q : ¬ hho h < waterN h w) : watchV h w = waterV (downTo h (wormTo w (hn h)) (hn h)) (waterN h w) := by
  unfold watchV; rw [if_neg q, wormTo_wat, downTo_wat]
theorem watch_s {h : HV} {w : LV} (q : hho h < waterN h w) : watchV h w = sinkV (waterV w (waterN h w)) := by
  unfold watchV; rw [if_pos q]
/-- at rest: nothing comes down, no worms -/
theorem rest_p1 {h : HV} {w : LV} : ∀ {k p : Nat}, restTo h w k = true → p < k → rest1 h w p = true
  | k + 1, p, q, hp => by
    have q2 : (restTo h w k && rest1 h w k) = true := q
    rw [Bool.and_eq_true] at q2
    by_cases e : p = k
    · rw [e]; exact q2.2
    · exact rest_p1 q2.1 (by omega)
theorem rest_worm {h : HV} {w : LV} {n : Nat} (q : restTo h w n = true) : ∀ k, k ≤ n → wormTo w k = w
  | 0, _ => rfl
  | k + 1, hk => by
    show worm1 (wormTo w k) k = w
    rw [rest_worm q k (by omega)]
    have r := rest_p1 q (show k < n by omega)
    unfold rest1 at r
    unfold worm1
    cases hh : ti w k with
    | none => rfl
    | some t =>
      rw [hh] at r
      have r2 : (!decide (0 < wo w t) && !hangV h w k) = true := r
      simp only [Bool.and_eq_true, Bool.not_eq_true', decide_eq_false_iff_not] at r2
      show (if 0 < wo w t then _ else w) = w
      rw [if_neg r2.1]
theorem rest_down {h : HV} {w : LV} {n : Nat} (q : restTo h w n = true) : ∀ k, k ≤ n → downTo h w k = w
  | 0, _ => rfl
  | k + 1, hk => by
    show down1 h (downTo h w k) k = w
    rw [rest_down q k (by omega)]
    have r := rest_p1 q (show k < n by omega)
    unfold rest1 at r
    unfold down1
    cases hh : ti w k with
    | none => rfl
    | some t =>
      rw [hh] at r
      have r2 : (!decide (0 < wo w t) && !hangV h w k) = true := r
      simp only [Bool.and_eq_true, Bool.not_eq_true'] at r2
      show (if hangV h w k = true then _ else w) = w
      rw [r2.2]; rfl
theorem rest_watch {h : HV} {w : LV} (q : restTo h w (hn h) = true) (q2 : ¬ hho h < waterN h w) : watchV h w = waterV w (waterN h w) := by
  rw [watch_ns q2, rest_worm q _ (Nat.le_refl _), rest_down q _ (Nat.le_refl _)]
theorem rest_wat (h : HV) (w : LV) (x : Nat) : ∀ k, restTo h (waterV w x) k = restTo h w k
  | 0 => rfl
  | k + 1 => by show (restTo h (waterV w x) k && rest1 h w k) = (restTo h w k && rest1 h w k); rw [rest_wat h w x k]
theorem leakTo_wat (h : HV) (w : LV) (x : Nat) : ∀ k, leakTo h (waterV w x) k = leakTo h w k
  | 0 => rfl
  | k + 1 => by show leakTo h (waterV w x) k + _ = leakTo h w k + _; rw [leakTo_wat h w x k]; rfl
theorem leakV_wat (h : HV) (w : LV) (x : Nat) : leakV h (waterV w x) = leakV h w := leakTo_wat h w x _
theorem flR_rest {h : HV} : ∀ (k s : Nat) (w : LV), restTo h w (hn h) = true → wa w ≤ hho h → s + k = 99 → flR h k s w = min 99 (s + restN h w)
  | 0, s, w, _, _, hs => by show 99 = _; omega
  | k + 1, s, w, q, hw, hs => by
    show (if hho h < waterN h w then s else flR h k (s + 1) (watchV h w)) = _
    have hW : waterN h w = wa w + leakV h w - hpu h := rfl
    by_cases c : hho h < waterN h w
    · rw [if_pos c]
      unfold restN
      rw [if_pos (by omega), Nat.div_eq_of_lt (by omega)]
      omega
    · rw [if_neg c, rest_watch q c, flR_rest k (s + 1) _ (by rw [rest_wat]; exact q) (by show waterN h w ≤ hho h; omega) (by omega)]
      unfold restN
      rw [leakV_wat, show wa (waterV w (waterN h w)) = waterN h w from rfl]
      by_cases g : hpu h < leakV h w
      · rw [if_pos g, if_pos g]
        have e := Nat.div_eq_sub_div (show 0 < leakV h w - hpu h by omega) (show leakV h w - hpu h ≤ hho h - wa w by omega)
        rw [e, show hho h - wa w - (leakV h w - hpu h) = hho h - waterN h w by omega]
        omega
      · rw [if_neg g, if_neg g]; omega
theorem su_watch {h : HV} {w : LV} (hs : su w = false) : su (watchV h w) = true ↔ hho h < waterN h w := by
  by_cases c : hho h < waterN h w
  · rw [watch_s c]; exact ⟨fun _ => c, fun _ => rfl⟩
  · rw [watch_ns c]
    have e : su (waterV (downTo h (wormTo w (hn h)) (hn h)) (waterN h w)) = false := by
      show su (downTo h (wormTo w (hn h)) (hn h)) = false
      rw [su_downTo, su_wormTo]; exact hs
    rw [e]
    exact ⟨fun z => absurd z (by decide), fun z => absurd z c⟩
theorem flR_eq {h : HV} (ok : HOK h) : ∀ (k s : Nat) (w : LV), LOK h w → su w = false → s + k = 99 → flR h k s w = floatG h k s w
  | 0, _, _, _, _, _ => rfl
  | k + 1, s, w, hw, hs, e => by
    unfold floatG
    by_cases q : restTo h w (hn h) = true
    · rw [if_pos q, flR_rest (k + 1) s w q (hw.2.2.1 hs) e]
    · rw [if_neg q]
      show (if hho h < waterN h w then s else flR h k (s + 1) (watchV h w)) = _
      by_cases c : hho h < waterN h w
      · rw [if_pos c, if_pos ((su_watch hs).mpr c)]
      · have hsu : ¬ su (watchV h w) = true := fun z => c ((su_watch hs).mp z)
        rw [if_neg c, if_neg hsu]
        exact flR_eq ok k (s + 1) _ (LOK_watch ok hw hs) (by simpa using hsu) (by omega)
theorem floats_eq {h : HV} {w : LV} (ok : HOK h) (hw : LOK h w) : floatsV h w = if su w = true then 0 else flR h 99 0 w := by
  unfold floatsV
  split
  · rfl
  · next c => exact (flR_eq ok 99 0 w hw (by simpa using c) rfl).symm
theorem wat_i {a b c : Nat} : nI a + (nI b - nI c) = nI (a + b) - nI c := by
  rw [Int32.sub_eq_add_neg, Int32.sub_eq_add_neg, ← Int32.add_assoc, nI_add]
theorem wat_lt {a b : Nat} (ha : a < 2 ^ 30) (hb : b < 2 ^ 30) (q : ¬ 0 ≤ nI a - nI b) : nI 0 = nI (a - b) := by
  rw [Int32.le_iff_toInt_le, pk_sub_toInt ha hb, Int32.toInt_zero] at q
  rw [show a - b = 0 by omega]
theorem wat_ge {a b : Nat} (ha : a < 2 ^ 30) (hb : b < 2 ^ 30) (q : 0 ≤ nI a - nI b) : nI a - nI b = nI (a - b) := by
  rw [Int32.le_iff_toInt_le, pk_sub_toInt ha hb, Int32.toInt_zero] at q
  exact pk_sub (by omega)
theorem iwX9_floatsOf_X9 : ∀ w ∈ u_ws RX9 TX9 35, w ∈ wsX9_floatsOf := by decide +kernel
theorem flX9_floatsOf_72 : Cond.fieldLink RX9 72 RX9 (TX9 14).2.1 (TX9 14).2.2.1 ∈ wsX9_floatsOf := by decide +kernel
theorem flX9_floatsOf_117 : Cond.fieldLink RX9 117 RX9 (TX9 13).2.1 (TX9 13).2.2.1 ∈ wsX9_floatsOf := by decide +kernel
theorem flX9_floatsOf_120 : Cond.fieldLink RX9 120 RX9 (TX9 22).2.1 (TX9 22).2.2.1 ∈ wsX9_floatsOf := by decide +kernel
theorem flX9_floatsOf_123 : Cond.fieldLink RX9 123 RX9 (TX9 23).2.1 (TX9 23).2.2.1 ∈ wsX9_floatsOf := by decide +kernel
set_option maxHeartbeats 4000000 in
set_option maxRecDepth 100000 in
theorem ctX9_floatsOf (l : Launch) (g : Gx) (lo : Nat) (ad : Nat → Nat) {F : Nat → va_E} {c : Nat → Int32} {q : Nat → Nat → Int32} {su : Nat → Int64} (hM : MC g ad F c q su) {h : HV} (ok : HOK h) (hR : HullR h c q) {a b : Nat} {w : LV} (ha : a ≤ 50) (hb : b ≤ 50) (hab : a + 10 ≤ b ∨ b + 10 ≤ a) (hB : BankR h q a w) (hw : LOK h w) (hwa : c 22 = nI (wa w)) (hsk : c 23 = bI (suL w)) : MI l g lo 196 ad yX9_floatsOf wsX9_floatsOf 3 70 [.ref (ad (175)), .int (nI a), .int (nI b)] F (fun r F' => ∃ q', MC g ad F' c q' su ∧ Same 175 196 F F' ∧ QS b q q' ∧ r = nI (floatsV h w)) := by
  have okn := ok.1
  have okp := ok.2.1
  have okh := ok.2.2.1
  have hS : Same 175 196 F F := Same.rf
  refine enter (cc := cX9_floatsOf) (maxL := 5) (ret := some .int) (own := RX9) (by decide +kernel) rfl rfl (Nat.le_of_ble_eq_true rfl) ?_
  intro pp ee ss mm below meth cc B hini hC ls hl
  have hl : lv_has ls 5 [(0, .ref (ad (175))), (1, .int (nI a)), (2, .int (nI b))] := hl
  refine lv_aload_n B.1 B.2.1 dX9_floatsOf_0 rfl (lv_at hl 0 rfl) ?_
  refine r_cg B hC (i := 175) (by decide) hM.1 (C := RX9) (T := TX9) (n := 35) rfl iwX9_floatsOf_X9 23 (by decide) (index := 123) flX9_floatsOf_123 rfl (v := .int (c 23)) rfl dX9_floatsOf_1 ?_
  refine r_tI (y := bI (suL w)) (hsk) ?_
  refine lv_if_eq (tgt := 9) B.1 B.2.1 dX9_floatsOf_4 (by decide) (fun c_4 => ?_) (fun c_4 => ?_)
  · have q_4 : (suL w) = false := bI_f.mp c_4
    refine lv_aload_n B.1 B.2.1 dX9_floatsOf_9 rfl (lv_at hl 0 rfl) ?_
    refine lv_iload_n B.1 B.2.1 dX9_floatsOf_10 rfl (lv_at hl 1 rfl) ?_
    refine lv_iload_n B.1 B.2.1 dX9_floatsOf_11 rfl (lv_at hl 2 rfl) ?_
    refine r_callv B hC hl.1 (175) 9 rfl rfl (by decide) hM.1 (As := [.int (nI a), .int (nI b)]) (ctX9_copy l g lo ad hM (a := a) (b := b) ha hb hab) gX9_floatsOf_X9_copy rfl (n := 2) rfl (by decide +kernel) ⟨Nat.le_of_ble_eq_true rfl, Nat.le_of_ble_eq_true rfl⟩ ⟨Nat.zero_le _, Nat.zero_le _⟩ rfl (Nat.le_of_ble_eq_true rfl) dX9_floatsOf_12 (fun F1 H locs hp12 hC => ?_)
    obtain ⟨q1, hM_F1, hT_F1, hq12⟩ := hp12
    have hS_F1 : Same 175 196 F F1 := Same.tr2 hS hT_F1 (by decide) (by decide)
    refine lv_aload_n B.1 B.2.1 dX9_floatsOf_15 rfl (lv_at hl 0 rfl) ?_
    refine r_cg B hC (i := 175) (by decide) hM_F1.1 (C := RX9) (T := TX9) (n := 35) rfl iwX9_floatsOf_X9 22 (by decide) (index := 120) flX9_floatsOf_120 rfl (v := .int (c 22)) rfl dX9_floatsOf_16 ?_
    refine r_tI (y := nI (wa w)) (hwa) ?_
    refine lv_istore_n (lv' := [(3, .int (nI (wa w))), (0, .ref (ad (175))), (1, .int (nI a)), (2, .int (nI b))]) B.1 B.2.1 dX9_floatsOf_19 rfl hl (by decide) rfl (fun ls hl => ?_)
    refine lv_iconst (v := nI 0) B.1 B.2.1 dX9_floatsOf_20 (by decide) ?_
    refine lv_istore (lv' := [(4, .int (nI 0)), (3, .int (nI (wa w))), (0, .ref (ad (175))), (1, .int (nI a)), (2, .int (nI b))]) B.1 B.2.1 dX9_floatsOf_21 hl (by decide) rfl (fun ls hl => ?_)
    have loop23 : ∀ (k : Nat) (s x : Nat) (u : LV) (q1 : Nat → Nat → Int32) (G : Nat → va_E), (x = wa u) → (s + k = 99) → (MC g ad G c q1 su) → (Same 175 196 F G) → (QS b q q1) → (BankR h q1 b u) → (LOK h u) → (suL u = false) → (flR h k s u = flR h 99 0 w) → ∀ (H : Heap) (locs : List Loc) (ls : Array Slot), Cu g lo 196 ad G ss ss.heap H locs → lv_has ls 5 [(4, .int (nI s)), (3, .int (nI x)), (0, .ref (ad (175))), (1, .int (nI a)), (2, .int (nI b))] → W pp l ee { frames := 3, cells := 0, slots := 0, locals := 70 } ss mm ([.ref (ad (175)), .int (nI a), .int (nI b)] : List Value).toArray below meth cc H locs 0 0 (MQ below (va_Qi (fun r F' => ∃ q', MC g ad F' c q' su ∧ Same 175 196 F F' ∧ QS b q q' ∧ r = nI (floatsV h w)) (fun F' t => Wd g lo 196 ad F' t) (fun q => lo ≤ q)) ([.ref (ad (175)), .int (nI a), .int (nI b)] : List Value).toArray ss 0 0 (fun q => lo ≤ q)) (F0 mm 23 ls []) := by
      intro k
      induction k with
      | zero =>
        intro s x u q1 G hxw hsk_ hM1 hS1 hQ1 hB1 hu hus hres H locs ls hC hl
        have hl90 := leakV_le (w := u) ok
        have hwa9 := hu.2.2.1 hus
        have hWn : waterN h u = wa u + leakV h u - hpu h := rfl
        subst hxw
        refine lv_iload B.1 B.2.1 dX9_floatsOf_23 (lv_at hl 0 rfl) ?_
        refine lv_bipush (v := nI 99) B.1 B.2.1 dX9_floatsOf_25 (by decide) ?_
        refine lv_icmp_ge (tgt := 75) B.1 B.2.1 dX9_floatsOf_27 (by decide) (fun _ => ?_) (fun z => absurd (nI_le (by omega) (by omega)) z)
        refine lv_bipush (v := nI 99) B.1 B.2.1 dX9_floatsOf_75 (by decide) ?_
        exact r_eI B hC (v := nI 99) (⟨q1, hM1, hS1, hQ1, by rw [floats_eq ok hw, if_neg (by show ¬ suL w = true; rw [q_4]; decide), ← hres]; rfl⟩) dX9_floatsOf_77
      | succ k ih23 =>
        intro s x u q1 G hxw hsk_ hM1 hS1 hQ1 hB1 hu hus hres H locs ls hC hl
        have hl90 := leakV_le (w := u) ok
        have hwa9 := hu.2.2.1 hus
        have hWn : waterN h u = wa u + leakV h u - hpu h := rfl
        subst hxw
        refine lv_iload B.1 B.2.1 dX9_floatsOf_23 (lv_at hl 0 rfl) ?_
        refine lv_bipush (v := nI 99) B.1 B.2.1 dX9_floatsOf_25 (by decide) ?_
        refine lv_icmp_ge (tgt := 75) B.1 B.2.1 dX9_floatsOf_27 (by decide) (fun z => absurd z (nI_ge (by omega) (by omega))) (fun _ => ?_)
        refine lv_iload_n B.1 B.2.1 dX9_floatsOf_30 rfl (lv_at hl 1 rfl) ?_
        refine lv_aload_n B.1 B.2.1 dX9_floatsOf_31 rfl (lv_at hl 2 rfl) ?_
        refine lv_iload_n B.1 B.2.1 dX9_floatsOf_32 rfl (lv_at hl 4 rfl) ?_
        refine r_calli B hC hl.1 (175) 9 rfl rfl (by decide) hM1.1 (As := [.int (nI b)]) (ctX9_leakOf l g lo ad hM1 ok (hR.qs hQ1) hb hB1 hu) gX9_floatsOf_X9_leakOf rfl (n := 1) rfl (by decide +kernel) ⟨Nat.le_of_ble_eq_true rfl, Nat.le_of_ble_eq_true rfl⟩ ⟨Nat.zero_le _, Nat.zero_le _⟩ rfl (Nat.le_of_ble_eq_true rfl) dX9_floatsOf_33 (fun r33 F31 H locs hp33 hC => ?_)
        obtain ⟨er, eF⟩ := hp33
        subst er
        rw [eF] at hC
        refine lv_aload_n B.1 B.2.1 dX9_floatsOf_36 rfl (lv_at hl 2 rfl) ?_
        refine r_cg B hC (i := 175) (by decide) hM1.1 (C := RX9) (T := TX9) (n := 35) rfl iwX9_floatsOf_X9 13 (by decide) (index := 117) flX9_floatsOf_117 rfl (v := .int (c 13)) rfl dX9_floatsOf_37 ?_
        refine r_tI (y := nI (hpu h)) (hR.2.1) ?_
        refine lv_isub B.1 B.2.1 dX9_floatsOf_40 ?_
        refine r_tI (y := (nI (leakV h u)) - (nI (hpu h))) (rfl) ?_
        refine lv_iadd B.1 B.2.1 dX9_floatsOf_41 ?_
        refine r_tI (y := nI (wa u + leakV h u) - nI (hpu h)) (wat_i) ?_
        refine lv_istore_n (lv' := [(3, .int (nI (wa u + leakV h u) - nI (hpu h))), (4, .int (nI s)), (0, .ref (ad (175))), (1, .int (nI a)), (2, .int (nI b))]) B.1 B.2.1 dX9_floatsOf_42 rfl hl (by decide) rfl (fun ls hl => ?_)
        refine lv_iload_n B.1 B.2.1 dX9_floatsOf_43 rfl (lv_at hl 0 rfl) ?_
        refine lv_if_ge (tgt := 51) B.1 B.2.1 dX9_floatsOf_44 (by decide) (fun c_44 => ?_) (fun c_44 => ?_)
        · have q_44 := wat_ge (by omega) (by omega) c_44
          refine lv_iload_n B.1 B.2.1 dX9_floatsOf_51 rfl (lv_at hl 0 rfl) ?_
          refine r_tI (y := nI (waterN h u)) (q_44) ?_
          refine lv_istore_n (lv' := [(3, .int (nI (waterN h u))), (4, .int (nI s)), (0, .ref (ad (175))), (1, .int (nI a)), (2, .int (nI b))]) B.1 B.2.1 dX9_floatsOf_52 rfl hl (by decide) rfl (fun ls hl => ?_)
          refine lv_iload_n B.1 B.2.1 dX9_floatsOf_53 rfl (lv_at hl 0 rfl) ?_
          refine lv_aload_n B.1 B.2.1 dX9_floatsOf_54 rfl (lv_at hl 2 rfl) ?_
          refine r_cg B hC (i := 175) (by decide) hM1.1 (C := RX9) (T := TX9) (n := 35) rfl iwX9_floatsOf_X9 14 (by decide) (index := 72) flX9_floatsOf_72 rfl (v := .int (c 14)) rfl dX9_floatsOf_55 ?_
          refine r_tI (y := nI (hho h)) (hR.2.2.1) ?_
          refine lv_icmp_le (tgt := 64) B.1 B.2.1 dX9_floatsOf_58 (by decide) (fun c_58 => ?_) (fun c_58 => ?_)
          · have q_58 : waterN h u ≤ hho h := (nI_leI (by omega) (by omega)).mp c_58
            refine lv_aload_n B.1 B.2.1 dX9_floatsOf_64 rfl (lv_at hl 2 rfl) ?_
            refine lv_iload_n B.1 B.2.1 dX9_floatsOf_65 rfl (lv_at hl 4 rfl) ?_
            refine r_callv B hC hl.1 (175) 9 rfl rfl (by decide) hM1.1 (As := [.int (nI b)]) (ctX9_gnaw l g lo ad hM1 ok (hR.qs hQ1) hb hB1 hu) gX9_floatsOf_X9_gnaw rfl (n := 1) rfl (by decide +kernel) ⟨Nat.le_of_ble_eq_true rfl, Nat.le_of_ble_eq_true rfl⟩ ⟨Nat.zero_le _, Nat.zero_le _⟩ rfl (Nat.le_of_ble_eq_true rfl) dX9_floatsOf_66 (fun F31 H locs hp66 hC => ?_)
            obtain ⟨q31, hM_F31, hT_F31, hq66, hb66⟩ := hp66
            have hS_F31 : Same 175 196 F F31 := Same.tr2 hS1 hT_F31 (by decide) (by decide)
            have eW := watch_ns (Nat.not_lt.mpr q_58)
            refine lv_iinc (v := nI (s + 1)) (lv' := [(4, .int (nI (s + 1))), (3, .int (nI (waterN h u))), (0, .ref (ad (175))), (1, .int (nI a)), (2, .int (nI b))]) B.1 B.2.1 dX9_floatsOf_69 hl (k := 1) rfl (nI_1 _) (by decide) rfl (fun ls hl => ?_)
            refine lv_goto (tgt := 23) B.1 B.2.1 dX9_floatsOf_72 (by decide) ?_
            exact ih23 (s + 1) (waterN h u) (watchV h u) q31 F31 (by rw [eW]; rfl) (by omega) hM_F31 hS_F31 (hQ1.tr hq66) (by rw [eW]; exact hb66.cong (fun t ht => ⟨rfl, rfl, rfl⟩)) (LOK_watch ok hu hus) (by rw [eW]; show suL (downTo h (wormTo u (hn h)) (hn h)) = false; unfold suL; rw [su_downTo, su_wormTo]; exact hus) (by rw [← hres, flR, if_neg (Nat.not_lt.mpr q_58)]) _ _ ls hC (lv_sub hl [0, 1, 2, 3, 4] rfl)
          · have q_58 : hho h < waterN h u := by rcases Nat.lt_or_ge (hho h) (waterN h u) with z | z; exact z; exact absurd ((nI_leI (by omega) (by omega)).mpr z) c_58
            refine lv_iload B.1 B.2.1 dX9_floatsOf_61 (lv_at hl 1 rfl) ?_
            exact r_eI B hC (v := nI s) (⟨q1, hM1, hS1, hQ1, by rw [floats_eq ok hw, if_neg (by show ¬ suL w = true; rw [q_4]; decide), ← hres, flR, if_pos q_58]⟩) dX9_floatsOf_63
        · have q_44 := wat_lt (by omega) (by omega) c_44
          refine lv_iconst (v := nI 0) B.1 B.2.1 dX9_floatsOf_47 (by decide) ?_
          refine lv_goto (tgt := 52) B.1 B.2.1 dX9_floatsOf_48 (by decide) ?_
          refine r_tI (y := nI (waterN h u)) (q_44) ?_
          refine lv_istore_n (lv' := [(3, .int (nI (waterN h u))), (4, .int (nI s)), (0, .ref (ad (175))), (1, .int (nI a)), (2, .int (nI b))]) B.1 B.2.1 dX9_floatsOf_52 rfl hl (by decide) rfl (fun ls hl => ?_)
          refine lv_iload_n B.1 B.2.1 dX9_floatsOf_53 rfl (lv_at hl 0 rfl) ?_
          refine lv_aload_n B.1 B.2.1 dX9_floatsOf_54 rfl (lv_at hl 2 rfl) ?_
          refine r_cg B hC (i := 175) (by decide) hM1.1 (C := RX9) (T := TX9) (n := 35) rfl iwX9_floatsOf_X9 14 (by decide) (index := 72) flX9_floatsOf_72 rfl (v := .int (c 14)) rfl dX9_floatsOf_55 ?_
          refine r_tI (y := nI (hho h)) (hR.2.2.1) ?_
          refine lv_icmp_le (tgt := 64) B.1 B.2.1 dX9_floatsOf_58 (by decide) (fun c_58 => ?_) (fun c_58 => ?_)
          · have q_58 : waterN h u ≤ hho h := (nI_leI (by omega) (by omega)).mp c_58
            refine lv_aload_n B.1 B.2.1 dX9_floatsOf_64 rfl (lv_at hl 2 rfl) ?_
            refine lv_iload_n B.1 B.2.1 dX9_floatsOf_65 rfl (lv_at hl 4 rfl) ?_
            refine r_callv B hC hl.1 (175) 9 rfl rfl (by decide) hM1.1 (As := [.int (nI b)]) (ctX9_gnaw l g lo ad hM1 ok (hR.qs hQ1) hb hB1 hu) gX9_floatsOf_X9_gnaw rfl (n := 1) rfl (by decide +kernel) ⟨Nat.le_of_ble_eq_true rfl, Nat.le_of_ble_eq_true rfl⟩ ⟨Nat.zero_le _, Nat.zero_le _⟩ rfl (Nat.le_of_ble_eq_true rfl) dX9_floatsOf_66 (fun F31 H locs hp66 hC => ?_)
            obtain ⟨q31, hM_F31, hT_F31, hq66, hb66⟩ := hp66
            have hS_F31 : Same 175 196 F F31 := Same.tr2 hS1 hT_F31 (by decide) (by decide)
            have eW := watch_ns (Nat.not_lt.mpr q_58)
            refine lv_iinc (v := nI (s + 1)) (lv' := [(4, .int (nI (s + 1))), (3, .int (nI (waterN h u))), (0, .ref (ad (175))), (1, .int (nI a)), (2, .int (nI b))]) B.1 B.2.1 dX9_floatsOf_69 hl (k := 1) rfl (nI_1 _) (by decide) rfl (fun ls hl => ?_)
            refine lv_goto (tgt := 23) B.1 B.2.1 dX9_floatsOf_72 (by decide) ?_
            exact ih23 (s + 1) (waterN h u) (watchV h u) q31 F31 (by rw [eW]; rfl) (by omega) hM_F31 hS_F31 (hQ1.tr hq66) (by rw [eW]; exact hb66.cong (fun t ht => ⟨rfl, rfl, rfl⟩)) (LOK_watch ok hu hus) (by rw [eW]; show suL (downTo h (wormTo u (hn h)) (hn h)) = false; unfold suL; rw [su_downTo, su_wormTo]; exact hus) (by rw [← hres, flR, if_neg (Nat.not_lt.mpr q_58)]) _ _ ls hC (lv_sub hl [0, 1, 2, 3, 4] rfl)
          · have q_58 : hho h < waterN h u := by rcases Nat.lt_or_ge (hho h) (waterN h u) with z | z; exact z; exact absurd ((nI_leI (by omega) (by omega)).mpr z) c_58
            refine lv_iload B.1 B.2.1 dX9_floatsOf_61 (lv_at hl 1 rfl) ?_
            exact r_eI B hC (v := nI s) (⟨q1, hM1, hS1, hQ1, by rw [floats_eq ok hw, if_neg (by show ¬ suL w = true; rw [q_4]; decide), ← hres, flR, if_pos q_58]⟩) dX9_floatsOf_63
    exact loop23 99 0 (wa w) w q1 F1 rfl rfl hM_F1 hS_F1 hq12.1 (hq12.bank okn hB) hw q_4 rfl _ _ ls hC (lv_sub hl [0, 1, 2, 3, 4] rfl)
  · have q_4 : (suL w) = true := bI_t.mp c_4
    refine lv_iconst (v := nI 0) B.1 B.2.1 dX9_floatsOf_7 (by decide) ?_
    exact r_eI B hC (v := nI 0) (⟨q, hM, hS, QS.rf, by rw [floats_eq ok hw, if_pos q_4]⟩) dX9_floatsOf_8
