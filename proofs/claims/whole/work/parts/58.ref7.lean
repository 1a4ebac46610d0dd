/-! THE REFERENCE: BEST, PORT -/
theorem mayM_over {h : HV} {w : LV} (ok : HOK h) (hw : LOK h w) {m : Nat} (h1 : 10 * hn h ≤ m) (h2 : m < 100) : mayM h w m = false := goes_f1 ok (hw.2.2.2.2.2.1 (m / 10) (by omega) (by omega))
theorem fits_wide {h : HV} {w : LV} {t p : Nat} (hp : hn h ≤ p) : fitsV h w t p = false := by
  unfold fitsV; rw [decide_eq_false (by omega)]; rfl
theorem mayM_wide {h : HV} {w : LV} {m : Nat} (h1 : hn h ≤ m % 10) : mayM h w m = false := by
  unfold mayM mayV
  rw [fits_wide h1]
  split
  · rfl
  · simp
theorem L1_over {h : HV} {w : LV} (ok : HOK h) (hw : LOK h w) : ∀ (d m : Nat), d + m = 100 → 10 * hn h ≤ m → L1 h w m = []
  | 0, m, e, _ => L1_end (by omega)
  | d + 1, m, e, hm => by
    rw [L1_no (by omega) (mayM_over ok hw hm (by omega))]
    exact L1_over ok hw d (m + 1) (by omega) (by omega)
theorem L1_stop {h : HV} {w : LV} (ok : HOK h) (hw : LOK h w) {m : Nat} (hm : 10 * hn h ≤ m) : L1 h w m = [] := by
  rcases Nat.lt_or_ge m 100 with z | z
  · exact L1_over ok hw (100 - m) m (by omega) hm
  · exact L1_end z
theorem L2_stop {h : HV} {w : LV} (ok : HOK h) (hw : LOK h w) {m : Nat} (hm : 10 * hn h ≤ m) : L2 h w m = [] := L2_nil (L1_stop ok hw hm)
theorem L2_no {h : HV} {w : LV} {m : Nat} (hm : m < 100) (q : mayM h w m = false) : L2 h w m = L2 h w (m + 1) := by unfold L2; rw [L1_no hm q]
theorem L2_yes {h : HV} {w : LV} {m : Nat} (hm : m < 100) (q : mayM h w m = true) : L2 h w m = (L1 h (stepV h w m) 0).map (fun z => [m, z]) ++ L2 h w (m + 1) := L2_cons (L1_yes hm q)
theorem bestF_app (h : HV) (w : LV) : ∀ (a b : List (List Nat)) (s : Nat × List Nat), bestF h w (a ++ b) s = bestF h w b (bestF h w a s)
  | [], _, _ => rfl
  | e :: a, b, s => bestF_app h w a b (best1 h w s e)
def FndR (c : Nat → Int32) (q : Nat → Nat → Int32) (s : Nat × List Nat) : Prop := c 29 = nI s.1 ∧ c 28 = nI s.2.length ∧ s.2.length ≤ 2 ∧ (∀ j, j < s.2.length → q 190 j = oI (s.2[j]?)) ∧ s.1 ≤ 90
theorem FndR.qs {b : Nat} {c : Nat → Int32} {q q' : Nat → Nat → Int32} {s : Nat × List Nat} (r : FndR c q s) (k : QS b q q') : FndR c q' s := ⟨r.1, r.2.1, r.2.2.1, fun j hj => by rw [(k 190).1 (by decide)]; exact r.2.2.2.1 j hj, r.2.2.2.2⟩
theorem Fnd1 {c : Nat → Int32} {q q' : Nat → Nat → Int32} {s m : Nat} (h1 : c 29 = nI s) (h2 : c 28 = nI 1) (h3 : q' = va_up q 190 (upd (q 190) 0 (nI m))) (h4 : s ≤ 90) : FndR c q' (s, [m]) := ⟨h1, h2, Nat.le_of_ble_eq_true rfl, fun j hj => by
  have : j = 0 := by simpa using hj
  subst this
  rw [h3, va_up_self]; rfl, h4⟩
theorem Fnd2 {c : Nat → Int32} {q q1 q2 : Nat → Nat → Int32} {s m o : Nat} (h1 : c 29 = nI s) (h2 : c 28 = nI 2) (h3 : q1 = va_up q 190 (upd (q 190) 0 (nI m))) (h5 : q2 = va_up q1 190 (upd (q1 190) 1 (nI o))) (h4 : s ≤ 90) : FndR c q2 (s, [m, o]) := ⟨h1, h2, Nat.le_of_ble_eq_true rfl, fun j hj => by
  have : j = 0 ∨ j = 1 := by have h6 : j < 2 := hj; omega
  rcases this with rfl | rfl
  · rw [h5, va_up_self, h3, va_up_self]; rfl
  · rw [h5, va_up_self]; rfl, h4⟩
theorem b1_no {h : HV} {w : LV} {s : Nat × List Nat} {e : List Nat} (q : s.1 ≤ leakV h (endV h w e)) : best1 h w s e = s := if_neg (by omega)
theorem b1_yes {h : HV} {w : LV} {s : Nat × List Nat} {e : List Nat} (q : leakV h (endV h w e) < s.1) : best1 h w s e = (leakV h (endV h w e), e) := if_pos q
theorem map_c {α β : Type} {f : α → β} {a : α} {l l' : List α} (e : l = a :: l') : l.map f = f a :: l'.map f := by rw [e]; rfl
theorem iwX9_laySecond_X9 : ∀ w ∈ u_ws RX9 TX9 35, w ∈ wsX9_laySecond := by decide +kernel
theorem flX9_laySecond_52 : Cond.fieldLink RX9 52 RX9 (TX9 27).2.1 (TX9 27).2.2.1 ∈ wsX9_laySecond := by decide +kernel
theorem flX9_laySecond_114 : Cond.fieldLink RX9 114 RX9 (TX9 12).2.1 (TX9 12).2.2.1 ∈ wsX9_laySecond := by decide +kernel
theorem flX9_laySecond_178 : Cond.fieldLink RX9 178 RX9 (TX9 28).2.1 (TX9 28).2.2.1 ∈ wsX9_laySecond := by decide +kernel
theorem flX9_laySecond_181 : Cond.fieldLink RX9 181 RX9 (TX9 29).2.1 (TX9 29).2.2.1 ∈ wsX9_laySecond := by decide +kernel
set_option maxHeartbeats 4000000 in
set_option maxRecDepth 100000 in
theorem ctX9_laySecond (l : Launch) (g : Gx) (lo : Nat) (ad : Nat → Nat) {F : Nat → va_E} {c : Nat → Int32} {q : Nat → Nat → Int32} {sm : Nat → Int64} (hM : MC g ad F c q sm) {h : HV} {w : LV} (ok : HOK h) (hR : HullR h c q) {m : Nat} (hm : m < 100) (hB : BankR h q 10 (stepV h w m)) (hu : LOK h (stepV h w m)) {st : Nat × List Nat} (hF0 : FndR c q st) : MV l g lo 196 ad yX9_laySecond wsX9_laySecond 4 93 [.ref (ad (175)), .int (nI m)] F (fun F' => ∃ c' q', MC g ad F' c' q' sm ∧ Same 175 196 F F' ∧ Scr c c' q q' ∧ FndR c' q' (bestF h w ((L1 h (stepV h w m) 0).map (fun z => [m, z])) st)) := by
  have okn := ok.1
  have okp := ok.2.1
  have okh := ok.2.2.1
  have hS : Same 175 196 F F := Same.rf
  refine enter (cc := cX9_laySecond) (maxL := 3) (ret := none) (own := RX9) (by decide +kernel) rfl rfl (Nat.le_of_ble_eq_true rfl) ?_
  intro pp ee ss mm below meth cc B hini hC ls hl
  have hl : lv_has ls 3 [(0, .ref (ad (175))), (1, .int (nI m))] := hl
  refine lv_iconst (v := nI 0) B.1 B.2.1 dX9_laySecond_0 (by decide) ?_
  refine lv_istore_n (lv' := [(2, .int (nI 0)), (0, .ref (ad (175))), (1, .int (nI m))]) B.1 B.2.1 dX9_laySecond_1 rfl hl (by decide) rfl (fun ls hl => ?_)
  have loop2 : ∀ (k : Nat) (o s1 : Nat) (sl : List Nat) (c1 : Nat → Int32) (q1 : Nat → Nat → Int32) (G : Nat → va_E), (o + k = 10 * hn h) → (MC g ad G c1 q1 sm) → (Same 175 196 F G) → (Scr c c1 q q1) → (BankR h q1 10 (stepV h w m)) → (FndR c1 q1 (s1, sl)) → (bestF h w ((L1 h (stepV h w m) o).map (fun z => [m, z])) (s1, sl) = bestF h w ((L1 h (stepV h w m) 0).map (fun z => [m, z])) st) → ∀ (H : Heap) (locs : List Loc) (ls : Array Slot), Cu g lo 196 ad G ss ss.heap H locs → lv_has ls 3 [(2, .int (nI o)), (0, .ref (ad (175))), (1, .int (nI m))] → W pp l ee { frames := 4, cells := 0, slots := 0, locals := 93 } ss mm ([.ref (ad (175)), .int (nI m)] : List Value).toArray below meth cc H locs 0 0 (MQ below (va_Qv (fun F' => ∃ c' q', MC g ad F' c' q' sm ∧ Same 175 196 F F' ∧ Scr c c' q q' ∧ FndR c' q' (bestF h w ((L1 h (stepV h w m) 0).map (fun z => [m, z])) st)) (fun F' t => Wd g lo 196 ad F' t) (fun q => lo ≤ q)) ([.ref (ad (175)), .int (nI m)] : List Value).toArray ss 0 0 (fun q => lo ≤ q)) (F0 mm 2 ls []) := by
    intro k
    induction k with
    | zero =>
      intro o s1 sl c1 q1 G hok hM1 hS1 hSc hB1 hF1 hres H locs ls hC hl
      have hs90 := hF1.2.2.2.2
      refine lv_iload_n B.1 B.2.1 dX9_laySecond_2 rfl (lv_at hl 0 rfl) ?_
      refine lv_bipush (v := nI 10) B.1 B.2.1 dX9_laySecond_3 (by decide) ?_
      refine lv_aload_n B.1 B.2.1 dX9_laySecond_5 rfl (lv_at hl 1 rfl) ?_
      refine r_cg B hC (i := 175) (by decide) hM1.1 (C := RX9) (T := TX9) (n := 35) rfl iwX9_laySecond_X9 12 (by decide) (index := 114) flX9_laySecond_114 rfl (v := .int (c1 12)) rfl dX9_laySecond_6 ?_
      refine r_tI (y := nI (hn h)) ((hR.scr hSc).1) ?_
      refine lv_imul B.1 B.2.1 dX9_laySecond_9 ?_
      refine r_tI (y := nI (10 * (hn h))) (pk_mul _ _) ?_
      refine lv_icmp_ge (tgt := 97) B.1 B.2.1 dX9_laySecond_10 (by decide) (fun _ => ?_) (fun z => absurd (nI_le (by omega) (by omega)) z)
      exact r_eV B hC (⟨c1, q1, hM1, hS1, hSc, by rw [L1_stop ok hu (by omega)] at hres; rw [← hres]; exact hF1⟩) dX9_laySecond_97
    | succ k ih2 =>
      intro o s1 sl c1 q1 G hok hM1 hS1 hSc hB1 hF1 hres H locs ls hC hl
      have hs90 := hF1.2.2.2.2
      refine lv_iload_n B.1 B.2.1 dX9_laySecond_2 rfl (lv_at hl 0 rfl) ?_
      refine lv_bipush (v := nI 10) B.1 B.2.1 dX9_laySecond_3 (by decide) ?_
      refine lv_aload_n B.1 B.2.1 dX9_laySecond_5 rfl (lv_at hl 1 rfl) ?_
      refine r_cg B hC (i := 175) (by decide) hM1.1 (C := RX9) (T := TX9) (n := 35) rfl iwX9_laySecond_X9 12 (by decide) (index := 114) flX9_laySecond_114 rfl (v := .int (c1 12)) rfl dX9_laySecond_6 ?_
      refine r_tI (y := nI (hn h)) ((hR.scr hSc).1) ?_
      refine lv_imul B.1 B.2.1 dX9_laySecond_9 ?_
      refine r_tI (y := nI (10 * (hn h))) (pk_mul _ _) ?_
      refine lv_icmp_ge (tgt := 97) B.1 B.2.1 dX9_laySecond_10 (by decide) (fun z => absurd z (nI_ge (by omega) (by omega))) (fun _ => ?_)
      refine lv_aload_n B.1 B.2.1 dX9_laySecond_13 rfl (lv_at hl 1 rfl) ?_
      refine lv_bipush (v := nI 10) B.1 B.2.1 dX9_laySecond_14 (by decide) ?_
      refine lv_bipush (v := nI 20) B.1 B.2.1 dX9_laySecond_16 (by decide) ?_
      refine r_callv B hC hl.1 (175) 9 rfl rfl (by decide) hM1.1 (As := [.int (nI 10), .int (nI 20)]) (ctX9_copy l g lo ad hM1 (a := 10) (b := 20) (by decide) (by decide) (Or.inl (by decide))) gX9_laySecond_X9_copy rfl (n := 2) rfl (by decide +kernel) ⟨Nat.le_of_ble_eq_true rfl, Nat.le_of_ble_eq_true rfl⟩ ⟨Nat.zero_le _, Nat.zero_le _⟩ rfl (Nat.le_of_ble_eq_true rfl) dX9_laySecond_18 (fun F31 H locs hp18 hC => ?_)
      obtain ⟨q31, hM_F31, hT_F31, hq18⟩ := hp18
      have hS_F31 : Same 175 196 F F31 := Same.tr2 hS1 hT_F31 (by decide) (by decide)
      have hB20 := hq18.bank okn hB1
      refine lv_iload_n B.1 B.2.1 dX9_laySecond_21 rfl (lv_at hl 0 rfl) ?_
      refine lv_bipush (v := nI 10) B.1 B.2.1 dX9_laySecond_22 (by decide) ?_
      refine lv_irem B.1 B.2.1 dX9_laySecond_24 (by decide) ?_
      refine r_tI (y := nI (o % 10)) (pk_rem (by omega) (by omega) (by omega)) ?_
      refine lv_aload_n B.1 B.2.1 dX9_laySecond_25 rfl (lv_at hl 1 rfl) ?_
      refine r_cg B hC (i := 175) (by decide) hM_F31.1 (C := RX9) (T := TX9) (n := 35) rfl iwX9_laySecond_X9 12 (by decide) (index := 114) flX9_laySecond_114 rfl (v := .int (c1 12)) rfl dX9_laySecond_26 ?_
      refine r_tI (y := nI (hn h)) ((hR.scr hSc).1) ?_
      refine lv_icmp_ge (tgt := 91) B.1 B.2.1 dX9_laySecond_29 (by decide) (fun c_29 => ?_) (fun c_29 => ?_)
      · have q_29 : (hn h) ≤ (o % 10) := (nI_leI (by omega) (by omega)).mp c_29
        refine lv_iinc (v := nI (o + 1)) (lv' := [(2, .int (nI (o + 1))), (0, .ref (ad (175))), (1, .int (nI m))]) B.1 B.2.1 dX9_laySecond_91 hl (k := 0) rfl (nI_1 _) (by decide) rfl (fun ls hl => ?_)
        refine lv_goto (tgt := 2) B.1 B.2.1 dX9_laySecond_94 (by decide) ?_
        exact ih2 (o + 1) s1 sl c1 q31 F31 (by omega) hM_F31 hS_F31 (hSc.qs hq18.1 (by decide)) (hB1.qs hq18.1 okn (Or.inl (by decide))) (hF1.qs hq18.1) (by rw [← L1_no (by omega) (mayM_wide q_29)]; exact hres) _ _ ls hC (lv_sub hl [0, 1, 2] rfl)
      · have q_29 : ¬ (hn h) ≤ (o % 10) := fun z => c_29 ((nI_leI (by omega) (by omega)).mpr z)
        refine lv_aload_n B.1 B.2.1 dX9_laySecond_32 rfl (lv_at hl 1 rfl) ?_
        refine lv_bipush (v := nI 20) B.1 B.2.1 dX9_laySecond_33 (by decide) ?_
        refine lv_iload_n B.1 B.2.1 dX9_laySecond_35 rfl (lv_at hl 0 rfl) ?_
        refine lv_bipush (v := nI 10) B.1 B.2.1 dX9_laySecond_36 (by decide) ?_
        refine lv_idiv B.1 B.2.1 dX9_laySecond_38 (by decide) ?_
        refine r_tI (y := nI (o / 10)) (pk_div (by omega) (by omega) (by omega)) ?_
        refine lv_iload_n B.1 B.2.1 dX9_laySecond_39 rfl (lv_at hl 0 rfl) ?_
        refine lv_bipush (v := nI 10) B.1 B.2.1 dX9_laySecond_40 (by decide) ?_
        refine lv_irem B.1 B.2.1 dX9_laySecond_42 (by decide) ?_
        refine r_tI (y := nI (o % 10)) (pk_rem (by omega) (by omega) (by omega)) ?_
        refine r_calli B hC hl.1 (175) 9 rfl rfl (by decide) hM_F31.1 (As := [.int (nI 20), .int (nI (o / 10)), .int (nI (o % 10))]) (ctX9_goes l g lo ad hM_F31 ok ((hR.scr hSc).qs (hq18.1)) (b := 20) (by decide) hB20 hu (t := o / 10) (p := o % 10) (by omega) (by omega)) gX9_laySecond_X9_goes rfl (n := 3) rfl (by decide +kernel) ⟨Nat.le_of_ble_eq_true rfl, Nat.le_of_ble_eq_true rfl⟩ ⟨Nat.zero_le _, Nat.zero_le _⟩ rfl (Nat.le_of_ble_eq_true rfl) dX9_laySecond_43 (fun r43 F32 H locs hp43 hC => ?_)
        obtain ⟨q32, hM_F32, hT_F32, hq43, hr43, hbk43⟩ := hp43
        have hS_F32 : Same 175 196 F F32 := Same.tr2 hS_F31 hT_F32 (by decide) (by decide)
        refine r_tI (y := bI (mayM h (stepV h w m) o)) (hr43) ?_
        refine lv_if_eq (tgt := 91) B.1 B.2.1 dX9_laySecond_46 (by decide) (fun c_46 => ?_) (fun c_46 => ?_)
        · have q_46 : mayM h (stepV h w m) o = false := bI_f.mp c_46
          refine lv_iinc (v := nI (o + 1)) (lv' := [(2, .int (nI (o + 1))), (0, .ref (ad (175))), (1, .int (nI m))]) B.1 B.2.1 dX9_laySecond_91 hl (k := 0) rfl (nI_1 _) (by decide) rfl (fun ls hl => ?_)
          refine lv_goto (tgt := 2) B.1 B.2.1 dX9_laySecond_94 (by decide) ?_
          exact ih2 (o + 1) s1 sl c1 q32 F32 (by omega) hM_F32 hS_F32 ((hSc.qs hq18.1 (by decide)).qs hq43 (by decide)) ((hB1.qs hq18.1 okn (Or.inl (by decide))).qs hq43 okn (Or.inl (by decide))) ((hF1.qs hq18.1).qs hq43) (by rw [← L1_no (by omega) q_46]; exact hres) _ _ ls hC (lv_sub hl [0, 1, 2] rfl)
        · have q_46 : mayM h (stepV h w m) o = true := bI_t.mp c_46
          have hb1 : BankR h q32 20 (stepV h (stepV h w m) o) := by have z := hbk43; rw [show mayV h (stepV h w m) (o / 10) (o % 10) = true from q_46, if_pos rfl] at z; exact z
          have hu1 : LOK h (stepV h (stepV h w m) o) := LOK_step ok hu (by omega) q_46
          have hl1 := leakV_le (w := stepV h (stepV h w m) o) ok
          refine lv_aload_n B.1 B.2.1 dX9_laySecond_49 rfl (lv_at hl 1 rfl) ?_
          refine lv_bipush (v := nI 20) B.1 B.2.1 dX9_laySecond_50 (by decide) ?_
          refine r_calli B hC hl.1 (175) 9 rfl rfl (by decide) hM_F32.1 (As := [.int (nI 20)]) (ctX9_leakOf l g lo ad hM_F32 ok (((hR.scr hSc).qs (hq18.1)).qs (hq43)) (b := 20) (by decide) hb1 hu1) gX9_laySecond_X9_leakOf rfl (n := 1) rfl (by decide +kernel) ⟨Nat.le_of_ble_eq_true rfl, Nat.le_of_ble_eq_true rfl⟩ ⟨Nat.zero_le _, Nat.zero_le _⟩ rfl (Nat.le_of_ble_eq_true rfl) dX9_laySecond_52 (fun r52 F33 H locs hp52 hC => ?_)
          obtain ⟨er, eF⟩ := hp52
          subst er
          rw [eF] at hC
          refine lv_aload_n B.1 B.2.1 dX9_laySecond_55 rfl (lv_at hl 1 rfl) ?_
          refine r_cg B hC (i := 175) (by decide) hM_F32.1 (C := RX9) (T := TX9) (n := 35) rfl iwX9_laySecond_X9 29 (by decide) (index := 181) flX9_laySecond_181 rfl (v := .int (c1 29)) rfl dX9_laySecond_56 ?_
          refine r_tI (y := nI s1) (hF1.1) ?_
          refine lv_icmp_ge (tgt := 91) B.1 B.2.1 dX9_laySecond_59 (by decide) (fun c_59 => ?_) (fun c_59 => ?_)
          · have q_59 : s1 ≤ (leakV h (stepV h (stepV h w m) o)) := (nI_leI (by omega) (by omega)).mp c_59
            refine lv_iinc (v := nI (o + 1)) (lv' := [(2, .int (nI (o + 1))), (0, .ref (ad (175))), (1, .int (nI m))]) B.1 B.2.1 dX9_laySecond_91 hl (k := 0) rfl (nI_1 _) (by decide) rfl (fun ls hl => ?_)
            refine lv_goto (tgt := 2) B.1 B.2.1 dX9_laySecond_94 (by decide) ?_
            exact ih2 (o + 1) s1 sl c1 q32 F32 (by omega) hM_F32 hS_F32 ((hSc.qs hq18.1 (by decide)).qs hq43 (by decide)) ((hB1.qs hq18.1 okn (Or.inl (by decide))).qs hq43 okn (Or.inl (by decide))) ((hF1.qs hq18.1).qs hq43) (by rw [map_c (L1_yes (by omega) q_46), bestF, b1_no (s := (s1, sl)) (e := [m, o]) q_59] at hres; exact hres) _ _ ls hC (lv_sub hl [0, 1, 2] rfl)
          · have q_59 : ¬ s1 ≤ (leakV h (stepV h (stepV h w m) o)) := fun z => c_59 ((nI_leI (by omega) (by omega)).mpr z)
            refine lv_aload_n B.1 B.2.1 dX9_laySecond_62 rfl (lv_at hl 1 rfl) ?_
            refine lv_aload_n B.1 B.2.1 dX9_laySecond_63 rfl (lv_at hl 1 rfl) ?_
            refine lv_bipush (v := nI 20) B.1 B.2.1 dX9_laySecond_64 (by decide) ?_
            refine r_calli B hC hl.1 (175) 9 rfl rfl (by decide) hM_F32.1 (As := [.int (nI 20)]) (ctX9_leakOf l g lo ad hM_F32 ok (((hR.scr hSc).qs (hq18.1)).qs (hq43)) (b := 20) (by decide) hb1 hu1) gX9_laySecond_X9_leakOf rfl (n := 1) rfl (by decide +kernel) ⟨Nat.le_of_ble_eq_true rfl, Nat.le_of_ble_eq_true rfl⟩ ⟨Nat.zero_le _, Nat.zero_le _⟩ rfl (Nat.le_of_ble_eq_true rfl) dX9_laySecond_66 (fun r66 F33 H locs hp66 hC => ?_)
            obtain ⟨er, eF⟩ := hp66
            subst er
            rw [eF] at hC
            obtain ⟨c33, ec33⟩ : ∃ f, f = va_up c1 29 (nI (leakV h (stepV h (stepV h w m) o))) := ⟨_, rfl⟩
            refine r_cp B hC (i := 175) (by decide) hM_F32.1 tyX9 tyX9_ok nmX9 (C := RX9) (T := TX9) rfl iwX9_laySecond_X9 29 (by decide) (index := 181) flX9_laySecond_181 rfl rfl (v := .int (nI (leakV h (stepV h (stepV h w m) o)))) (rfl) (rfl) (Nat.le_of_ble_eq_true rfl) dX9_laySecond_69 ?_
            intro H locs hC
            obtain ⟨F33, eF33⟩ : ∃ f, f = va_up F32 175 (mObj ad c33) := ⟨_, rfl⟩
            have hC : Cu g lo 196 ad F33 ss ss.heap H locs := by rw [eF33, ec33]; exact hC
            have hM_F33 : MC g ad F33 c33 q32 sm := hM_F32.fld eF33
            have cv12_F33 : c33 12 = nI (hn h) := by rw [ec33, va_up_ne _ _ (by decide)]; exact (hR.scr hSc).1
            have cv28_F33 : c33 28 = nI sl.length := by rw [ec33, va_up_ne _ _ (by decide)]; exact hF1.2.1
            have cv29_F33 : c33 29 = nI (leakV h (stepV h (stepV h w m) o)) := by rw [ec33, va_up_self]
            have hR_F33 : HullR h c33 q32 := by rw [ec33]; exact (((hR.scr hSc).qs (hq18.1)).qs (hq43)).upc (by decide) (by decide) (by decide)
            have hS_F33 : Same 175 196 F F33 := by rw [eF33]; exact hS_F32.up (by decide) (by decide)
            refine lv_aload_n B.1 B.2.1 dX9_laySecond_72 rfl (lv_at hl 1 rfl) ?_
            refine lv_iconst (v := nI 2) B.1 B.2.1 dX9_laySecond_73 (by decide) ?_
            obtain ⟨c34, ec34⟩ : ∃ f, f = va_up c33 28 (nI 2) := ⟨_, rfl⟩
            refine r_cp B hC (i := 175) (by decide) hM_F33.1 tyX9 tyX9_ok nmX9 (C := RX9) (T := TX9) rfl iwX9_laySecond_X9 28 (by decide) (index := 178) flX9_laySecond_178 rfl rfl (v := .int (nI 2)) (rfl) (rfl) (Nat.le_of_ble_eq_true rfl) dX9_laySecond_74 ?_
            intro H locs hC
            obtain ⟨F34, eF34⟩ : ∃ f, f = va_up F33 175 (mObj ad c34) := ⟨_, rfl⟩
            have hC : Cu g lo 196 ad F34 ss ss.heap H locs := by rw [eF34, ec34]; exact hC
            have hM_F34 : MC g ad F34 c34 q32 sm := hM_F33.fld eF34
            have cv12_F34 : c34 12 = nI (hn h) := by rw [ec34, va_up_ne _ _ (by decide)]; exact cv12_F33
            have cv29_F34 : c34 29 = nI (leakV h (stepV h (stepV h w m) o)) := by rw [ec34, va_up_ne _ _ (by decide)]; exact cv29_F33
            have cv28_F34 : c34 28 = nI 2 := by rw [ec34, va_up_self]
            have hR_F34 : HullR h c34 q32 := by rw [ec34]; exact hR_F33.upc (by decide) (by decide) (by decide)
            have hS_F34 : Same 175 196 F F34 := by rw [eF34]; exact hS_F33.up (by decide) (by decide)
            refine lv_aload_n B.1 B.2.1 dX9_laySecond_77 rfl (lv_at hl 1 rfl) ?_
            refine r_cg B hC (i := 175) (by decide) hM_F34.1 (C := RX9) (T := TX9) (n := 35) rfl iwX9_laySecond_X9 27 (by decide) (index := 52) flX9_laySecond_52 rfl (v := .ref (ad (190))) rfl dX9_laySecond_78 ?_
            refine lv_iconst (v := nI 0) B.1 B.2.1 dX9_laySecond_81 (by decide) ?_
            refine lv_iload_n B.1 B.2.1 dX9_laySecond_82 rfl (lv_at hl 2 rfl) ?_
            refine r_cast B hC (i := 190) (by decide) hM_F34.c190 (j := 0) (by omega) (by decide) dX9_laySecond_83 ?_
            intro H locs hC
            obtain ⟨F35, eF35⟩ : ∃ f : Nat → va_E, f = va_up F34 190 (.inl (g.2.2 0, 3, .inl (upd (q32 190) (0) (nI m)))) := ⟨_, rfl⟩
            have hC : Cu g lo 196 ad F35 ss ss.heap H locs := by rw [eF35]; exact hC
            obtain ⟨q35, eq35⟩ : ∃ f, f = va_up q32 190 (upd (q32 190) (0) (nI m)) := ⟨_, rfl⟩
            have hM_F35 : MC g ad F35 c34 q35 sm := by rw [eq35]; exact hM_F34.arr (by decide) (by decide) (by decide) (by decide) (by decide) eF35
            have hR_F35 : HullR h c34 q35 := by rw [eq35]; exact hR_F34.upq (by decide)
            have hS_F35 : Same 175 196 F F35 := by rw [eF35]; exact hS_F34.up (by decide) (by decide)
            refine lv_aload_n B.1 B.2.1 dX9_laySecond_84 rfl (lv_at hl 1 rfl) ?_
            refine r_cg B hC (i := 175) (by decide) hM_F35.1 (C := RX9) (T := TX9) (n := 35) rfl iwX9_laySecond_X9 27 (by decide) (index := 52) flX9_laySecond_52 rfl (v := .ref (ad (190))) rfl dX9_laySecond_85 ?_
            refine lv_iconst (v := nI 1) B.1 B.2.1 dX9_laySecond_88 (by decide) ?_
            refine lv_iload_n B.1 B.2.1 dX9_laySecond_89 rfl (lv_at hl 0 rfl) ?_
            refine r_cast B hC (i := 190) (by decide) hM_F35.c190 (j := 1) (by omega) (by decide) dX9_laySecond_90 ?_
            intro H locs hC
            obtain ⟨F36, eF36⟩ : ∃ f : Nat → va_E, f = va_up F35 190 (.inl (g.2.2 0, 3, .inl (upd (q35 190) (1) (nI o)))) := ⟨_, rfl⟩
            have hC : Cu g lo 196 ad F36 ss ss.heap H locs := by rw [eF36]; exact hC
            obtain ⟨q36, eq36⟩ : ∃ f, f = va_up q35 190 (upd (q35 190) (1) (nI o)) := ⟨_, rfl⟩
            have hM_F36 : MC g ad F36 c34 q36 sm := by rw [eq36]; exact hM_F35.arr (by decide) (by decide) (by decide) (by decide) (by decide) eF36
            have hR_F36 : HullR h c34 q36 := by rw [eq36]; exact hR_F35.upq (by decide)
            have hS_F36 : Same 175 196 F F36 := by rw [eF36]; exact hS_F35.up (by decide) (by decide)
            refine lv_iinc (v := nI (o + 1)) (lv' := [(2, .int (nI (o + 1))), (0, .ref (ad (175))), (1, .int (nI m))]) B.1 B.2.1 dX9_laySecond_91 hl (k := 0) rfl (nI_1 _) (by decide) rfl (fun ls hl => ?_)
            refine lv_goto (tgt := 2) B.1 B.2.1 dX9_laySecond_94 (by decide) ?_
            exact ih2 (o + 1) (leakV h (stepV h (stepV h w m) o)) [m, o] c34 q36 F36 (by omega) hM_F36 hS_F36 ((((((hSc.qs hq18.1 (by decide)).qs hq43 (by decide)).uc ec33 (by decide)).uc ec34 (by decide)).uf eq35 (by decide)).uf eq36 (by decide)) (by rw [eq36, eq35]; exact fun t ht => ((hB1.qs hq18.1 okn (Or.inl (by decide))).qs hq43 okn (Or.inl (by decide))) t ht) (Fnd2 cv29_F34 cv28_F34 eq35 eq36 hl1) (by rw [map_c (L1_yes (by omega) q_46), bestF, b1_yes (s := (s1, sl)) (e := [m, o]) (Nat.not_le.mp q_59)] at hres; exact hres) _ _ ls hC (lv_sub hl [0, 1, 2] rfl)
  exact loop2 (10 * hn h) 0 st.1 st.2 c q F (by omega) hM hS Scr.rf hB hF0 rfl _ _ ls hC (lv_sub hl [0, 1, 2] rfl)
theorem iwX9_layBest_X9 : ∀ w ∈ u_ws RX9 TX9 35, w ∈ wsX9_layBest := by decide +kernel
theorem flX9_layBest_52 : Cond.fieldLink RX9 52 RX9 (TX9 27).2.1 (TX9 27).2.2.1 ∈ wsX9_layBest := by decide +kernel
theorem flX9_layBest_114 : Cond.fieldLink RX9 114 RX9 (TX9 12).2.1 (TX9 12).2.2.1 ∈ wsX9_layBest := by decide +kernel
theorem flX9_layBest_178 : Cond.fieldLink RX9 178 RX9 (TX9 28).2.1 (TX9 28).2.2.1 ∈ wsX9_layBest := by decide +kernel
theorem flX9_layBest_181 : Cond.fieldLink RX9 181 RX9 (TX9 29).2.1 (TX9 29).2.2.1 ∈ wsX9_layBest := by decide +kernel
set_option maxHeartbeats 4000000 in
set_option maxRecDepth 100000 in
theorem ctX9_layBest (l : Launch) (g : Gx) (lo : Nat) (ad : Nat → Nat) {F : Nat → va_E} {c : Nat → Int32} {q : Nat → Nat → Int32} {sm : Nat → Int64} (hM : MC g ad F c q sm) {h : HV} {w : LV} (ok : HOK h) (hR : HullR h c q) {kk : Nat} (hkk : kk ≤ 2) (hB : BankR h q 0 w) (hw : LOK h w) : MV l g lo 196 ad yX9_layBest wsX9_layBest 5 115 [.ref (ad (175)), .int (nI kk)] F (fun F' => ∃ c' q', MC g ad F' c' q' sm ∧ Same 175 196 F F' ∧ Scr c c' q q' ∧ FndR c' q' (bestV h w kk)) := by
  have okn := ok.1
  have okp := ok.2.1
  have okh := ok.2.2.1
  have hS : Same 175 196 F F := Same.rf
  refine enter (cc := cX9_layBest) (maxL := 3) (ret := none) (own := RX9) (by decide +kernel) rfl rfl (Nat.le_of_ble_eq_true rfl) ?_
  intro pp ee ss mm below meth cc B hini hC ls hl
  have hl : lv_has ls 3 [(0, .ref (ad (175))), (1, .int (nI kk))] := hl
  refine lv_aload_n B.1 B.2.1 dX9_layBest_0 rfl (lv_at hl 0 rfl) ?_
  refine lv_iconst (v := nI 0) B.1 B.2.1 dX9_layBest_1 (by decide) ?_
  obtain ⟨c1, ec1⟩ : ∃ f, f = va_up c 28 (nI 0) := ⟨_, rfl⟩
  refine r_cp B hC (i := 175) (by decide) hM.1 tyX9 tyX9_ok nmX9 (C := RX9) (T := TX9) rfl iwX9_layBest_X9 28 (by decide) (index := 178) flX9_layBest_178 rfl rfl (v := .int (nI 0)) (rfl) (rfl) (Nat.le_of_ble_eq_true rfl) dX9_layBest_2 ?_
  intro H locs hC
  obtain ⟨F1, eF1⟩ : ∃ f, f = va_up F 175 (mObj ad c1) := ⟨_, rfl⟩
  have hC : Cu g lo 196 ad F1 ss ss.heap H locs := by rw [eF1, ec1]; exact hC
  have hM_F1 : MC g ad F1 c1 q sm := hM.fld eF1
  have cv12_F1 : c1 12 = nI (hn h) := by rw [ec1, va_up_ne _ _ (by decide)]; exact hR.1
  have cv28_F1 : c1 28 = nI 0 := by rw [ec1, va_up_self]
  have hR_F1 : HullR h c1 q := by rw [ec1]; exact hR.upc (by decide) (by decide) (by decide)
  have hS_F1 : Same 175 196 F F1 := by rw [eF1]; exact hS.up (by decide) (by decide)
  have hB0 : BankR h q 0 w := hB
  refine lv_aload_n B.1 B.2.1 dX9_layBest_5 rfl (lv_at hl 0 rfl) ?_
  refine lv_aload_n B.1 B.2.1 dX9_layBest_6 rfl (lv_at hl 0 rfl) ?_
  refine lv_iconst (v := nI 0) B.1 B.2.1 dX9_layBest_7 (by decide) ?_
  refine r_calli B hC hl.1 (175) 9 rfl rfl (by decide) hM_F1.1 (As := [.int (nI 0)]) (ctX9_leakOf l g lo ad hM_F1 ok hR_F1 (b := 0) (by decide) hB0 hw) gX9_layBest_X9_leakOf rfl (n := 1) rfl (by decide +kernel) ⟨Nat.le_of_ble_eq_true rfl, Nat.le_of_ble_eq_true rfl⟩ ⟨Nat.zero_le _, Nat.zero_le _⟩ rfl (Nat.le_of_ble_eq_true rfl) dX9_layBest_8 (fun r8 F2 H locs hp8 hC => ?_)
  obtain ⟨er, eF⟩ := hp8
  subst er
  rw [eF] at hC
  obtain ⟨c2, ec2⟩ : ∃ f, f = va_up c1 29 (nI (leakV h w)) := ⟨_, rfl⟩
  refine r_cp B hC (i := 175) (by decide) hM_F1.1 tyX9 tyX9_ok nmX9 (C := RX9) (T := TX9) rfl iwX9_layBest_X9 29 (by decide) (index := 181) flX9_layBest_181 rfl rfl (v := .int (nI (leakV h w))) (rfl) (rfl) (Nat.le_of_ble_eq_true rfl) dX9_layBest_11 ?_
  intro H locs hC
  obtain ⟨F2, eF2⟩ : ∃ f, f = va_up F1 175 (mObj ad c2) := ⟨_, rfl⟩
  have hC : Cu g lo 196 ad F2 ss ss.heap H locs := by rw [eF2, ec2]; exact hC
  have hM_F2 : MC g ad F2 c2 q sm := hM_F1.fld eF2
  have cv12_F2 : c2 12 = nI (hn h) := by rw [ec2, va_up_ne _ _ (by decide)]; exact cv12_F1
  have cv28_F2 : c2 28 = nI 0 := by rw [ec2, va_up_ne _ _ (by decide)]; exact cv28_F1
  have cv29_F2 : c2 29 = nI (leakV h w) := by rw [ec2, va_up_self]
  have hR_F2 : HullR h c2 q := by rw [ec2]; exact hR_F1.upc (by decide) (by decide) (by decide)
  have hS_F2 : Same 175 196 F F2 := by rw [eF2]; exact hS_F1.up (by decide) (by decide)
  refine lv_iconst (v := nI 0) B.1 B.2.1 dX9_layBest_14 (by decide) ?_
  refine lv_istore_n (lv' := [(2, .int (nI 0)), (0, .ref (ad (175))), (1, .int (nI kk))]) B.1 B.2.1 dX9_layBest_15 rfl hl (by decide) rfl (fun ls hl => ?_)
  have loop16 : ∀ (k : Nat) (m s1 : Nat) (sl : List Nat) (c1 : Nat → Int32) (q1 : Nat → Nat → Int32) (G : Nat → va_E), (m + k = 10 * hn h) → (MC g ad G c1 q1 sm) → (Same 175 196 F G) → (Scr c c1 q q1) → (FndR c1 q1 (s1, sl)) → (if 0 < kk then bestF h w ((L1 h w m).map (fun z => [z])) (s1, sl) = bestV h w 1 else (s1, sl) = bestV h w 0) → ∀ (H : Heap) (locs : List Loc) (ls : Array Slot), Cu g lo 196 ad G ss ss.heap H locs → lv_has ls 3 [(2, .int (nI m)), (0, .ref (ad (175))), (1, .int (nI kk))] → W pp l ee { frames := 5, cells := 0, slots := 0, locals := 115 } ss mm ([.ref (ad (175)), .int (nI kk)] : List Value).toArray below meth cc H locs 0 0 (MQ below (va_Qv (fun F' => ∃ c' q', MC g ad F' c' q' sm ∧ Same 175 196 F F' ∧ Scr c c' q q' ∧ FndR c' q' (bestV h w kk)) (fun F' t => Wd g lo 196 ad F' t) (fun q => lo ≤ q)) ([.ref (ad (175)), .int (nI kk)] : List Value).toArray ss 0 0 (fun q => lo ≤ q)) (F0 mm 16 ls []) := by
    intro k
    induction k with
    | zero =>
      intro m s1 sl c1 q1 G hmk hM1 hS1 hSc hF1 hres H locs ls hC hl
      have hs90 := hF1.2.2.2.2
      have hB1 : BankR h q1 0 w := hB.scr hSc okn
      refine lv_iload_n B.1 B.2.1 dX9_layBest_16 rfl (lv_at hl 0 rfl) ?_
      refine lv_bipush (v := nI 10) B.1 B.2.1 dX9_layBest_17 (by decide) ?_
      refine lv_aload_n B.1 B.2.1 dX9_layBest_19 rfl (lv_at hl 1 rfl) ?_
      refine r_cg B hC (i := 175) (by decide) hM1.1 (C := RX9) (T := TX9) (n := 35) rfl iwX9_layBest_X9 12 (by decide) (index := 114) flX9_layBest_114 rfl (v := .int (c1 12)) rfl dX9_layBest_20 ?_
      refine r_tI (y := nI (hn h)) ((hR.scr hSc).1) ?_
      refine lv_imul B.1 B.2.1 dX9_layBest_23 ?_
      refine r_tI (y := nI (10 * (hn h))) (pk_mul _ _) ?_
      refine lv_icmp_ge (tgt := 107) B.1 B.2.1 dX9_layBest_24 (by decide) (fun _ => ?_) (fun z => absurd (nI_le (by omega) (by omega)) z)
      refine lv_iconst (v := nI 0) B.1 B.2.1 dX9_layBest_107 (by decide) ?_
      refine lv_istore_n (lv' := [(2, .int (nI 0)), (0, .ref (ad (175))), (1, .int (nI kk))]) B.1 B.2.1 dX9_layBest_108 rfl hl (by decide) rfl (fun ls hl => ?_)
      have loop109 : ∀ (k : Nat) (m s1 : Nat) (sl : List Nat) (c1 : Nat → Int32) (q1 : Nat → Nat → Int32) (G : Nat → va_E), (m + k = 10 * hn h) → (MC g ad G c1 q1 sm) → (Same 175 196 F G) → (Scr c c1 q q1) → (FndR c1 q1 (s1, sl)) → (if 1 < kk then bestF h w (L2 h w m) (s1, sl) = bestV h w kk else (s1, sl) = bestV h w kk) → ∀ (H : Heap) (locs : List Loc) (ls : Array Slot), Cu g lo 196 ad G ss ss.heap H locs → lv_has ls 3 [(2, .int (nI m)), (0, .ref (ad (175))), (1, .int (nI kk))] → W pp l ee { frames := 5, cells := 0, slots := 0, locals := 115 } ss mm ([.ref (ad (175)), .int (nI kk)] : List Value).toArray below meth cc H locs 0 0 (MQ below (va_Qv (fun F' => ∃ c' q', MC g ad F' c' q' sm ∧ Same 175 196 F F' ∧ Scr c c' q q' ∧ FndR c' q' (bestV h w kk)) (fun F' t => Wd g lo 196 ad F' t) (fun q => lo ≤ q)) ([.ref (ad (175)), .int (nI kk)] : List Value).toArray ss 0 0 (fun q => lo ≤ q)) (F0 mm 109 ls []) := by
        intro k
        induction k with
        | zero =>
          intro m s1 sl c1 q1 G hmk hM1 hS1 hSc hF1 hres H locs ls hC hl
          have hB1 : BankR h q1 0 w := hB.scr hSc okn
          refine lv_iload_n B.1 B.2.1 dX9_layBest_109 rfl (lv_at hl 0 rfl) ?_
          refine lv_bipush (v := nI 10) B.1 B.2.1 dX9_layBest_110 (by decide) ?_
          refine lv_aload_n B.1 B.2.1 dX9_layBest_112 rfl (lv_at hl 1 rfl) ?_
          refine r_cg B hC (i := 175) (by decide) hM1.1 (C := RX9) (T := TX9) (n := 35) rfl iwX9_layBest_X9 12 (by decide) (index := 114) flX9_layBest_114 rfl (v := .int (c1 12)) rfl dX9_layBest_113 ?_
          refine r_tI (y := nI (hn h)) ((hR.scr hSc).1) ?_
          refine lv_imul B.1 B.2.1 dX9_layBest_116 ?_
          refine r_tI (y := nI (10 * (hn h))) (pk_mul _ _) ?_
          refine lv_icmp_ge (tgt := 171) B.1 B.2.1 dX9_layBest_117 (by decide) (fun _ => ?_) (fun z => absurd (nI_le (by omega) (by omega)) z)
          exact r_eV B hC (⟨c1, q1, hM1, hS1, hSc, by have e : (s1, sl) = bestV h w kk := (by rw [L2_stop ok hw (show 10 * hn h ≤ m by omega)] at hres; split at hres <;> exact hres); rw [← e]; exact hF1⟩) dX9_layBest_171
        | succ k ih109 =>
          intro m s1 sl c1 q1 G hmk hM1 hS1 hSc hF1 hres H locs ls hC hl
          have hB1 : BankR h q1 0 w := hB.scr hSc okn
          refine lv_iload_n B.1 B.2.1 dX9_layBest_109 rfl (lv_at hl 0 rfl) ?_
          refine lv_bipush (v := nI 10) B.1 B.2.1 dX9_layBest_110 (by decide) ?_
          refine lv_aload_n B.1 B.2.1 dX9_layBest_112 rfl (lv_at hl 1 rfl) ?_
          refine r_cg B hC (i := 175) (by decide) hM1.1 (C := RX9) (T := TX9) (n := 35) rfl iwX9_layBest_X9 12 (by decide) (index := 114) flX9_layBest_114 rfl (v := .int (c1 12)) rfl dX9_layBest_113 ?_
          refine r_tI (y := nI (hn h)) ((hR.scr hSc).1) ?_
          refine lv_imul B.1 B.2.1 dX9_layBest_116 ?_
          refine r_tI (y := nI (10 * (hn h))) (pk_mul _ _) ?_
          refine lv_icmp_ge (tgt := 171) B.1 B.2.1 dX9_layBest_117 (by decide) (fun z => absurd z (nI_ge (by omega) (by omega))) (fun _ => ?_)
          refine lv_iload_n B.1 B.2.1 dX9_layBest_120 rfl (lv_at hl 2 rfl) ?_
          refine lv_iconst (v := nI 1) B.1 B.2.1 dX9_layBest_121 (by decide) ?_
          refine lv_icmp_le (tgt := 171) B.1 B.2.1 dX9_layBest_122 (by decide) (fun c_122 => ?_) (fun c_122 => ?_)
          · have q_122 : kk ≤ 1 := (nI_leI (by omega) (by omega)).mp c_122
            exact r_eV B hC (⟨c1, q1, hM1, hS1, hSc, by rw [if_neg (by omega)] at hres; rw [← hres]; exact hF1⟩) dX9_layBest_171
          · have q_122 : ¬ kk ≤ 1 := fun z => c_122 ((nI_leI (by omega) (by omega)).mpr z)
            refine lv_aload_n B.1 B.2.1 dX9_layBest_125 rfl (lv_at hl 1 rfl) ?_
            refine lv_iconst (v := nI 0) B.1 B.2.1 dX9_layBest_126 (by decide) ?_
            refine lv_bipush (v := nI 10) B.1 B.2.1 dX9_layBest_127 (by decide) ?_
            refine r_callv B hC hl.1 (175) 9 rfl rfl (by decide) hM1.1 (As := [.int (nI 0), .int (nI 10)]) (ctX9_copy l g lo ad hM1 (a := 0) (b := 10) (by decide) (by decide) (Or.inl (by decide))) gX9_layBest_X9_copy rfl (n := 2) rfl (by decide +kernel) ⟨Nat.le_of_ble_eq_true rfl, Nat.le_of_ble_eq_true rfl⟩ ⟨Nat.zero_le _, Nat.zero_le _⟩ rfl (Nat.le_of_ble_eq_true rfl) dX9_layBest_129 (fun F61 H locs hp129 hC => ?_)
            obtain ⟨q61, hM_F61, hT_F61, hq129⟩ := hp129
            have hS_F61 : Same 175 196 F F61 := Same.tr2 hS1 hT_F61 (by decide) (by decide)
            have hB10 := hq129.bank okn hB1
            refine lv_iload_n B.1 B.2.1 dX9_layBest_132 rfl (lv_at hl 0 rfl) ?_
            refine lv_bipush (v := nI 10) B.1 B.2.1 dX9_layBest_133 (by decide) ?_
            refine lv_irem B.1 B.2.1 dX9_layBest_135 (by decide) ?_
            refine r_tI (y := nI (m % 10)) (pk_rem (by omega) (by omega) (by omega)) ?_
            refine lv_aload_n B.1 B.2.1 dX9_layBest_136 rfl (lv_at hl 1 rfl) ?_
            refine r_cg B hC (i := 175) (by decide) hM_F61.1 (C := RX9) (T := TX9) (n := 35) rfl iwX9_layBest_X9 12 (by decide) (index := 114) flX9_layBest_114 rfl (v := .int (c1 12)) rfl dX9_layBest_137 ?_
            refine r_tI (y := nI (hn h)) ((hR.scr hSc).1) ?_
            refine lv_icmp_ge (tgt := 165) B.1 B.2.1 dX9_layBest_140 (by decide) (fun c_140 => ?_) (fun c_140 => ?_)
            · have q_140 : (hn h) ≤ (m % 10) := (nI_leI (by omega) (by omega)).mp c_140
              refine lv_iinc (v := nI (m + 1)) (lv' := [(2, .int (nI (m + 1))), (0, .ref (ad (175))), (1, .int (nI kk))]) B.1 B.2.1 dX9_layBest_165 hl (k := 0) rfl (nI_1 _) (by decide) rfl (fun ls hl => ?_)
              refine lv_goto (tgt := 109) B.1 B.2.1 dX9_layBest_168 (by decide) ?_
              exact ih109 (m + 1) s1 sl c1 q61 F61 (by omega) hM_F61 hS_F61 (hSc.qs hq129.1 (by decide)) (hF1.qs hq129.1) (by rw [if_pos (by omega)] at hres ⊢; rw [← L2_no (by omega) (mayM_wide q_140)]; exact hres) _ _ ls hC (lv_sub hl [0, 1, 2] rfl)
            · have q_140 : ¬ (hn h) ≤ (m % 10) := fun z => c_140 ((nI_leI (by omega) (by omega)).mpr z)
              refine lv_aload_n B.1 B.2.1 dX9_layBest_143 rfl (lv_at hl 1 rfl) ?_
              refine lv_bipush (v := nI 10) B.1 B.2.1 dX9_layBest_144 (by decide) ?_
              refine lv_iload_n B.1 B.2.1 dX9_layBest_146 rfl (lv_at hl 0 rfl) ?_
              refine lv_bipush (v := nI 10) B.1 B.2.1 dX9_layBest_147 (by decide) ?_
              refine lv_idiv B.1 B.2.1 dX9_layBest_149 (by decide) ?_
              refine r_tI (y := nI (m / 10)) (pk_div (by omega) (by omega) (by omega)) ?_
              refine lv_iload_n B.1 B.2.1 dX9_layBest_150 rfl (lv_at hl 0 rfl) ?_
              refine lv_bipush (v := nI 10) B.1 B.2.1 dX9_layBest_151 (by decide) ?_
              refine lv_irem B.1 B.2.1 dX9_layBest_153 (by decide) ?_
              refine r_tI (y := nI (m % 10)) (pk_rem (by omega) (by omega) (by omega)) ?_
              refine r_calli B hC hl.1 (175) 9 rfl rfl (by decide) hM_F61.1 (As := [.int (nI 10), .int (nI (m / 10)), .int (nI (m % 10))]) (ctX9_goes l g lo ad hM_F61 ok ((hR.scr hSc).qs (hq129.1)) (b := 10) (by decide) hB10 hw (t := m / 10) (p := m % 10) (by omega) (by omega)) gX9_layBest_X9_goes rfl (n := 3) rfl (by decide +kernel) ⟨Nat.le_of_ble_eq_true rfl, Nat.le_of_ble_eq_true rfl⟩ ⟨Nat.zero_le _, Nat.zero_le _⟩ rfl (Nat.le_of_ble_eq_true rfl) dX9_layBest_154 (fun r154 F62 H locs hp154 hC => ?_)
              obtain ⟨q62, hM_F62, hT_F62, hq154, hr154, hbk154⟩ := hp154
              have hS_F62 : Same 175 196 F F62 := Same.tr2 hS_F61 hT_F62 (by decide) (by decide)
              refine r_tI (y := bI (mayM h w m)) (hr154) ?_
              refine lv_if_eq (tgt := 165) B.1 B.2.1 dX9_layBest_157 (by decide) (fun c_157 => ?_) (fun c_157 => ?_)
              · have q_157 : mayM h w m = false := bI_f.mp c_157
                refine lv_iinc (v := nI (m + 1)) (lv' := [(2, .int (nI (m + 1))), (0, .ref (ad (175))), (1, .int (nI kk))]) B.1 B.2.1 dX9_layBest_165 hl (k := 0) rfl (nI_1 _) (by decide) rfl (fun ls hl => ?_)
                refine lv_goto (tgt := 109) B.1 B.2.1 dX9_layBest_168 (by decide) ?_
                exact ih109 (m + 1) s1 sl c1 q62 F62 (by omega) hM_F62 hS_F62 ((hSc.qs hq129.1 (by decide)).qs hq154 (by decide)) ((hF1.qs hq129.1).qs hq154) (by rw [if_pos (by omega)] at hres ⊢; rw [← L2_no (by omega) q_157]; exact hres) _ _ ls hC (lv_sub hl [0, 1, 2] rfl)
              · have q_157 : mayM h w m = true := bI_t.mp c_157
                have hb1 : BankR h q62 10 (stepV h w m) := by have z := hbk154; rw [show mayV h w (m / 10) (m % 10) = true from q_157, if_pos rfl] at z; exact z
                have hu1 : LOK h (stepV h w m) := LOK_step ok hw (by omega) q_157
                have hl1 := leakV_le (w := stepV h w m) ok
                refine lv_aload_n B.1 B.2.1 dX9_layBest_160 rfl (lv_at hl 1 rfl) ?_
                refine lv_iload_n B.1 B.2.1 dX9_layBest_161 rfl (lv_at hl 0 rfl) ?_
                refine r_callv B hC hl.1 (175) 9 rfl rfl (by decide) hM_F62.1 (As := [.int (nI m)]) (ctX9_laySecond l g lo ad hM_F62 ok (((hR.scr hSc).qs (hq129.1)).qs (hq154)) (w := w) (m := m) (by omega) hb1 hu1 ((hF1.qs hq129.1).qs hq154)) gX9_layBest_X9_laySecond rfl (n := 1) rfl (by decide +kernel) ⟨Nat.le_of_ble_eq_true rfl, Nat.le_of_ble_eq_true rfl⟩ ⟨Nat.zero_le _, Nat.zero_le _⟩ rfl (Nat.le_of_ble_eq_true rfl) dX9_layBest_162 (fun F63 H locs hp162 hC => ?_)
                obtain ⟨c63, q63, hM_F63, hT_F63, hz162, hf162⟩ := hp162
                have hS_F63 : Same 175 196 F F63 := Same.tr2 hS_F62 hT_F63 (by decide) (by decide)
                refine lv_iinc (v := nI (m + 1)) (lv' := [(2, .int (nI (m + 1))), (0, .ref (ad (175))), (1, .int (nI kk))]) B.1 B.2.1 dX9_layBest_165 hl (k := 0) rfl (nI_1 _) (by decide) rfl (fun ls hl => ?_)
                refine lv_goto (tgt := 109) B.1 B.2.1 dX9_layBest_168 (by decide) ?_
                exact ih109 (m + 1) _ _ c63 q63 F63 (by omega) hM_F63 hS_F63 (((hSc.qs hq129.1 (by decide)).qs hq154 (by decide)).tr hz162) hf162 (by rw [if_pos (by omega)] at hres ⊢; rw [L2_yes (by omega) q_157, bestF_app] at hres; exact hres) _ _ ls hC (lv_sub hl [0, 1, 2] rfl)
      exact loop109 (10 * hn h) 0 s1 sl c1 q1 G (by omega) hM1 hS1 hSc hF1 (by rw [L1_stop ok hw (show 10 * hn h ≤ m by omega)] at hres; match kk, hkk with | 0, _ => exact hres | 1, _ => exact hres | 2, _ => exact (show bestF h w (L2 h w 0) (s1, sl) = bestF h w (L2 h w 0) (bestV h w 1) by rw [← hres]; rfl)) _ _ ls hC (lv_sub hl [0, 1, 2] rfl)
    | succ k ih16 =>
      intro m s1 sl c1 q1 G hmk hM1 hS1 hSc hF1 hres H locs ls hC hl
      have hs90 := hF1.2.2.2.2
      have hB1 : BankR h q1 0 w := hB.scr hSc okn
      refine lv_iload_n B.1 B.2.1 dX9_layBest_16 rfl (lv_at hl 0 rfl) ?_
      refine lv_bipush (v := nI 10) B.1 B.2.1 dX9_layBest_17 (by decide) ?_
      refine lv_aload_n B.1 B.2.1 dX9_layBest_19 rfl (lv_at hl 1 rfl) ?_
      refine r_cg B hC (i := 175) (by decide) hM1.1 (C := RX9) (T := TX9) (n := 35) rfl iwX9_layBest_X9 12 (by decide) (index := 114) flX9_layBest_114 rfl (v := .int (c1 12)) rfl dX9_layBest_20 ?_
      refine r_tI (y := nI (hn h)) ((hR.scr hSc).1) ?_
      refine lv_imul B.1 B.2.1 dX9_layBest_23 ?_
      refine r_tI (y := nI (10 * (hn h))) (pk_mul _ _) ?_
      refine lv_icmp_ge (tgt := 107) B.1 B.2.1 dX9_layBest_24 (by decide) (fun z => absurd z (nI_ge (by omega) (by omega))) (fun _ => ?_)
      refine lv_iload_n B.1 B.2.1 dX9_layBest_27 rfl (lv_at hl 2 rfl) ?_
      refine lv_if_le (tgt := 107) B.1 B.2.1 dX9_layBest_28 (by decide) (fun c_28 => ?_) (fun c_28 => ?_)
      · have q_28 : kk ≤ 0 := Classical.byContradiction (fun z => nI_nle (by omega) (by omega) c_28)
        refine lv_iconst (v := nI 0) B.1 B.2.1 dX9_layBest_107 (by decide) ?_
        refine lv_istore_n (lv' := [(2, .int (nI 0)), (0, .ref (ad (175))), (1, .int (nI kk))]) B.1 B.2.1 dX9_layBest_108 rfl hl (by decide) rfl (fun ls hl => ?_)
        have loop109 : ∀ (k : Nat) (m s1 : Nat) (sl : List Nat) (c1 : Nat → Int32) (q1 : Nat → Nat → Int32) (G : Nat → va_E), (m + k = 10 * hn h) → (MC g ad G c1 q1 sm) → (Same 175 196 F G) → (Scr c c1 q q1) → (FndR c1 q1 (s1, sl)) → (if 1 < kk then bestF h w (L2 h w m) (s1, sl) = bestV h w kk else (s1, sl) = bestV h w kk) → ∀ (H : Heap) (locs : List Loc) (ls : Array Slot), Cu g lo 196 ad G ss ss.heap H locs → lv_has ls 3 [(2, .int (nI m)), (0, .ref (ad (175))), (1, .int (nI kk))] → W pp l ee { frames := 5, cells := 0, slots := 0, locals := 115 } ss mm ([.ref (ad (175)), .int (nI kk)] : List Value).toArray below meth cc H locs 0 0 (MQ below (va_Qv (fun F' => ∃ c' q', MC g ad F' c' q' sm ∧ Same 175 196 F F' ∧ Scr c c' q q' ∧ FndR c' q' (bestV h w kk)) (fun F' t => Wd g lo 196 ad F' t) (fun q => lo ≤ q)) ([.ref (ad (175)), .int (nI kk)] : List Value).toArray ss 0 0 (fun q => lo ≤ q)) (F0 mm 109 ls []) := by
          intro k
          induction k with
          | zero =>
            intro m s1 sl c1 q1 G hmk hM1 hS1 hSc hF1 hres H locs ls hC hl
            have hB1 : BankR h q1 0 w := hB.scr hSc okn
            refine lv_iload_n B.1 B.2.1 dX9_layBest_109 rfl (lv_at hl 0 rfl) ?_
            refine lv_bipush (v := nI 10) B.1 B.2.1 dX9_layBest_110 (by decide) ?_
            refine lv_aload_n B.1 B.2.1 dX9_layBest_112 rfl (lv_at hl 1 rfl) ?_
            refine r_cg B hC (i := 175) (by decide) hM1.1 (C := RX9) (T := TX9) (n := 35) rfl iwX9_layBest_X9 12 (by decide) (index := 114) flX9_layBest_114 rfl (v := .int (c1 12)) rfl dX9_layBest_113 ?_
            refine r_tI (y := nI (hn h)) ((hR.scr hSc).1) ?_
            refine lv_imul B.1 B.2.1 dX9_layBest_116 ?_
            refine r_tI (y := nI (10 * (hn h))) (pk_mul _ _) ?_
            refine lv_icmp_ge (tgt := 171) B.1 B.2.1 dX9_layBest_117 (by decide) (fun _ => ?_) (fun z => absurd (nI_le (by omega) (by omega)) z)
            exact r_eV B hC (⟨c1, q1, hM1, hS1, hSc, by have e : (s1, sl) = bestV h w kk := (by rw [L2_stop ok hw (show 10 * hn h ≤ m by omega)] at hres; split at hres <;> exact hres); rw [← e]; exact hF1⟩) dX9_layBest_171
          | succ k ih109 =>
            intro m s1 sl c1 q1 G hmk hM1 hS1 hSc hF1 hres H locs ls hC hl
            have hB1 : BankR h q1 0 w := hB.scr hSc okn
            refine lv_iload_n B.1 B.2.1 dX9_layBest_109 rfl (lv_at hl 0 rfl) ?_
            refine lv_bipush (v := nI 10) B.1 B.2.1 dX9_layBest_110 (by decide) ?_
            refine lv_aload_n B.1 B.2.1 dX9_layBest_112 rfl (lv_at hl 1 rfl) ?_
            refine r_cg B hC (i := 175) (by decide) hM1.1 (C := RX9) (T := TX9) (n := 35) rfl iwX9_layBest_X9 12 (by decide) (index := 114) flX9_layBest_114 rfl (v := .int (c1 12)) rfl dX9_layBest_113 ?_
            refine r_tI (y := nI (hn h)) ((hR.scr hSc).1) ?_
            refine lv_imul B.1 B.2.1 dX9_layBest_116 ?_
            refine r_tI (y := nI (10 * (hn h))) (pk_mul _ _) ?_
            refine lv_icmp_ge (tgt := 171) B.1 B.2.1 dX9_layBest_117 (by decide) (fun z => absurd z (nI_ge (by omega) (by omega))) (fun _ => ?_)
            refine lv_iload_n B.1 B.2.1 dX9_layBest_120 rfl (lv_at hl 2 rfl) ?_
            refine lv_iconst (v := nI 1) B.1 B.2.1 dX9_layBest_121 (by decide) ?_
            refine lv_icmp_le (tgt := 171) B.1 B.2.1 dX9_layBest_122 (by decide) (fun c_122 => ?_) (fun c_122 => ?_)
            · have q_122 : kk ≤ 1 := (nI_leI (by omega) (by omega)).mp c_122
              exact r_eV B hC (⟨c1, q1, hM1, hS1, hSc, by rw [if_neg (by omega)] at hres; rw [← hres]; exact hF1⟩) dX9_layBest_171
            · have q_122 : ¬ kk ≤ 1 := fun z => c_122 ((nI_leI (by omega) (by omega)).mpr z)
              refine lv_aload_n B.1 B.2.1 dX9_layBest_125 rfl (lv_at hl 1 rfl) ?_
              refine lv_iconst (v := nI 0) B.1 B.2.1 dX9_layBest_126 (by decide) ?_
              refine lv_bipush (v := nI 10) B.1 B.2.1 dX9_layBest_127 (by decide) ?_
              refine r_callv B hC hl.1 (175) 9 rfl rfl (by decide) hM1.1 (As := [.int (nI 0), .int (nI 10)]) (ctX9_copy l g lo ad hM1 (a := 0) (b := 10) (by decide) (by decide) (Or.inl (by decide))) gX9_layBest_X9_copy rfl (n := 2) rfl (by decide +kernel) ⟨Nat.le_of_ble_eq_true rfl, Nat.le_of_ble_eq_true rfl⟩ ⟨Nat.zero_le _, Nat.zero_le _⟩ rfl (Nat.le_of_ble_eq_true rfl) dX9_layBest_129 (fun F61 H locs hp129 hC => ?_)
              obtain ⟨q61, hM_F61, hT_F61, hq129⟩ := hp129
              have hS_F61 : Same 175 196 F F61 := Same.tr2 hS1 hT_F61 (by decide) (by decide)
              have hB10 := hq129.bank okn hB1
              refine lv_iload_n B.1 B.2.1 dX9_layBest_132 rfl (lv_at hl 0 rfl) ?_
              refine lv_bipush (v := nI 10) B.1 B.2.1 dX9_layBest_133 (by decide) ?_
              refine lv_irem B.1 B.2.1 dX9_layBest_135 (by decide) ?_
              refine r_tI (y := nI (m % 10)) (pk_rem (by omega) (by omega) (by omega)) ?_
              refine lv_aload_n B.1 B.2.1 dX9_layBest_136 rfl (lv_at hl 1 rfl) ?_
              refine r_cg B hC (i := 175) (by decide) hM_F61.1 (C := RX9) (T := TX9) (n := 35) rfl iwX9_layBest_X9 12 (by decide) (index := 114) flX9_layBest_114 rfl (v := .int (c1 12)) rfl dX9_layBest_137 ?_
              refine r_tI (y := nI (hn h)) ((hR.scr hSc).1) ?_
              refine lv_icmp_ge (tgt := 165) B.1 B.2.1 dX9_layBest_140 (by decide) (fun c_140 => ?_) (fun c_140 => ?_)
              · have q_140 : (hn h) ≤ (m % 10) := (nI_leI (by omega) (by omega)).mp c_140
                refine lv_iinc (v := nI (m + 1)) (lv' := [(2, .int (nI (m + 1))), (0, .ref (ad (175))), (1, .int (nI kk))]) B.1 B.2.1 dX9_layBest_165 hl (k := 0) rfl (nI_1 _) (by decide) rfl (fun ls hl => ?_)
                refine lv_goto (tgt := 109) B.1 B.2.1 dX9_layBest_168 (by decide) ?_
                exact ih109 (m + 1) s1 sl c1 q61 F61 (by omega) hM_F61 hS_F61 (hSc.qs hq129.1 (by decide)) (hF1.qs hq129.1) (by rw [if_pos (by omega)] at hres ⊢; rw [← L2_no (by omega) (mayM_wide q_140)]; exact hres) _ _ ls hC (lv_sub hl [0, 1, 2] rfl)
              · have q_140 : ¬ (hn h) ≤ (m % 10) := fun z => c_140 ((nI_leI (by omega) (by omega)).mpr z)
                refine lv_aload_n B.1 B.2.1 dX9_layBest_143 rfl (lv_at hl 1 rfl) ?_
                refine lv_bipush (v := nI 10) B.1 B.2.1 dX9_layBest_144 (by decide) ?_
                refine lv_iload_n B.1 B.2.1 dX9_layBest_146 rfl (lv_at hl 0 rfl) ?_
                refine lv_bipush (v := nI 10) B.1 B.2.1 dX9_layBest_147 (by decide) ?_
                refine lv_idiv B.1 B.2.1 dX9_layBest_149 (by decide) ?_
                refine r_tI (y := nI (m / 10)) (pk_div (by omega) (by omega) (by omega)) ?_
                refine lv_iload_n B.1 B.2.1 dX9_layBest_150 rfl (lv_at hl 0 rfl) ?_
                refine lv_bipush (v := nI 10) B.1 B.2.1 dX9_layBest_151 (by decide) ?_
                refine lv_irem B.1 B.2.1 dX9_layBest_153 (by decide) ?_
                refine r_tI (y := nI (m % 10)) (pk_rem (by omega) (by omega) (by omega)) ?_
                refine r_calli B hC hl.1 (175) 9 rfl rfl (by decide) hM_F61.1 (As := [.int (nI 10), .int (nI (m / 10)), .int (nI (m % 10))]) (ctX9_goes l g lo ad hM_F61 ok ((hR.scr hSc).qs (hq129.1)) (b := 10) (by decide) hB10 hw (t := m / 10) (p := m % 10) (by omega) (by omega)) gX9_layBest_X9_goes rfl (n := 3) rfl (by decide +kernel) ⟨Nat.le_of_ble_eq_true rfl, Nat.le_of_ble_eq_true rfl⟩ ⟨Nat.zero_le _, Nat.zero_le _⟩ rfl (Nat.le_of_ble_eq_true rfl) dX9_layBest_154 (fun r154 F62 H locs hp154 hC => ?_)
                obtain ⟨q62, hM_F62, hT_F62, hq154, hr154, hbk154⟩ := hp154
                have hS_F62 : Same 175 196 F F62 := Same.tr2 hS_F61 hT_F62 (by decide) (by decide)
                refine r_tI (y := bI (mayM h w m)) (hr154) ?_
                refine lv_if_eq (tgt := 165) B.1 B.2.1 dX9_layBest_157 (by decide) (fun c_157 => ?_) (fun c_157 => ?_)
                · have q_157 : mayM h w m = false := bI_f.mp c_157
                  refine lv_iinc (v := nI (m + 1)) (lv' := [(2, .int (nI (m + 1))), (0, .ref (ad (175))), (1, .int (nI kk))]) B.1 B.2.1 dX9_layBest_165 hl (k := 0) rfl (nI_1 _) (by decide) rfl (fun ls hl => ?_)
                  refine lv_goto (tgt := 109) B.1 B.2.1 dX9_layBest_168 (by decide) ?_
                  exact ih109 (m + 1) s1 sl c1 q62 F62 (by omega) hM_F62 hS_F62 ((hSc.qs hq129.1 (by decide)).qs hq154 (by decide)) ((hF1.qs hq129.1).qs hq154) (by rw [if_pos (by omega)] at hres ⊢; rw [← L2_no (by omega) q_157]; exact hres) _ _ ls hC (lv_sub hl [0, 1, 2] rfl)
                · have q_157 : mayM h w m = true := bI_t.mp c_157
                  have hb1 : BankR h q62 10 (stepV h w m) := by have z := hbk154; rw [show mayV h w (m / 10) (m % 10) = true from q_157, if_pos rfl] at z; exact z
                  have hu1 : LOK h (stepV h w m) := LOK_step ok hw (by omega) q_157
                  have hl1 := leakV_le (w := stepV h w m) ok
                  refine lv_aload_n B.1 B.2.1 dX9_layBest_160 rfl (lv_at hl 1 rfl) ?_
                  refine lv_iload_n B.1 B.2.1 dX9_layBest_161 rfl (lv_at hl 0 rfl) ?_
                  refine r_callv B hC hl.1 (175) 9 rfl rfl (by decide) hM_F62.1 (As := [.int (nI m)]) (ctX9_laySecond l g lo ad hM_F62 ok (((hR.scr hSc).qs (hq129.1)).qs (hq154)) (w := w) (m := m) (by omega) hb1 hu1 ((hF1.qs hq129.1).qs hq154)) gX9_layBest_X9_laySecond rfl (n := 1) rfl (by decide +kernel) ⟨Nat.le_of_ble_eq_true rfl, Nat.le_of_ble_eq_true rfl⟩ ⟨Nat.zero_le _, Nat.zero_le _⟩ rfl (Nat.le_of_ble_eq_true rfl) dX9_layBest_162 (fun F63 H locs hp162 hC => ?_)
                  obtain ⟨c63, q63, hM_F63, hT_F63, hz162, hf162⟩ := hp162
                  have hS_F63 : Same 175 196 F F63 := Same.tr2 hS_F62 hT_F63 (by decide) (by decide)
                  refine lv_iinc (v := nI (m + 1)) (lv' := [(2, .int (nI (m + 1))), (0, .ref (ad (175))), (1, .int (nI kk))]) B.1 B.2.1 dX9_layBest_165 hl (k := 0) rfl (nI_1 _) (by decide) rfl (fun ls hl => ?_)
                  refine lv_goto (tgt := 109) B.1 B.2.1 dX9_layBest_168 (by decide) ?_
                  exact ih109 (m + 1) _ _ c63 q63 F63 (by omega) hM_F63 hS_F63 (((hSc.qs hq129.1 (by decide)).qs hq154 (by decide)).tr hz162) hf162 (by rw [if_pos (by omega)] at hres ⊢; rw [L2_yes (by omega) q_157, bestF_app] at hres; exact hres) _ _ ls hC (lv_sub hl [0, 1, 2] rfl)
        exact loop109 (10 * hn h) 0 s1 sl c1 q1 G (by omega) hM1 hS1 hSc hF1 (by have e : kk = 0 := (by omega); subst e; exact hres) _ _ ls hC (lv_sub hl [0, 1, 2] rfl)
      · have q_28 : ¬ kk ≤ 0 := fun z => c_28 (nI_le0 (by omega))
        refine lv_aload_n B.1 B.2.1 dX9_layBest_31 rfl (lv_at hl 1 rfl) ?_
        refine lv_iconst (v := nI 0) B.1 B.2.1 dX9_layBest_32 (by decide) ?_
        refine lv_bipush (v := nI 10) B.1 B.2.1 dX9_layBest_33 (by decide) ?_
        refine r_callv B hC hl.1 (175) 9 rfl rfl (by decide) hM1.1 (As := [.int (nI 0), .int (nI 10)]) (ctX9_copy l g lo ad hM1 (a := 0) (b := 10) (by decide) (by decide) (Or.inl (by decide))) gX9_layBest_X9_copy rfl (n := 2) rfl (by decide +kernel) ⟨Nat.le_of_ble_eq_true rfl, Nat.le_of_ble_eq_true rfl⟩ ⟨Nat.zero_le _, Nat.zero_le _⟩ rfl (Nat.le_of_ble_eq_true rfl) dX9_layBest_35 (fun F31 H locs hp35 hC => ?_)
        obtain ⟨q31, hM_F31, hT_F31, hq35⟩ := hp35
        have hS_F31 : Same 175 196 F F31 := Same.tr2 hS1 hT_F31 (by decide) (by decide)
        have hB10 := hq35.bank okn hB1
        refine lv_iload_n B.1 B.2.1 dX9_layBest_38 rfl (lv_at hl 0 rfl) ?_
        refine lv_bipush (v := nI 10) B.1 B.2.1 dX9_layBest_39 (by decide) ?_
        refine lv_irem B.1 B.2.1 dX9_layBest_41 (by decide) ?_
        refine r_tI (y := nI (m % 10)) (pk_rem (by omega) (by omega) (by omega)) ?_
        refine lv_aload_n B.1 B.2.1 dX9_layBest_42 rfl (lv_at hl 1 rfl) ?_
        refine r_cg B hC (i := 175) (by decide) hM_F31.1 (C := RX9) (T := TX9) (n := 35) rfl iwX9_layBest_X9 12 (by decide) (index := 114) flX9_layBest_114 rfl (v := .int (c1 12)) rfl dX9_layBest_43 ?_
        refine r_tI (y := nI (hn h)) ((hR.scr hSc).1) ?_
        refine lv_icmp_ge (tgt := 101) B.1 B.2.1 dX9_layBest_46 (by decide) (fun c_46 => ?_) (fun c_46 => ?_)
        · have q_46 : (hn h) ≤ (m % 10) := (nI_leI (by omega) (by omega)).mp c_46
          refine lv_iinc (v := nI (m + 1)) (lv' := [(2, .int (nI (m + 1))), (0, .ref (ad (175))), (1, .int (nI kk))]) B.1 B.2.1 dX9_layBest_101 hl (k := 0) rfl (nI_1 _) (by decide) rfl (fun ls hl => ?_)
          refine lv_goto (tgt := 16) B.1 B.2.1 dX9_layBest_104 (by decide) ?_
          exact ih16 (m + 1) s1 sl c1 q31 F31 (by omega) hM_F31 hS_F31 (hSc.qs hq35.1 (by decide)) (hF1.qs hq35.1) (by rw [if_pos (by omega)] at hres ⊢; rw [← L1_no (by omega) (mayM_wide q_46)]; exact hres) _ _ ls hC (lv_sub hl [0, 1, 2] rfl)
        · have q_46 : ¬ (hn h) ≤ (m % 10) := fun z => c_46 ((nI_leI (by omega) (by omega)).mpr z)
          refine lv_aload_n B.1 B.2.1 dX9_layBest_49 rfl (lv_at hl 1 rfl) ?_
          refine lv_bipush (v := nI 10) B.1 B.2.1 dX9_layBest_50 (by decide) ?_
          refine lv_iload_n B.1 B.2.1 dX9_layBest_52 rfl (lv_at hl 0 rfl) ?_
          refine lv_bipush (v := nI 10) B.1 B.2.1 dX9_layBest_53 (by decide) ?_
          refine lv_idiv B.1 B.2.1 dX9_layBest_55 (by decide) ?_
          refine r_tI (y := nI (m / 10)) (pk_div (by omega) (by omega) (by omega)) ?_
          refine lv_iload_n B.1 B.2.1 dX9_layBest_56 rfl (lv_at hl 0 rfl) ?_
          refine lv_bipush (v := nI 10) B.1 B.2.1 dX9_layBest_57 (by decide) ?_
          refine lv_irem B.1 B.2.1 dX9_layBest_59 (by decide) ?_
          refine r_tI (y := nI (m % 10)) (pk_rem (by omega) (by omega) (by omega)) ?_
          refine r_calli B hC hl.1 (175) 9 rfl rfl (by decide) hM_F31.1 (As := [.int (nI 10), .int (nI (m / 10)), .int (nI (m % 10))]) (ctX9_goes l g lo ad hM_F31 ok ((hR.scr hSc).qs (hq35.1)) (b := 10) (by decide) hB10 hw (t := m / 10) (p := m % 10) (by omega) (by omega)) gX9_layBest_X9_goes rfl (n := 3) rfl (by decide +kernel) ⟨Nat.le_of_ble_eq_true rfl, Nat.le_of_ble_eq_true rfl⟩ ⟨Nat.zero_le _, Nat.zero_le _⟩ rfl (Nat.le_of_ble_eq_true rfl) dX9_layBest_60 (fun r60 F32 H locs hp60 hC => ?_)
          obtain ⟨q32, hM_F32, hT_F32, hq60, hr60, hbk60⟩ := hp60
          have hS_F32 : Same 175 196 F F32 := Same.tr2 hS_F31 hT_F32 (by decide) (by decide)
          refine r_tI (y := bI (mayM h w m)) (hr60) ?_
          refine lv_if_eq (tgt := 101) B.1 B.2.1 dX9_layBest_63 (by decide) (fun c_63 => ?_) (fun c_63 => ?_)
          · have q_63 : mayM h w m = false := bI_f.mp c_63
            refine lv_iinc (v := nI (m + 1)) (lv' := [(2, .int (nI (m + 1))), (0, .ref (ad (175))), (1, .int (nI kk))]) B.1 B.2.1 dX9_layBest_101 hl (k := 0) rfl (nI_1 _) (by decide) rfl (fun ls hl => ?_)
            refine lv_goto (tgt := 16) B.1 B.2.1 dX9_layBest_104 (by decide) ?_
            exact ih16 (m + 1) s1 sl c1 q32 F32 (by omega) hM_F32 hS_F32 ((hSc.qs hq35.1 (by decide)).qs hq60 (by decide)) ((hF1.qs hq35.1).qs hq60) (by rw [if_pos (by omega)] at hres ⊢; rw [← L1_no (by omega) q_63]; exact hres) _ _ ls hC (lv_sub hl [0, 1, 2] rfl)
          · have q_63 : mayM h w m = true := bI_t.mp c_63
            have hb1 : BankR h q32 10 (stepV h w m) := by have z := hbk60; rw [show mayV h w (m / 10) (m % 10) = true from q_63, if_pos rfl] at z; exact z
            have hu1 : LOK h (stepV h w m) := LOK_step ok hw (by omega) q_63
            have hl1 := leakV_le (w := stepV h w m) ok
            refine lv_aload_n B.1 B.2.1 dX9_layBest_66 rfl (lv_at hl 1 rfl) ?_
            refine lv_bipush (v := nI 10) B.1 B.2.1 dX9_layBest_67 (by decide) ?_
            refine r_calli B hC hl.1 (175) 9 rfl rfl (by decide) hM_F32.1 (As := [.int (nI 10)]) (ctX9_leakOf l g lo ad hM_F32 ok (((hR.scr hSc).qs (hq35.1)).qs (hq60)) (b := 10) (by decide) hb1 hu1) gX9_layBest_X9_leakOf rfl (n := 1) rfl (by decide +kernel) ⟨Nat.le_of_ble_eq_true rfl, Nat.le_of_ble_eq_true rfl⟩ ⟨Nat.zero_le _, Nat.zero_le _⟩ rfl (Nat.le_of_ble_eq_true rfl) dX9_layBest_69 (fun r69 F33 H locs hp69 hC => ?_)
            obtain ⟨er, eF⟩ := hp69
            subst er
            rw [eF] at hC
            refine lv_aload_n B.1 B.2.1 dX9_layBest_72 rfl (lv_at hl 1 rfl) ?_
            refine r_cg B hC (i := 175) (by decide) hM_F32.1 (C := RX9) (T := TX9) (n := 35) rfl iwX9_layBest_X9 29 (by decide) (index := 181) flX9_layBest_181 rfl (v := .int (c1 29)) rfl dX9_layBest_73 ?_
            refine r_tI (y := nI s1) (hF1.1) ?_
            refine lv_icmp_ge (tgt := 101) B.1 B.2.1 dX9_layBest_76 (by decide) (fun c_76 => ?_) (fun c_76 => ?_)
            · have q_76 : s1 ≤ (leakV h (stepV h w m)) := (nI_leI (by omega) (by omega)).mp c_76
              refine lv_iinc (v := nI (m + 1)) (lv' := [(2, .int (nI (m + 1))), (0, .ref (ad (175))), (1, .int (nI kk))]) B.1 B.2.1 dX9_layBest_101 hl (k := 0) rfl (nI_1 _) (by decide) rfl (fun ls hl => ?_)
              refine lv_goto (tgt := 16) B.1 B.2.1 dX9_layBest_104 (by decide) ?_
              exact ih16 (m + 1) s1 sl c1 q32 F32 (by omega) hM_F32 hS_F32 ((hSc.qs hq35.1 (by decide)).qs hq60 (by decide)) ((hF1.qs hq35.1).qs hq60) (by rw [if_pos (by omega)] at hres ⊢; rw [map_c (L1_yes (by omega) q_63), bestF, b1_no (s := (s1, sl)) (e := [m]) q_76] at hres; exact hres) _ _ ls hC (lv_sub hl [0, 1, 2] rfl)
            · have q_76 : ¬ s1 ≤ (leakV h (stepV h w m)) := fun z => c_76 ((nI_leI (by omega) (by omega)).mpr z)
              refine lv_aload_n B.1 B.2.1 dX9_layBest_79 rfl (lv_at hl 1 rfl) ?_
              refine lv_aload_n B.1 B.2.1 dX9_layBest_80 rfl (lv_at hl 1 rfl) ?_
              refine lv_bipush (v := nI 10) B.1 B.2.1 dX9_layBest_81 (by decide) ?_
              refine r_calli B hC hl.1 (175) 9 rfl rfl (by decide) hM_F32.1 (As := [.int (nI 10)]) (ctX9_leakOf l g lo ad hM_F32 ok (((hR.scr hSc).qs (hq35.1)).qs (hq60)) (b := 10) (by decide) hb1 hu1) gX9_layBest_X9_leakOf rfl (n := 1) rfl (by decide +kernel) ⟨Nat.le_of_ble_eq_true rfl, Nat.le_of_ble_eq_true rfl⟩ ⟨Nat.zero_le _, Nat.zero_le _⟩ rfl (Nat.le_of_ble_eq_true rfl) dX9_layBest_83 (fun r83 F33 H locs hp83 hC => ?_)
              obtain ⟨er, eF⟩ := hp83
              subst er
              rw [eF] at hC
              obtain ⟨c33, ec33⟩ : ∃ f, f = va_up c1 29 (nI (leakV h (stepV h w m))) := ⟨_, rfl⟩
              refine r_cp B hC (i := 175) (by decide) hM_F32.1 tyX9 tyX9_ok nmX9 (C := RX9) (T := TX9) rfl iwX9_layBest_X9 29 (by decide) (index := 181) flX9_layBest_181 rfl rfl (v := .int (nI (leakV h (stepV h w m)))) (rfl) (rfl) (Nat.le_of_ble_eq_true rfl) dX9_layBest_86 ?_
              intro H locs hC
              obtain ⟨F33, eF33⟩ : ∃ f, f = va_up F32 175 (mObj ad c33) := ⟨_, rfl⟩
              have hC : Cu g lo 196 ad F33 ss ss.heap H locs := by rw [eF33, ec33]; exact hC
              have hM_F33 : MC g ad F33 c33 q32 sm := hM_F32.fld eF33
              have cv12_F33 : c33 12 = nI (hn h) := by rw [ec33, va_up_ne _ _ (by decide)]; exact (hR.scr hSc).1
              have cv28_F33 : c33 28 = nI sl.length := by rw [ec33, va_up_ne _ _ (by decide)]; exact hF1.2.1
              have cv29_F33 : c33 29 = nI (leakV h (stepV h w m)) := by rw [ec33, va_up_self]
              have hR_F33 : HullR h c33 q32 := by rw [ec33]; exact (((hR.scr hSc).qs (hq35.1)).qs (hq60)).upc (by decide) (by decide) (by decide)
              have hS_F33 : Same 175 196 F F33 := by rw [eF33]; exact hS_F32.up (by decide) (by decide)
              refine lv_aload_n B.1 B.2.1 dX9_layBest_89 rfl (lv_at hl 1 rfl) ?_
              refine lv_iconst (v := nI 1) B.1 B.2.1 dX9_layBest_90 (by decide) ?_
              obtain ⟨c34, ec34⟩ : ∃ f, f = va_up c33 28 (nI 1) := ⟨_, rfl⟩
              refine r_cp B hC (i := 175) (by decide) hM_F33.1 tyX9 tyX9_ok nmX9 (C := RX9) (T := TX9) rfl iwX9_layBest_X9 28 (by decide) (index := 178) flX9_layBest_178 rfl rfl (v := .int (nI 1)) (rfl) (rfl) (Nat.le_of_ble_eq_true rfl) dX9_layBest_91 ?_
              intro H locs hC
              obtain ⟨F34, eF34⟩ : ∃ f, f = va_up F33 175 (mObj ad c34) := ⟨_, rfl⟩
              have hC : Cu g lo 196 ad F34 ss ss.heap H locs := by rw [eF34, ec34]; exact hC
              have hM_F34 : MC g ad F34 c34 q32 sm := hM_F33.fld eF34
              have cv12_F34 : c34 12 = nI (hn h) := by rw [ec34, va_up_ne _ _ (by decide)]; exact cv12_F33
              have cv29_F34 : c34 29 = nI (leakV h (stepV h w m)) := by rw [ec34, va_up_ne _ _ (by decide)]; exact cv29_F33
              have cv28_F34 : c34 28 = nI 1 := by rw [ec34, va_up_self]
              have hR_F34 : HullR h c34 q32 := by rw [ec34]; exact hR_F33.upc (by decide) (by decide) (by decide)
              have hS_F34 : Same 175 196 F F34 := by rw [eF34]; exact hS_F33.up (by decide) (by decide)
              refine lv_aload_n B.1 B.2.1 dX9_layBest_94 rfl (lv_at hl 1 rfl) ?_
              refine r_cg B hC (i := 175) (by decide) hM_F34.1 (C := RX9) (T := TX9) (n := 35) rfl iwX9_layBest_X9 27 (by decide) (index := 52) flX9_layBest_52 rfl (v := .ref (ad (190))) rfl dX9_layBest_95 ?_
              refine lv_iconst (v := nI 0) B.1 B.2.1 dX9_layBest_98 (by decide) ?_
              refine lv_iload_n B.1 B.2.1 dX9_layBest_99 rfl (lv_at hl 0 rfl) ?_
              refine r_cast B hC (i := 190) (by decide) hM_F34.c190 (j := 0) (by omega) (by decide) dX9_layBest_100 ?_
              intro H locs hC
              obtain ⟨F35, eF35⟩ : ∃ f : Nat → va_E, f = va_up F34 190 (.inl (g.2.2 0, 3, .inl (upd (q32 190) (0) (nI m)))) := ⟨_, rfl⟩
              have hC : Cu g lo 196 ad F35 ss ss.heap H locs := by rw [eF35]; exact hC
              obtain ⟨q35, eq35⟩ : ∃ f, f = va_up q32 190 (upd (q32 190) (0) (nI m)) := ⟨_, rfl⟩
              have hM_F35 : MC g ad F35 c34 q35 sm := by rw [eq35]; exact hM_F34.arr (by decide) (by decide) (by decide) (by decide) (by decide) eF35
              have hR_F35 : HullR h c34 q35 := by rw [eq35]; exact hR_F34.upq (by decide)
              have hS_F35 : Same 175 196 F F35 := by rw [eF35]; exact hS_F34.up (by decide) (by decide)
              refine lv_iinc (v := nI (m + 1)) (lv' := [(2, .int (nI (m + 1))), (0, .ref (ad (175))), (1, .int (nI kk))]) B.1 B.2.1 dX9_layBest_101 hl (k := 0) rfl (nI_1 _) (by decide) rfl (fun ls hl => ?_)
              refine lv_goto (tgt := 16) B.1 B.2.1 dX9_layBest_104 (by decide) ?_
              exact ih16 (m + 1) (leakV h (stepV h w m)) [m] c34 q35 F35 (by omega) hM_F35 hS_F35 (((((hSc.qs hq35.1 (by decide)).qs hq60 (by decide)).uc ec33 (by decide)).uc ec34 (by decide)).uf eq35 (by decide)) (Fnd1 cv29_F34 cv28_F34 eq35 hl1) (by rw [if_pos (by omega)] at hres ⊢; rw [map_c (L1_yes (by omega) q_63), bestF, b1_yes (s := (s1, sl)) (e := [m]) (Nat.not_le.mp q_76)] at hres; exact hres) _ _ ls hC (lv_sub hl [0, 1, 2] rfl)
  exact loop16 (10 * hn h) 0 (leakV h w) [] c2 q F2 (by omega) hM_F2 hS_F2 ((Scr.rf.uc ec1 (by decide)).uc ec2 (by decide)) ⟨cv29_F2, cv28_F2, Nat.zero_le _, fun j hj => absurd hj (Nat.not_lt_zero j), leakV_le ok⟩ (by split <;> rfl) _ _ ls hC (lv_sub hl [0, 1, 2] rfl)
