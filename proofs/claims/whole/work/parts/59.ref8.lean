/-! THE REFERENCE: best, bestAt, port, portAt -/
theorem portF_app (h : HV) (w : LV) (n : Nat) : ∀ (a b : List (List Nat)), portF h w n (a ++ b) = match portF h w n a with
    | some e => some e
    | none => portF h w n b
  | [], _ => rfl
  | e :: a, b => by
    show (if n ≤ floatsV h (endV h w e) then some e else portF h w n (a ++ b)) = match (if n ≤ floatsV h (endV h w e) then some e else portF h w n a) with
      | some e => some e
      | none => portF h w n b
    split
    · rfl
    · exact portF_app h w n a b
theorem portF_no {h : HV} {w : LV} {n : Nat} {e : List Nat} {l : List (List Nat)} (q : floatsV h (endV h w e) < n) : portF h w n (e :: l) = portF h w n l := if_neg (by omega)
theorem portF_yes {h : HV} {w : LV} {n : Nat} {e : List Nat} {l : List (List Nat)} (q : ¬ floatsV h (endV h w e) < n) : portF h w n (e :: l) = some e := if_pos (by omega)
theorem port_0 {h : HV} {w : LV} {n : Nat} (q : ¬ floatsV h w < n) : portV h w n = some [] := by
  unfold portV
  rw [show portF h w n (rowsV h w 0) = some [] from portF_yes (e := []) q]
theorem port_1 {h : HV} {w : LV} {n : Nat} {e : List Nat} (q : floatsV h w < n) (q1 : portF h w n ((L1 h w 0).map (fun z => [z])) = some e) : portV h w n = some e := by
  unfold portV
  rw [show portF h w n (rowsV h w 0) = none from portF_no (e := []) q, show portF h w n (rowsV h w 1) = some e from q1]
theorem port_2 {h : HV} {w : LV} {n : Nat} (q : floatsV h w < n) (q1 : portF h w n ((L1 h w 0).map (fun z => [z])) = none) : portV h w n = portF h w n (L2 h w 0) := by
  unfold portV
  rw [show portF h w n (rowsV h w 0) = none from portF_no (e := []) q, show portF h w n (rowsV h w 1) = none from q1]
  rfl
def PortR (q : Nat → Nat → Int32) (o : Option (List Nat)) : Prop := ∀ e, o = some e → e.length ≤ 2 ∧ ∀ j, j < e.length → q 190 j = oI (e[j]?)
theorem PortR.z {q : Nat → Nat → Int32} {o : Option (List Nat)} (e : o = some []) : PortR q o := fun e2 h => by
  rw [e] at h; cases h
  exact ⟨Nat.zero_le _, fun j hj => absurd hj (Nat.not_lt_zero j)⟩
theorem PortR.n {q : Nat → Nat → Int32} {o : Option (List Nat)} (e : o = none) : PortR q o := fun e2 h => by rw [e] at h; cases h
theorem PortR.one {q q' : Nat → Nat → Int32} {o : Option (List Nat)} {m : Nat} (e : o = some [m]) (eq : q' = va_up q 190 (upd (q 190) 0 (nI m))) : PortR q' o := fun e2 h => by
  rw [e] at h; cases h
  refine ⟨Nat.le_of_ble_eq_true rfl, fun j hj => ?_⟩
  have : j = 0 := by simpa using hj
  subst this
  rw [eq, va_up_self]; rfl
theorem PortR.two {q q' : Nat → Nat → Int32} {o : Option (List Nat)} {m y : Nat} (e : o = some [m, y]) (eq : q' = va_up q 190 (upd (q 190) 0 (nI m))) (e1 : q 190 1 = nI y) : PortR q' o := fun e2 h => by
  rw [e] at h; cases h
  refine ⟨Nat.le_of_ble_eq_true rfl, fun j hj => ?_⟩
  have : j = 0 ∨ j = 1 := by have h6 : j < 2 := hj; omega
  rcases this with rfl | rfl
  · rw [eq, va_up_self]; rfl
  · rw [eq, va_up_self]; exact e1
theorem inB_n {n : Nat} (hn : n ≤ 2000) (x : Int32) : inB (Int32.toInt64 x) (lN 0) (Int32.toInt64 (nI n - nI 1)) = (decide (0 ≤ x) && decide (x < nI n)) := by
  have e0 : (lN 0).toInt = 0 := by decide
  have e1 : (nI n - nI 1).toInt = (n : Int) - 1 := by rw [pk_sub_toInt (by omega) (by decide)]; rfl
  unfold inB
  simp only [Int64.le_iff_toInt_le, Int32.le_iff_toInt_le, Int32.lt_iff_toInt_lt, Int32.toInt_toInt64, e0, e1, nI_toInt (show n < 2 ^ 31 by omega), Int32.toInt_zero]
  congr 1
  exact decide_eq_decide.mpr (by omega)
theorem inB_02 (x : Int32) : inB (Int32.toInt64 x) (lN 0) 2 = is02 x := by
  have e0 : (lN 0).toInt = 0 := by decide
  have e2 : (2 : Int64).toInt = 2 := by decide
  cases q : is02 x with
  | true =>
    simp only [is02, Bool.or_eq_true, decide_eq_true_eq] at q
    rcases q with rfl | rfl | rfl <;> decide
  | false =>
    unfold inB
    by_cases h1 : lN 0 ≤ Int32.toInt64 x
    · by_cases h2 : Int32.toInt64 x ≤ 2
      · rw [Int64.le_iff_toInt_le, Int32.toInt_toInt64, e0] at h1
        rw [Int64.le_iff_toInt_le, Int32.toInt_toInt64, e2] at h2
        have z := is02_i (k := x) (by rw [Int32.lt_iff_toInt_lt, Int32.toInt_zero]; omega) (by rw [Int32.le_iff_toInt_le]; exact h2)
        rw [z.1] at q; cases q
      · rw [decide_eq_false h2]; simp
    · rw [decide_eq_false h1]; simp
theorem inB_99 (x : Int32) : inB (Int32.toInt64 x) (lN 1) 99 = is99 x := by
  have e0 : (lN 1).toInt = 1 := by decide
  have e2 : (99 : Int64).toInt = 99 := by decide
  have e3 : (1 : Int32).toInt = 1 := by decide
  have e4 : (99 : Int32).toInt = 99 := by decide
  unfold inB is99
  simp only [Int64.le_iff_toInt_le, Int32.le_iff_toInt_le, Int32.toInt_toInt64, e0, e2, e3, e4]
theorem inB_m10 (x : Int32) : inB (Int32.toInt64 x) (lN 0) (Int32.toInt64 ((-9) - nI 1)) = false := by
  have e0 : (lN 0).toInt = 0 := by decide
  have e1 : ((-9 : Int32) - nI 1).toInt = -10 := by decide
  unfold inB
  simp only [Int64.le_iff_toInt_le, Int32.toInt_toInt64, e0, e1, Bool.and_eq_false_iff, decide_eq_false_iff_not]
  omega
theorem ix_of {x : Int32} {n : Nat} (hn : n ≤ 2000) (h : (decide (0 ≤ x) && decide (x < nI n)) = true) : ∃ j, j < n ∧ x = nI j := by
  simp only [Bool.and_eq_true, decide_eq_true_eq] at h
  obtain ⟨j, hj, rfl⟩ := nI_of (x := x) (by have := h.1; rw [Int32.le_iff_toInt_le, Int32.toInt_zero] at this; rw [Int32.lt_iff_toInt_lt, Int32.toInt_zero]; omega)
  exact ⟨j, (nI_ltI hj (by omega)).mp h.2, rfl⟩
theorem fnd_in {l : List Nat} {j : Nat} (hl : l.length ≤ 2000) (hj : j < l.length) : fndAt l (nI j) = l[j]? := by
  unfold fndAt
  rw [if_pos ⟨by rw [Int32.le_iff_toInt_le, Int32.toInt_zero, nI_toInt (by omega)]; omega, (nI_ltI (by omega) (by omega)).mpr hj⟩, nI_clamp (by omega)]
theorem fnd_out {l : List Nat} {x : Int32} (h : (decide (0 ≤ x) && decide (x < nI l.length)) = false) : fndAt l x = none := by
  unfold fndAt
  refine if_neg (fun z => ?_)
  rw [decide_eq_true z.1, decide_eq_true z.2] at h
  cases h
theorem iwX9_isPort_X9 : ∀ w ∈ u_ws RX9 TX9 35, w ∈ wsX9_isPort := by decide +kernel
theorem flX9_isPort_52 : Cond.fieldLink RX9 52 RX9 (TX9 27).2.1 (TX9 27).2.2.1 ∈ wsX9_isPort := by decide +kernel
theorem flX9_isPort_114 : Cond.fieldLink RX9 114 RX9 (TX9 12).2.1 (TX9 12).2.2.1 ∈ wsX9_isPort := by decide +kernel
set_option maxHeartbeats 4000000 in
set_option maxRecDepth 100000 in
theorem ctX9_isPort (l : Launch) (g : Gx) (lo : Nat) (ad : Nat → Nat) {F : Nat → va_E} {c : Nat → Int32} {q : Nat → Nat → Int32} {sm : Nat → Int64} (hM : MC g ad F c q sm) {h : HV} {w : LV} (ok : HOK h) (hR : HullR h c q) {m : Nat} (hm : m < 100) (hB : BankR h q 10 (stepV h w m)) (hu : LOK h (stepV h w m)) (hwa : c 22 = nI (wa w)) (hsu : c 23 = bI (su w)) {n : Nat} (hn1 : 1 ≤ n) (hn99 : n ≤ 99) : MI l g lo 196 ad yX9_isPort wsX9_isPort 4 94 [.ref (ad (175)), .int (nI n)] F (fun r F' => ∃ q' o, MC g ad F' c q' sm ∧ Same 175 196 F F' ∧ Scr c c q q' ∧ portF h w n ((L1 h (stepV h w m) 0).map (fun z => [m, z])) = o ∧ r = bI o.isSome ∧ ∀ e, o = some e → ∃ y, e = [m, y] ∧ q' 190 1 = nI y) := by
  have okn := ok.1
  have okp := ok.2.1
  have okh := ok.2.2.1
  have hS : Same 175 196 F F := Same.rf
  refine enter (cc := cX9_isPort) (maxL := 3) (ret := some .boolean) (own := RX9) (by decide +kernel) rfl rfl (Nat.le_of_ble_eq_true rfl) ?_
  intro pp ee ss mm below meth cc B hini hC ls hl
  have hl : lv_has ls 3 [(0, .ref (ad (175))), (1, .int (nI n))] := hl
  refine lv_iconst (v := nI 0) B.1 B.2.1 dX9_isPort_0 (by decide) ?_
  refine lv_istore_n (lv' := [(2, .int (nI 0)), (0, .ref (ad (175))), (1, .int (nI n))]) B.1 B.2.1 dX9_isPort_1 rfl hl (by decide) rfl (fun ls hl => ?_)
  have loop2 : ∀ (k : Nat) (o : Nat) (q1 : Nat → Nat → Int32) (G : Nat → va_E), (o + k = 10 * hn h) → (MC g ad G c q1 sm) → (Same 175 196 F G) → (Scr c c q q1) → (BankR h q1 10 (stepV h w m)) → (portF h w n ((L1 h (stepV h w m) o).map (fun z => [m, z])) = portF h w n ((L1 h (stepV h w m) 0).map (fun z => [m, z]))) → ∀ (H : Heap) (locs : List Loc) (ls : Array Slot), Cu g lo 196 ad G ss ss.heap H locs → lv_has ls 3 [(2, .int (nI o)), (0, .ref (ad (175))), (1, .int (nI n))] → W pp l ee { frames := 4, cells := 0, slots := 0, locals := 94 } ss mm ([.ref (ad (175)), .int (nI n)] : List Value).toArray below meth cc H locs 0 0 (MQ below (va_Qi (fun r F' => ∃ q' o, MC g ad F' c q' sm ∧ Same 175 196 F F' ∧ Scr c c q q' ∧ portF h w n ((L1 h (stepV h w m) 0).map (fun z => [m, z])) = o ∧ r = bI o.isSome ∧ ∀ e, o = some e → ∃ y, e = [m, y] ∧ q' 190 1 = nI y) (fun F' t => Wd g lo 196 ad F' t) (fun q => lo ≤ q)) ([.ref (ad (175)), .int (nI n)] : List Value).toArray ss 0 0 (fun q => lo ≤ q)) (F0 mm 2 ls []) := by
    intro k
    induction k with
    | zero =>
      intro o q1 G hok hM1 hS1 hSc hB1 hres H locs ls hC hl
      refine lv_iload_n B.1 B.2.1 dX9_isPort_2 rfl (lv_at hl 0 rfl) ?_
      refine lv_bipush (v := nI 10) B.1 B.2.1 dX9_isPort_3 (by decide) ?_
      refine lv_aload_n B.1 B.2.1 dX9_isPort_5 rfl (lv_at hl 1 rfl) ?_
      refine r_cg B hC (i := 175) (by decide) hM1.1 (C := RX9) (T := TX9) (n := 35) rfl iwX9_isPort_X9 12 (by decide) (index := 114) flX9_isPort_114 rfl (v := .int (c 12)) rfl dX9_isPort_6 ?_
      refine r_tI (y := nI (hn h)) ((hR.scr hSc).1) ?_
      refine lv_imul B.1 B.2.1 dX9_isPort_9 ?_
      refine r_tI (y := nI (10 * (hn h))) (pk_mul _ _) ?_
      refine lv_icmp_ge (tgt := 76) B.1 B.2.1 dX9_isPort_10 (by decide) (fun _ => ?_) (fun z => absurd (nI_le (by omega) (by omega)) z)
      refine lv_iconst (v := nI 0) B.1 B.2.1 dX9_isPort_76 (by decide) ?_
      exact r_eZ B hC (v := nI 0) (rfl) (⟨q1, none, hM1, hS1, hSc, by rw [L1_stop ok hu (by omega)] at hres; exact hres.symm, rfl, fun e z => by cases z⟩) dX9_isPort_77
    | succ k ih2 =>
      intro o q1 G hok hM1 hS1 hSc hB1 hres H locs ls hC hl
      refine lv_iload_n B.1 B.2.1 dX9_isPort_2 rfl (lv_at hl 0 rfl) ?_
      refine lv_bipush (v := nI 10) B.1 B.2.1 dX9_isPort_3 (by decide) ?_
      refine lv_aload_n B.1 B.2.1 dX9_isPort_5 rfl (lv_at hl 1 rfl) ?_
      refine r_cg B hC (i := 175) (by decide) hM1.1 (C := RX9) (T := TX9) (n := 35) rfl iwX9_isPort_X9 12 (by decide) (index := 114) flX9_isPort_114 rfl (v := .int (c 12)) rfl dX9_isPort_6 ?_
      refine r_tI (y := nI (hn h)) ((hR.scr hSc).1) ?_
      refine lv_imul B.1 B.2.1 dX9_isPort_9 ?_
      refine r_tI (y := nI (10 * (hn h))) (pk_mul _ _) ?_
      refine lv_icmp_ge (tgt := 76) B.1 B.2.1 dX9_isPort_10 (by decide) (fun z => absurd z (nI_ge (by omega) (by omega))) (fun _ => ?_)
      refine lv_aload_n B.1 B.2.1 dX9_isPort_13 rfl (lv_at hl 1 rfl) ?_
      refine lv_bipush (v := nI 10) B.1 B.2.1 dX9_isPort_14 (by decide) ?_
      refine lv_bipush (v := nI 20) B.1 B.2.1 dX9_isPort_16 (by decide) ?_
      refine r_callv B hC hl.1 (175) 9 rfl rfl (by decide) hM1.1 (As := [.int (nI 10), .int (nI 20)]) (ctX9_copy l g lo ad hM1 (a := 10) (b := 20) (by decide) (by decide) (Or.inl (by decide))) gX9_isPort_X9_copy rfl (n := 2) rfl (by decide +kernel) ⟨Nat.le_of_ble_eq_true rfl, Nat.le_of_ble_eq_true rfl⟩ ⟨Nat.zero_le _, Nat.zero_le _⟩ rfl (Nat.le_of_ble_eq_true rfl) dX9_isPort_18 (fun F31 H locs hp18 hC => ?_)
      obtain ⟨q31, hM_F31, hT_F31, hq18⟩ := hp18
      have hS_F31 : Same 175 196 F F31 := Same.tr2 hS1 hT_F31 (by decide) (by decide)
      have hB20 := hq18.bank okn hB1
      refine lv_iload_n B.1 B.2.1 dX9_isPort_21 rfl (lv_at hl 0 rfl) ?_
      refine lv_bipush (v := nI 10) B.1 B.2.1 dX9_isPort_22 (by decide) ?_
      refine lv_irem B.1 B.2.1 dX9_isPort_24 (by decide) ?_
      refine r_tI (y := nI (o % 10)) (pk_rem (by omega) (by omega) (by omega)) ?_
      refine lv_aload_n B.1 B.2.1 dX9_isPort_25 rfl (lv_at hl 1 rfl) ?_
      refine r_cg B hC (i := 175) (by decide) hM_F31.1 (C := RX9) (T := TX9) (n := 35) rfl iwX9_isPort_X9 12 (by decide) (index := 114) flX9_isPort_114 rfl (v := .int (c 12)) rfl dX9_isPort_26 ?_
      refine r_tI (y := nI (hn h)) ((hR.scr hSc).1) ?_
      refine lv_icmp_ge (tgt := 70) B.1 B.2.1 dX9_isPort_29 (by decide) (fun c_29 => ?_) (fun c_29 => ?_)
      · have q_29 : (hn h) ≤ (o % 10) := (nI_leI (by omega) (by omega)).mp c_29
        refine lv_iinc (v := nI (o + 1)) (lv' := [(2, .int (nI (o + 1))), (0, .ref (ad (175))), (1, .int (nI n))]) B.1 B.2.1 dX9_isPort_70 hl (k := 0) rfl (nI_1 _) (by decide) rfl (fun ls hl => ?_)
        refine lv_goto (tgt := 2) B.1 B.2.1 dX9_isPort_73 (by decide) ?_
        exact ih2 (o + 1) q31 F31 (by omega) hM_F31 hS_F31 (hSc.qs hq18.1 (by decide)) (hB1.qs hq18.1 okn (Or.inl (by decide))) (by rw [← L1_no (by omega) (mayM_wide q_29)]; exact hres) _ _ ls hC (lv_sub hl [0, 1, 2] rfl)
      · have q_29 : ¬ (hn h) ≤ (o % 10) := fun z => c_29 ((nI_leI (by omega) (by omega)).mpr z)
        refine lv_aload_n B.1 B.2.1 dX9_isPort_32 rfl (lv_at hl 1 rfl) ?_
        refine lv_bipush (v := nI 20) B.1 B.2.1 dX9_isPort_33 (by decide) ?_
        refine lv_iload_n B.1 B.2.1 dX9_isPort_35 rfl (lv_at hl 0 rfl) ?_
        refine lv_bipush (v := nI 10) B.1 B.2.1 dX9_isPort_36 (by decide) ?_
        refine lv_idiv B.1 B.2.1 dX9_isPort_38 (by decide) ?_
        refine r_tI (y := nI (o / 10)) (pk_div (by omega) (by omega) (by omega)) ?_
        refine lv_iload_n B.1 B.2.1 dX9_isPort_39 rfl (lv_at hl 0 rfl) ?_
        refine lv_bipush (v := nI 10) B.1 B.2.1 dX9_isPort_40 (by decide) ?_
        refine lv_irem B.1 B.2.1 dX9_isPort_42 (by decide) ?_
        refine r_tI (y := nI (o % 10)) (pk_rem (by omega) (by omega) (by omega)) ?_
        refine r_calli B hC hl.1 (175) 9 rfl rfl (by decide) hM_F31.1 (As := [.int (nI 20), .int (nI (o / 10)), .int (nI (o % 10))]) (ctX9_goes l g lo ad hM_F31 ok ((hR.scr hSc).qs (hq18.1)) (b := 20) (by decide) hB20 hu (t := o / 10) (p := o % 10) (by omega) (by omega)) gX9_isPort_X9_goes rfl (n := 3) rfl (by decide +kernel) ⟨Nat.le_of_ble_eq_true rfl, Nat.le_of_ble_eq_true rfl⟩ ⟨Nat.zero_le _, Nat.zero_le _⟩ rfl (Nat.le_of_ble_eq_true rfl) dX9_isPort_43 (fun r43 F32 H locs hp43 hC => ?_)
        obtain ⟨q32, hM_F32, hT_F32, hq43, hr43, hbk43⟩ := hp43
        have hS_F32 : Same 175 196 F F32 := Same.tr2 hS_F31 hT_F32 (by decide) (by decide)
        refine r_tI (y := bI (mayM h (stepV h w m) o)) (hr43) ?_
        refine lv_if_eq (tgt := 70) B.1 B.2.1 dX9_isPort_46 (by decide) (fun c_46 => ?_) (fun c_46 => ?_)
        · have q_46 : mayM h (stepV h w m) o = false := bI_f.mp c_46
          refine lv_iinc (v := nI (o + 1)) (lv' := [(2, .int (nI (o + 1))), (0, .ref (ad (175))), (1, .int (nI n))]) B.1 B.2.1 dX9_isPort_70 hl (k := 0) rfl (nI_1 _) (by decide) rfl (fun ls hl => ?_)
          refine lv_goto (tgt := 2) B.1 B.2.1 dX9_isPort_73 (by decide) ?_
          exact ih2 (o + 1) q32 F32 (by omega) hM_F32 hS_F32 ((hSc.qs hq18.1 (by decide)).qs hq43 (by decide)) ((hB1.qs hq18.1 okn (Or.inl (by decide))).qs hq43 okn (Or.inl (by decide))) (by rw [← L1_no (by omega) q_46]; exact hres) _ _ ls hC (lv_sub hl [0, 1, 2] rfl)
        · have q_46 : mayM h (stepV h w m) o = true := bI_t.mp c_46
          have hb1 : BankR h q32 20 (stepV h (stepV h w m) o) := by have z := hbk43; rw [show mayV h (stepV h w m) (o / 10) (o % 10) = true from q_46, if_pos rfl] at z; exact z
          have hu1 : LOK h (stepV h (stepV h w m) o) := LOK_step ok hu (by omega) q_46
          refine lv_aload_n B.1 B.2.1 dX9_isPort_49 rfl (lv_at hl 1 rfl) ?_
          refine lv_bipush (v := nI 20) B.1 B.2.1 dX9_isPort_50 (by decide) ?_
          refine lv_bipush (v := nI 50) B.1 B.2.1 dX9_isPort_52 (by decide) ?_
          refine r_calli B hC hl.1 (175) 9 rfl rfl (by decide) hM_F32.1 (As := [.int (nI 20), .int (nI 50)]) (ctX9_floatsOf l g lo ad hM_F32 ok (((hR.scr hSc).qs (hq18.1)).qs (hq43)) (a := 20) (b := 50) (w := stepV h (stepV h w m) o) (by decide) (by decide) (Or.inl (by decide)) hb1 hu1 hwa hsu) gX9_isPort_X9_floatsOf rfl (n := 2) rfl (by decide +kernel) ⟨Nat.le_of_ble_eq_true rfl, Nat.le_of_ble_eq_true rfl⟩ ⟨Nat.zero_le _, Nat.zero_le _⟩ rfl (Nat.le_of_ble_eq_true rfl) dX9_isPort_54 (fun r54 F33 H locs hp54 hC => ?_)
          obtain ⟨q33, hM_F33, hT_F33, hq54, hr54⟩ := hp54
          have hS_F33 : Same 175 196 F F33 := Same.tr2 hS_F32 hT_F33 (by decide) (by decide)
          have hf54 := floatsV_le h (stepV h (stepV h w m) o)
          refine r_tI (y := nI (floatsV h (stepV h (stepV h w m) o))) (hr54) ?_
          refine lv_iload_n B.1 B.2.1 dX9_isPort_57 rfl (lv_at hl 2 rfl) ?_
          refine lv_icmp_lt (tgt := 70) B.1 B.2.1 dX9_isPort_58 (by decide) (fun c_58 => ?_) (fun c_58 => ?_)
          · have q_58 : (floatsV h (stepV h (stepV h w m) o)) < n := (nI_ltI (by omega) (by omega)).mp c_58
            refine lv_iinc (v := nI (o + 1)) (lv' := [(2, .int (nI (o + 1))), (0, .ref (ad (175))), (1, .int (nI n))]) B.1 B.2.1 dX9_isPort_70 hl (k := 0) rfl (nI_1 _) (by decide) rfl (fun ls hl => ?_)
            refine lv_goto (tgt := 2) B.1 B.2.1 dX9_isPort_73 (by decide) ?_
            exact ih2 (o + 1) q33 F33 (by omega) hM_F33 hS_F33 (((hSc.qs hq18.1 (by decide)).qs hq43 (by decide)).qs hq54 (by decide)) (((hB1.qs hq18.1 okn (Or.inl (by decide))).qs hq43 okn (Or.inl (by decide))).qs hq54 okn (Or.inl (by decide))) (by rw [map_c (L1_yes (by omega) q_46), portF_no (e := [m, o]) q_58] at hres; exact hres) _ _ ls hC (lv_sub hl [0, 1, 2] rfl)
          · have q_58 : ¬ (floatsV h (stepV h (stepV h w m) o)) < n := fun z => c_58 ((nI_ltI (by omega) (by omega)).mpr z)
            refine lv_aload_n B.1 B.2.1 dX9_isPort_61 rfl (lv_at hl 1 rfl) ?_
            refine r_cg B hC (i := 175) (by decide) hM_F33.1 (C := RX9) (T := TX9) (n := 35) rfl iwX9_isPort_X9 27 (by decide) (index := 52) flX9_isPort_52 rfl (v := .ref (ad (190))) rfl dX9_isPort_62 ?_
            refine lv_iconst (v := nI 1) B.1 B.2.1 dX9_isPort_65 (by decide) ?_
            refine lv_iload_n B.1 B.2.1 dX9_isPort_66 rfl (lv_at hl 0 rfl) ?_
            refine r_cast B hC (i := 190) (by decide) hM_F33.c190 (j := 1) (by omega) (by decide) dX9_isPort_67 ?_
            intro H locs hC
            obtain ⟨F34, eF34⟩ : ∃ f : Nat → va_E, f = va_up F33 190 (.inl (g.2.2 0, 3, .inl (upd (q33 190) (1) (nI o)))) := ⟨_, rfl⟩
            have hC : Cu g lo 196 ad F34 ss ss.heap H locs := by rw [eF34]; exact hC
            obtain ⟨q34, eq34⟩ : ∃ f, f = va_up q33 190 (upd (q33 190) (1) (nI o)) := ⟨_, rfl⟩
            have hM_F34 : MC g ad F34 c q34 sm := by rw [eq34]; exact hM_F33.arr (by decide) (by decide) (by decide) (by decide) (by decide) eF34
            have hR_F34 : HullR h c q34 := by rw [eq34]; exact ((((hR.scr hSc).qs (hq18.1)).qs (hq43)).qs (hq54)).upq (by decide)
            have hS_F34 : Same 175 196 F F34 := by rw [eF34]; exact hS_F33.up (by decide) (by decide)
            refine lv_iconst (v := nI 1) B.1 B.2.1 dX9_isPort_68 (by decide) ?_
            exact r_eZ B hC (v := nI 1) (rfl) (⟨_, some [m, o], hM_F34, hS_F34, (((hSc.qs hq18.1 (by decide)).qs hq43 (by decide)).qs hq54 (by decide)).uf eq34 (by decide), by rw [map_c (L1_yes (by omega) q_46), portF_yes (e := [m, o]) q_58] at hres; exact hres.symm, rfl, fun e z => by cases z; exact ⟨o, rfl, by rw [eq34, va_up_self]; rfl⟩⟩) dX9_isPort_69
  exact loop2 (10 * hn h) 0 q F (by omega) hM hS Scr.rf hB rfl _ _ ls hC (lv_sub hl [0, 1, 2] rfl)
theorem iwX9_layPort_X9 : ∀ w ∈ u_ws RX9 TX9 35, w ∈ wsX9_layPort := by decide +kernel
theorem flX9_layPort_52 : Cond.fieldLink RX9 52 RX9 (TX9 27).2.1 (TX9 27).2.2.1 ∈ wsX9_layPort := by decide +kernel
theorem flX9_layPort_114 : Cond.fieldLink RX9 114 RX9 (TX9 12).2.1 (TX9 12).2.2.1 ∈ wsX9_layPort := by decide +kernel
set_option maxHeartbeats 4000000 in
set_option maxRecDepth 100000 in
theorem ctX9_layPort (l : Launch) (g : Gx) (lo : Nat) (ad : Nat → Nat) {F : Nat → va_E} {c : Nat → Int32} {q : Nat → Nat → Int32} {sm : Nat → Int64} (hM : MC g ad F c q sm) {h : HV} {w : LV} (ok : HOK h) (hR : HullR h c q) (hB : BankR h q 0 w) (hw : LOK h w) (hwa : c 22 = nI (wa w)) (hsu : c 23 = bI (su w)) {n : Nat} (hn1 : 1 ≤ n) (hn99 : n ≤ 99) : MI l g lo 196 ad yX9_layPort wsX9_layPort 5 116 [.ref (ad (175)), .int (nI n)] F (fun r F' => ∃ q', MC g ad F' c q' sm ∧ Same 175 196 F F' ∧ Scr c c q q' ∧ r = oI ((portV h w n).map List.length) ∧ PortR q' (portV h w n)) := by
  have okn := ok.1
  have okp := ok.2.1
  have okh := ok.2.2.1
  have hS : Same 175 196 F F := Same.rf
  refine enter (cc := cX9_layPort) (maxL := 3) (ret := some .int) (own := RX9) (by decide +kernel) rfl rfl (Nat.le_of_ble_eq_true rfl) ?_
  intro pp ee ss mm below meth cc B hini hC ls hl
  have hl : lv_has ls 3 [(0, .ref (ad (175))), (1, .int (nI n))] := hl
  refine lv_aload_n B.1 B.2.1 dX9_layPort_0 rfl (lv_at hl 0 rfl) ?_
  refine lv_iconst (v := nI 0) B.1 B.2.1 dX9_layPort_1 (by decide) ?_
  refine lv_bipush (v := nI 50) B.1 B.2.1 dX9_layPort_2 (by decide) ?_
  refine r_calli B hC hl.1 (175) 9 rfl rfl (by decide) hM.1 (As := [.int (nI 0), .int (nI 50)]) (ctX9_floatsOf l g lo ad hM ok hR (a := 0) (b := 50) (w := w) (by decide) (by decide) (Or.inl (by decide)) hB hw hwa hsu) gX9_layPort_X9_floatsOf rfl (n := 2) rfl (by decide +kernel) ⟨Nat.le_of_ble_eq_true rfl, Nat.le_of_ble_eq_true rfl⟩ ⟨Nat.zero_le _, Nat.zero_le _⟩ rfl (Nat.le_of_ble_eq_true rfl) dX9_layPort_4 (fun r4 F1 H locs hp4 hC => ?_)
  obtain ⟨q1, hM_F1, hT_F1, hq4, hr4⟩ := hp4
  have hS_F1 : Same 175 196 F F1 := Same.tr2 hS hT_F1 (by decide) (by decide)
  have hf4 := floatsV_le h w
  refine r_tI (y := nI (floatsV h w)) (hr4) ?_
  refine lv_iload_n B.1 B.2.1 dX9_layPort_7 rfl (lv_at hl 1 rfl) ?_
  refine lv_icmp_lt (tgt := 13) B.1 B.2.1 dX9_layPort_8 (by decide) (fun c_8 => ?_) (fun c_8 => ?_)
  · have q_8 : (floatsV h w) < n := (nI_ltI (by omega) (by omega)).mp c_8
    refine lv_iconst (v := nI 0) B.1 B.2.1 dX9_layPort_13 (by decide) ?_
    refine lv_istore_n (lv' := [(2, .int (nI 0)), (0, .ref (ad (175))), (1, .int (nI n))]) B.1 B.2.1 dX9_layPort_14 rfl hl (by decide) rfl (fun ls hl => ?_)
    have loop15 : ∀ (k : Nat) (m : Nat) (q1 : Nat → Nat → Int32) (G : Nat → va_E), (m + k = 10 * hn h) → (MC g ad G c q1 sm) → (Same 175 196 F G) → (Scr c c q q1) → (portF h w n ((L1 h w m).map (fun z => [z])) = portF h w n ((L1 h w 0).map (fun z => [z]))) → ∀ (H : Heap) (locs : List Loc) (ls : Array Slot), Cu g lo 196 ad G ss ss.heap H locs → lv_has ls 3 [(2, .int (nI m)), (0, .ref (ad (175))), (1, .int (nI n))] → W pp l ee { frames := 5, cells := 0, slots := 0, locals := 116 } ss mm ([.ref (ad (175)), .int (nI n)] : List Value).toArray below meth cc H locs 0 0 (MQ below (va_Qi (fun r F' => ∃ q', MC g ad F' c q' sm ∧ Same 175 196 F F' ∧ Scr c c q q' ∧ r = oI ((portV h w n).map List.length) ∧ PortR q' (portV h w n)) (fun F' t => Wd g lo 196 ad F' t) (fun q => lo ≤ q)) ([.ref (ad (175)), .int (nI n)] : List Value).toArray ss 0 0 (fun q => lo ≤ q)) (F0 mm 15 ls []) := by
      intro k
      induction k with
      | zero =>
        intro m q1 G hmk hM1 hS1 hSc hres H locs ls hC hl
        have hB1 : BankR h q1 0 w := hB.scr hSc okn
        refine lv_iload_n B.1 B.2.1 dX9_layPort_15 rfl (lv_at hl 0 rfl) ?_
        refine lv_bipush (v := nI 10) B.1 B.2.1 dX9_layPort_16 (by decide) ?_
        refine lv_aload_n B.1 B.2.1 dX9_layPort_18 rfl (lv_at hl 1 rfl) ?_
        refine r_cg B hC (i := 175) (by decide) hM1.1 (C := RX9) (T := TX9) (n := 35) rfl iwX9_layPort_X9 12 (by decide) (index := 114) flX9_layPort_114 rfl (v := .int (c 12)) rfl dX9_layPort_19 ?_
        refine r_tI (y := nI (hn h)) ((hR.scr hSc).1) ?_
        refine lv_imul B.1 B.2.1 dX9_layPort_22 ?_
        refine r_tI (y := nI (10 * (hn h))) (pk_mul _ _) ?_
        refine lv_icmp_ge (tgt := 88) B.1 B.2.1 dX9_layPort_23 (by decide) (fun _ => ?_) (fun z => absurd (nI_le (by omega) (by omega)) z)
        have hp1 : portF h w n ((L1 h w 0).map (fun z => [z])) = none := by rw [← hres, L1_stop ok hw (show 10 * hn h ≤ m by omega)]; rfl
        refine lv_iconst (v := nI 0) B.1 B.2.1 dX9_layPort_88 (by decide) ?_
        refine lv_istore_n (lv' := [(2, .int (nI 0)), (0, .ref (ad (175))), (1, .int (nI n))]) B.1 B.2.1 dX9_layPort_89 rfl hl (by decide) rfl (fun ls hl => ?_)
        have loop90 : ∀ (k : Nat) (m : Nat) (q1 : Nat → Nat → Int32) (G : Nat → va_E), (m + k = 10 * hn h) → (MC g ad G c q1 sm) → (Same 175 196 F G) → (Scr c c q q1) → (portF h w n (L2 h w m) = portF h w n (L2 h w 0)) → ∀ (H : Heap) (locs : List Loc) (ls : Array Slot), Cu g lo 196 ad G ss ss.heap H locs → lv_has ls 3 [(2, .int (nI m)), (0, .ref (ad (175))), (1, .int (nI n))] → W pp l ee { frames := 5, cells := 0, slots := 0, locals := 116 } ss mm ([.ref (ad (175)), .int (nI n)] : List Value).toArray below meth cc H locs 0 0 (MQ below (va_Qi (fun r F' => ∃ q', MC g ad F' c q' sm ∧ Same 175 196 F F' ∧ Scr c c q q' ∧ r = oI ((portV h w n).map List.length) ∧ PortR q' (portV h w n)) (fun F' t => Wd g lo 196 ad F' t) (fun q => lo ≤ q)) ([.ref (ad (175)), .int (nI n)] : List Value).toArray ss 0 0 (fun q => lo ≤ q)) (F0 mm 90 ls []) := by
          intro k
          induction k with
          | zero =>
            intro m q1 G hmk hM1 hS1 hSc hres H locs ls hC hl
            have hB1 : BankR h q1 0 w := hB.scr hSc okn
            refine lv_iload_n B.1 B.2.1 dX9_layPort_90 rfl (lv_at hl 0 rfl) ?_
            refine lv_bipush (v := nI 10) B.1 B.2.1 dX9_layPort_91 (by decide) ?_
            refine lv_aload_n B.1 B.2.1 dX9_layPort_93 rfl (lv_at hl 1 rfl) ?_
            refine r_cg B hC (i := 175) (by decide) hM1.1 (C := RX9) (T := TX9) (n := 35) rfl iwX9_layPort_X9 12 (by decide) (index := 114) flX9_layPort_114 rfl (v := .int (c 12)) rfl dX9_layPort_94 ?_
            refine r_tI (y := nI (hn h)) ((hR.scr hSc).1) ?_
            refine lv_imul B.1 B.2.1 dX9_layPort_97 ?_
            refine r_tI (y := nI (10 * (hn h))) (pk_mul _ _) ?_
            refine lv_icmp_ge (tgt := 159) B.1 B.2.1 dX9_layPort_98 (by decide) (fun _ => ?_) (fun z => absurd (nI_le (by omega) (by omega)) z)
            refine lv_bipush (v := (-9)) B.1 B.2.1 dX9_layPort_159 (by decide) ?_
            exact r_eI B hC (v := (-9)) (⟨_, hM1, hS1, hSc, by rw [(show portV h w n = none from (port_2 q_8 hp1).trans (by rw [← hres, L2_stop ok hw (show 10 * hn h ≤ m by omega)]; rfl))]; rfl, PortR.n (show portV h w n = none from (port_2 q_8 hp1).trans (by rw [← hres, L2_stop ok hw (show 10 * hn h ≤ m by omega)]; rfl))⟩) dX9_layPort_161
          | succ k ih90 =>
            intro m q1 G hmk hM1 hS1 hSc hres H locs ls hC hl
            have hB1 : BankR h q1 0 w := hB.scr hSc okn
            refine lv_iload_n B.1 B.2.1 dX9_layPort_90 rfl (lv_at hl 0 rfl) ?_
            refine lv_bipush (v := nI 10) B.1 B.2.1 dX9_layPort_91 (by decide) ?_
            refine lv_aload_n B.1 B.2.1 dX9_layPort_93 rfl (lv_at hl 1 rfl) ?_
            refine r_cg B hC (i := 175) (by decide) hM1.1 (C := RX9) (T := TX9) (n := 35) rfl iwX9_layPort_X9 12 (by decide) (index := 114) flX9_layPort_114 rfl (v := .int (c 12)) rfl dX9_layPort_94 ?_
            refine r_tI (y := nI (hn h)) ((hR.scr hSc).1) ?_
            refine lv_imul B.1 B.2.1 dX9_layPort_97 ?_
            refine r_tI (y := nI (10 * (hn h))) (pk_mul _ _) ?_
            refine lv_icmp_ge (tgt := 159) B.1 B.2.1 dX9_layPort_98 (by decide) (fun z => absurd z (nI_ge (by omega) (by omega))) (fun _ => ?_)
            refine lv_aload_n B.1 B.2.1 dX9_layPort_101 rfl (lv_at hl 1 rfl) ?_
            refine lv_iconst (v := nI 0) B.1 B.2.1 dX9_layPort_102 (by decide) ?_
            refine lv_bipush (v := nI 10) B.1 B.2.1 dX9_layPort_103 (by decide) ?_
            refine r_callv B hC hl.1 (175) 9 rfl rfl (by decide) hM1.1 (As := [.int (nI 0), .int (nI 10)]) (ctX9_copy l g lo ad hM1 (a := 0) (b := 10) (by decide) (by decide) (Or.inl (by decide))) gX9_layPort_X9_copy rfl (n := 2) rfl (by decide +kernel) ⟨Nat.le_of_ble_eq_true rfl, Nat.le_of_ble_eq_true rfl⟩ ⟨Nat.zero_le _, Nat.zero_le _⟩ rfl (Nat.le_of_ble_eq_true rfl) dX9_layPort_105 (fun F61 H locs hp105 hC => ?_)
            obtain ⟨q61, hM_F61, hT_F61, hq105⟩ := hp105
            have hS_F61 : Same 175 196 F F61 := Same.tr2 hS1 hT_F61 (by decide) (by decide)
            have hB10 := hq105.bank okn hB1
            refine lv_iload_n B.1 B.2.1 dX9_layPort_108 rfl (lv_at hl 0 rfl) ?_
            refine lv_bipush (v := nI 10) B.1 B.2.1 dX9_layPort_109 (by decide) ?_
            refine lv_irem B.1 B.2.1 dX9_layPort_111 (by decide) ?_
            refine r_tI (y := nI (m % 10)) (pk_rem (by omega) (by omega) (by omega)) ?_
            refine lv_aload_n B.1 B.2.1 dX9_layPort_112 rfl (lv_at hl 1 rfl) ?_
            refine r_cg B hC (i := 175) (by decide) hM_F61.1 (C := RX9) (T := TX9) (n := 35) rfl iwX9_layPort_X9 12 (by decide) (index := 114) flX9_layPort_114 rfl (v := .int (c 12)) rfl dX9_layPort_113 ?_
            refine r_tI (y := nI (hn h)) ((hR.scr hSc).1) ?_
            refine lv_icmp_ge (tgt := 153) B.1 B.2.1 dX9_layPort_116 (by decide) (fun c_116 => ?_) (fun c_116 => ?_)
            · have q_116 : (hn h) ≤ (m % 10) := (nI_leI (by omega) (by omega)).mp c_116
              refine lv_iinc (v := nI (m + 1)) (lv' := [(2, .int (nI (m + 1))), (0, .ref (ad (175))), (1, .int (nI n))]) B.1 B.2.1 dX9_layPort_153 hl (k := 0) rfl (nI_1 _) (by decide) rfl (fun ls hl => ?_)
              refine lv_goto (tgt := 90) B.1 B.2.1 dX9_layPort_156 (by decide) ?_
              exact ih90 (m + 1) q61 F61 (by omega) hM_F61 hS_F61 (hSc.qs hq105.1 (by decide)) (by rw [← L2_no (by omega) (mayM_wide q_116)]; exact hres) _ _ ls hC (lv_sub hl [0, 1, 2] rfl)
            · have q_116 : ¬ (hn h) ≤ (m % 10) := fun z => c_116 ((nI_leI (by omega) (by omega)).mpr z)
              refine lv_aload_n B.1 B.2.1 dX9_layPort_119 rfl (lv_at hl 1 rfl) ?_
              refine lv_bipush (v := nI 10) B.1 B.2.1 dX9_layPort_120 (by decide) ?_
              refine lv_iload_n B.1 B.2.1 dX9_layPort_122 rfl (lv_at hl 0 rfl) ?_
              refine lv_bipush (v := nI 10) B.1 B.2.1 dX9_layPort_123 (by decide) ?_
              refine lv_idiv B.1 B.2.1 dX9_layPort_125 (by decide) ?_
              refine r_tI (y := nI (m / 10)) (pk_div (by omega) (by omega) (by omega)) ?_
              refine lv_iload_n B.1 B.2.1 dX9_layPort_126 rfl (lv_at hl 0 rfl) ?_
              refine lv_bipush (v := nI 10) B.1 B.2.1 dX9_layPort_127 (by decide) ?_
              refine lv_irem B.1 B.2.1 dX9_layPort_129 (by decide) ?_
              refine r_tI (y := nI (m % 10)) (pk_rem (by omega) (by omega) (by omega)) ?_
              refine r_calli B hC hl.1 (175) 9 rfl rfl (by decide) hM_F61.1 (As := [.int (nI 10), .int (nI (m / 10)), .int (nI (m % 10))]) (ctX9_goes l g lo ad hM_F61 ok ((hR.scr hSc).qs (hq105.1)) (b := 10) (by decide) hB10 hw (t := m / 10) (p := m % 10) (by omega) (by omega)) gX9_layPort_X9_goes rfl (n := 3) rfl (by decide +kernel) ⟨Nat.le_of_ble_eq_true rfl, Nat.le_of_ble_eq_true rfl⟩ ⟨Nat.zero_le _, Nat.zero_le _⟩ rfl (Nat.le_of_ble_eq_true rfl) dX9_layPort_130 (fun r130 F62 H locs hp130 hC => ?_)
              obtain ⟨q62, hM_F62, hT_F62, hq130, hr130, hbk130⟩ := hp130
              have hS_F62 : Same 175 196 F F62 := Same.tr2 hS_F61 hT_F62 (by decide) (by decide)
              refine r_tI (y := bI (mayM h w m)) (hr130) ?_
              refine lv_if_eq (tgt := 153) B.1 B.2.1 dX9_layPort_133 (by decide) (fun c_133 => ?_) (fun c_133 => ?_)
              · have q_133 : mayM h w m = false := bI_f.mp c_133
                refine lv_iinc (v := nI (m + 1)) (lv' := [(2, .int (nI (m + 1))), (0, .ref (ad (175))), (1, .int (nI n))]) B.1 B.2.1 dX9_layPort_153 hl (k := 0) rfl (nI_1 _) (by decide) rfl (fun ls hl => ?_)
                refine lv_goto (tgt := 90) B.1 B.2.1 dX9_layPort_156 (by decide) ?_
                exact ih90 (m + 1) q62 F62 (by omega) hM_F62 hS_F62 ((hSc.qs hq105.1 (by decide)).qs hq130 (by decide)) (by rw [← L2_no (by omega) q_133]; exact hres) _ _ ls hC (lv_sub hl [0, 1, 2] rfl)
              · have q_133 : mayM h w m = true := bI_t.mp c_133
                have hb1 : BankR h q62 10 (stepV h w m) := by have z := hbk130; rw [show mayV h w (m / 10) (m % 10) = true from q_133, if_pos rfl] at z; exact z
                have hu1 : LOK h (stepV h w m) := LOK_step ok hw (by omega) q_133
                refine lv_aload_n B.1 B.2.1 dX9_layPort_136 rfl (lv_at hl 1 rfl) ?_
                refine lv_iload_n B.1 B.2.1 dX9_layPort_137 rfl (lv_at hl 2 rfl) ?_
                refine r_calli B hC hl.1 (175) 9 rfl rfl (by decide) hM_F62.1 (As := [.int (nI n)]) (ctX9_isPort l g lo ad hM_F62 ok (((hR.scr hSc).qs (hq105.1)).qs (hq130)) (w := w) (m := m) (by omega) hb1 hu1 hwa hsu hn1 hn99) gX9_layPort_X9_isPort rfl (n := 1) rfl (by decide +kernel) ⟨Nat.le_of_ble_eq_true rfl, Nat.le_of_ble_eq_true rfl⟩ ⟨Nat.zero_le _, Nat.zero_le _⟩ rfl (Nat.le_of_ble_eq_true rfl) dX9_layPort_138 (fun r138 F63 H locs hp138 hC => ?_)
                obtain ⟨q63, o, hM_F63, hT_F63, hz138, ho138, hr138, he138⟩ := hp138
                have hS_F63 : Same 175 196 F F63 := Same.tr2 hS_F62 hT_F63 (by decide) (by decide)
                refine r_tI (y := bI o.isSome) hr138 ?_
                refine lv_if_eq (tgt := 153) B.1 B.2.1 dX9_layPort_141 (by decide) (fun c_141 => ?_) (fun c_141 => ?_)
                · have q_141 : o = none := by have z := bI_f.mp c_141; cases o with | none => rfl | some e => cases z
                  refine lv_iinc (v := nI (m + 1)) (lv' := [(2, .int (nI (m + 1))), (0, .ref (ad (175))), (1, .int (nI n))]) B.1 B.2.1 dX9_layPort_153 hl (k := 0) rfl (nI_1 _) (by decide) rfl (fun ls hl => ?_)
                  refine lv_goto (tgt := 90) B.1 B.2.1 dX9_layPort_156 (by decide) ?_
                  exact ih90 (m + 1) q63 F63 (by omega) hM_F63 hS_F63 (((hSc.qs hq105.1 (by decide)).qs hq130 (by decide)).tr hz138) (by rw [L2_yes (by omega) q_133, portF_app, ho138, q_141] at hres; exact hres) _ _ ls hC (lv_sub hl [0, 1, 2] rfl)
                · obtain ⟨e0, q_141⟩ : ∃ e0, o = some e0 := by have z := bI_t.mp c_141; cases o with | none => cases z | some e => exact ⟨e, rfl⟩
                  obtain ⟨y, rfl, hy⟩ := he138 e0 q_141
                  rw [q_141] at ho138
                  refine lv_aload_n B.1 B.2.1 dX9_layPort_144 rfl (lv_at hl 1 rfl) ?_
                  refine r_cg B hC (i := 175) (by decide) hM_F63.1 (C := RX9) (T := TX9) (n := 35) rfl iwX9_layPort_X9 27 (by decide) (index := 52) flX9_layPort_52 rfl (v := .ref (ad (190))) rfl dX9_layPort_145 ?_
                  refine lv_iconst (v := nI 0) B.1 B.2.1 dX9_layPort_148 (by decide) ?_
                  refine lv_iload_n B.1 B.2.1 dX9_layPort_149 rfl (lv_at hl 0 rfl) ?_
                  refine r_cast B hC (i := 190) (by decide) hM_F63.c190 (j := 0) (by omega) (by decide) dX9_layPort_150 ?_
                  intro H locs hC
                  obtain ⟨F64, eF64⟩ : ∃ f : Nat → va_E, f = va_up F63 190 (.inl (g.2.2 0, 3, .inl (upd (q63 190) (0) (nI m)))) := ⟨_, rfl⟩
                  have hC : Cu g lo 196 ad F64 ss ss.heap H locs := by rw [eF64]; exact hC
                  obtain ⟨q64, eq64⟩ : ∃ f, f = va_up q63 190 (upd (q63 190) (0) (nI m)) := ⟨_, rfl⟩
                  have hM_F64 : MC g ad F64 c q64 sm := by rw [eq64]; exact hM_F63.arr (by decide) (by decide) (by decide) (by decide) (by decide) eF64
                  have hS_F64 : Same 175 196 F F64 := by rw [eF64]; exact hS_F63.up (by decide) (by decide)
                  refine lv_iconst (v := nI 2) B.1 B.2.1 dX9_layPort_151 (by decide) ?_
                  exact r_eI B hC (v := nI 2) (⟨_, hM_F64, hS_F64, (((hSc.qs hq105.1 (by decide)).qs hq130 (by decide)).tr hz138).uf eq64 (by decide), by rw [((port_2 q_8 hp1).trans (by rw [← hres, L2_yes (by omega) q_133, portF_app, ho138]))]; rfl, PortR.two ((port_2 q_8 hp1).trans (by rw [← hres, L2_yes (by omega) q_133, portF_app, ho138])) eq64 hy⟩) dX9_layPort_152
        exact loop90 (10 * hn h) 0 q1 G (by omega) hM1 hS1 hSc rfl _ _ ls hC (lv_sub hl [0, 1, 2] rfl)
      | succ k ih15 =>
        intro m q1 G hmk hM1 hS1 hSc hres H locs ls hC hl
        have hB1 : BankR h q1 0 w := hB.scr hSc okn
        refine lv_iload_n B.1 B.2.1 dX9_layPort_15 rfl (lv_at hl 0 rfl) ?_
        refine lv_bipush (v := nI 10) B.1 B.2.1 dX9_layPort_16 (by decide) ?_
        refine lv_aload_n B.1 B.2.1 dX9_layPort_18 rfl (lv_at hl 1 rfl) ?_
        refine r_cg B hC (i := 175) (by decide) hM1.1 (C := RX9) (T := TX9) (n := 35) rfl iwX9_layPort_X9 12 (by decide) (index := 114) flX9_layPort_114 rfl (v := .int (c 12)) rfl dX9_layPort_19 ?_
        refine r_tI (y := nI (hn h)) ((hR.scr hSc).1) ?_
        refine lv_imul B.1 B.2.1 dX9_layPort_22 ?_
        refine r_tI (y := nI (10 * (hn h))) (pk_mul _ _) ?_
        refine lv_icmp_ge (tgt := 88) B.1 B.2.1 dX9_layPort_23 (by decide) (fun z => absurd z (nI_ge (by omega) (by omega))) (fun _ => ?_)
        refine lv_aload_n B.1 B.2.1 dX9_layPort_26 rfl (lv_at hl 1 rfl) ?_
        refine lv_iconst (v := nI 0) B.1 B.2.1 dX9_layPort_27 (by decide) ?_
        refine lv_bipush (v := nI 10) B.1 B.2.1 dX9_layPort_28 (by decide) ?_
        refine r_callv B hC hl.1 (175) 9 rfl rfl (by decide) hM1.1 (As := [.int (nI 0), .int (nI 10)]) (ctX9_copy l g lo ad hM1 (a := 0) (b := 10) (by decide) (by decide) (Or.inl (by decide))) gX9_layPort_X9_copy rfl (n := 2) rfl (by decide +kernel) ⟨Nat.le_of_ble_eq_true rfl, Nat.le_of_ble_eq_true rfl⟩ ⟨Nat.zero_le _, Nat.zero_le _⟩ rfl (Nat.le_of_ble_eq_true rfl) dX9_layPort_30 (fun F31 H locs hp30 hC => ?_)
        obtain ⟨q31, hM_F31, hT_F31, hq30⟩ := hp30
        have hS_F31 : Same 175 196 F F31 := Same.tr2 hS1 hT_F31 (by decide) (by decide)
        have hB10 := hq30.bank okn hB1
        refine lv_iload_n B.1 B.2.1 dX9_layPort_33 rfl (lv_at hl 0 rfl) ?_
        refine lv_bipush (v := nI 10) B.1 B.2.1 dX9_layPort_34 (by decide) ?_
        refine lv_irem B.1 B.2.1 dX9_layPort_36 (by decide) ?_
        refine r_tI (y := nI (m % 10)) (pk_rem (by omega) (by omega) (by omega)) ?_
        refine lv_aload_n B.1 B.2.1 dX9_layPort_37 rfl (lv_at hl 1 rfl) ?_
        refine r_cg B hC (i := 175) (by decide) hM_F31.1 (C := RX9) (T := TX9) (n := 35) rfl iwX9_layPort_X9 12 (by decide) (index := 114) flX9_layPort_114 rfl (v := .int (c 12)) rfl dX9_layPort_38 ?_
        refine r_tI (y := nI (hn h)) ((hR.scr hSc).1) ?_
        refine lv_icmp_ge (tgt := 82) B.1 B.2.1 dX9_layPort_41 (by decide) (fun c_41 => ?_) (fun c_41 => ?_)
        · have q_41 : (hn h) ≤ (m % 10) := (nI_leI (by omega) (by omega)).mp c_41
          refine lv_iinc (v := nI (m + 1)) (lv' := [(2, .int (nI (m + 1))), (0, .ref (ad (175))), (1, .int (nI n))]) B.1 B.2.1 dX9_layPort_82 hl (k := 0) rfl (nI_1 _) (by decide) rfl (fun ls hl => ?_)
          refine lv_goto (tgt := 15) B.1 B.2.1 dX9_layPort_85 (by decide) ?_
          exact ih15 (m + 1) q31 F31 (by omega) hM_F31 hS_F31 (hSc.qs hq30.1 (by decide)) (by rw [← L1_no (by omega) (mayM_wide q_41)]; exact hres) _ _ ls hC (lv_sub hl [0, 1, 2] rfl)
        · have q_41 : ¬ (hn h) ≤ (m % 10) := fun z => c_41 ((nI_leI (by omega) (by omega)).mpr z)
          refine lv_aload_n B.1 B.2.1 dX9_layPort_44 rfl (lv_at hl 1 rfl) ?_
          refine lv_bipush (v := nI 10) B.1 B.2.1 dX9_layPort_45 (by decide) ?_
          refine lv_iload_n B.1 B.2.1 dX9_layPort_47 rfl (lv_at hl 0 rfl) ?_
          refine lv_bipush (v := nI 10) B.1 B.2.1 dX9_layPort_48 (by decide) ?_
          refine lv_idiv B.1 B.2.1 dX9_layPort_50 (by decide) ?_
          refine r_tI (y := nI (m / 10)) (pk_div (by omega) (by omega) (by omega)) ?_
          refine lv_iload_n B.1 B.2.1 dX9_layPort_51 rfl (lv_at hl 0 rfl) ?_
          refine lv_bipush (v := nI 10) B.1 B.2.1 dX9_layPort_52 (by decide) ?_
          refine lv_irem B.1 B.2.1 dX9_layPort_54 (by decide) ?_
          refine r_tI (y := nI (m % 10)) (pk_rem (by omega) (by omega) (by omega)) ?_
          refine r_calli B hC hl.1 (175) 9 rfl rfl (by decide) hM_F31.1 (As := [.int (nI 10), .int (nI (m / 10)), .int (nI (m % 10))]) (ctX9_goes l g lo ad hM_F31 ok ((hR.scr hSc).qs (hq30.1)) (b := 10) (by decide) hB10 hw (t := m / 10) (p := m % 10) (by omega) (by omega)) gX9_layPort_X9_goes rfl (n := 3) rfl (by decide +kernel) ⟨Nat.le_of_ble_eq_true rfl, Nat.le_of_ble_eq_true rfl⟩ ⟨Nat.zero_le _, Nat.zero_le _⟩ rfl (Nat.le_of_ble_eq_true rfl) dX9_layPort_55 (fun r55 F32 H locs hp55 hC => ?_)
          obtain ⟨q32, hM_F32, hT_F32, hq55, hr55, hbk55⟩ := hp55
          have hS_F32 : Same 175 196 F F32 := Same.tr2 hS_F31 hT_F32 (by decide) (by decide)
          refine r_tI (y := bI (mayM h w m)) (hr55) ?_
          refine lv_if_eq (tgt := 82) B.1 B.2.1 dX9_layPort_58 (by decide) (fun c_58 => ?_) (fun c_58 => ?_)
          · have q_58 : mayM h w m = false := bI_f.mp c_58
            refine lv_iinc (v := nI (m + 1)) (lv' := [(2, .int (nI (m + 1))), (0, .ref (ad (175))), (1, .int (nI n))]) B.1 B.2.1 dX9_layPort_82 hl (k := 0) rfl (nI_1 _) (by decide) rfl (fun ls hl => ?_)
            refine lv_goto (tgt := 15) B.1 B.2.1 dX9_layPort_85 (by decide) ?_
            exact ih15 (m + 1) q32 F32 (by omega) hM_F32 hS_F32 ((hSc.qs hq30.1 (by decide)).qs hq55 (by decide)) (by rw [← L1_no (by omega) q_58]; exact hres) _ _ ls hC (lv_sub hl [0, 1, 2] rfl)
          · have q_58 : mayM h w m = true := bI_t.mp c_58
            have hb1 : BankR h q32 10 (stepV h w m) := by have z := hbk55; rw [show mayV h w (m / 10) (m % 10) = true from q_58, if_pos rfl] at z; exact z
            have hu1 : LOK h (stepV h w m) := LOK_step ok hw (by omega) q_58
            refine lv_aload_n B.1 B.2.1 dX9_layPort_61 rfl (lv_at hl 1 rfl) ?_
            refine lv_bipush (v := nI 10) B.1 B.2.1 dX9_layPort_62 (by decide) ?_
            refine lv_bipush (v := nI 50) B.1 B.2.1 dX9_layPort_64 (by decide) ?_
            refine r_calli B hC hl.1 (175) 9 rfl rfl (by decide) hM_F32.1 (As := [.int (nI 10), .int (nI 50)]) (ctX9_floatsOf l g lo ad hM_F32 ok (((hR.scr hSc).qs (hq30.1)).qs (hq55)) (a := 10) (b := 50) (w := stepV h w m) (by decide) (by decide) (Or.inl (by decide)) hb1 hu1 hwa hsu) gX9_layPort_X9_floatsOf rfl (n := 2) rfl (by decide +kernel) ⟨Nat.le_of_ble_eq_true rfl, Nat.le_of_ble_eq_true rfl⟩ ⟨Nat.zero_le _, Nat.zero_le _⟩ rfl (Nat.le_of_ble_eq_true rfl) dX9_layPort_66 (fun r66 F33 H locs hp66 hC => ?_)
            obtain ⟨q33, hM_F33, hT_F33, hq66, hr66⟩ := hp66
            have hS_F33 : Same 175 196 F F33 := Same.tr2 hS_F32 hT_F33 (by decide) (by decide)
            have hf66 := floatsV_le h (stepV h w m)
            refine r_tI (y := nI (floatsV h (stepV h w m))) (hr66) ?_
            refine lv_iload_n B.1 B.2.1 dX9_layPort_69 rfl (lv_at hl 2 rfl) ?_
            refine lv_icmp_lt (tgt := 82) B.1 B.2.1 dX9_layPort_70 (by decide) (fun c_70 => ?_) (fun c_70 => ?_)
            · have q_70 : (floatsV h (stepV h w m)) < n := (nI_ltI (by omega) (by omega)).mp c_70
              refine lv_iinc (v := nI (m + 1)) (lv' := [(2, .int (nI (m + 1))), (0, .ref (ad (175))), (1, .int (nI n))]) B.1 B.2.1 dX9_layPort_82 hl (k := 0) rfl (nI_1 _) (by decide) rfl (fun ls hl => ?_)
              refine lv_goto (tgt := 15) B.1 B.2.1 dX9_layPort_85 (by decide) ?_
              exact ih15 (m + 1) q33 F33 (by omega) hM_F33 hS_F33 (((hSc.qs hq30.1 (by decide)).qs hq55 (by decide)).qs hq66 (by decide)) (by rw [map_c (L1_yes (by omega) q_58), portF_no (e := [m]) q_70] at hres; exact hres) _ _ ls hC (lv_sub hl [0, 1, 2] rfl)
            · have q_70 : ¬ (floatsV h (stepV h w m)) < n := fun z => c_70 ((nI_ltI (by omega) (by omega)).mpr z)
              refine lv_aload_n B.1 B.2.1 dX9_layPort_73 rfl (lv_at hl 1 rfl) ?_
              refine r_cg B hC (i := 175) (by decide) hM_F33.1 (C := RX9) (T := TX9) (n := 35) rfl iwX9_layPort_X9 27 (by decide) (index := 52) flX9_layPort_52 rfl (v := .ref (ad (190))) rfl dX9_layPort_74 ?_
              refine lv_iconst (v := nI 0) B.1 B.2.1 dX9_layPort_77 (by decide) ?_
              refine lv_iload_n B.1 B.2.1 dX9_layPort_78 rfl (lv_at hl 0 rfl) ?_
              refine r_cast B hC (i := 190) (by decide) hM_F33.c190 (j := 0) (by omega) (by decide) dX9_layPort_79 ?_
              intro H locs hC
              obtain ⟨F34, eF34⟩ : ∃ f : Nat → va_E, f = va_up F33 190 (.inl (g.2.2 0, 3, .inl (upd (q33 190) (0) (nI m)))) := ⟨_, rfl⟩
              have hC : Cu g lo 196 ad F34 ss ss.heap H locs := by rw [eF34]; exact hC
              obtain ⟨q34, eq34⟩ : ∃ f, f = va_up q33 190 (upd (q33 190) (0) (nI m)) := ⟨_, rfl⟩
              have hM_F34 : MC g ad F34 c q34 sm := by rw [eq34]; exact hM_F33.arr (by decide) (by decide) (by decide) (by decide) (by decide) eF34
              have hR_F34 : HullR h c q34 := by rw [eq34]; exact ((((hR.scr hSc).qs (hq30.1)).qs (hq55)).qs (hq66)).upq (by decide)
              have hS_F34 : Same 175 196 F F34 := by rw [eF34]; exact hS_F33.up (by decide) (by decide)
              refine lv_iconst (v := nI 1) B.1 B.2.1 dX9_layPort_80 (by decide) ?_
              exact r_eI B hC (v := nI 1) (⟨_, hM_F34, hS_F34, (((hSc.qs hq30.1 (by decide)).qs hq55 (by decide)).qs hq66 (by decide)).uf eq34 (by decide), by rw [(port_1 q_8 (by rw [← hres, map_c (L1_yes (by omega) q_58)]; exact portF_yes (e := [m]) q_70))]; rfl, PortR.one (port_1 q_8 (by rw [← hres, map_c (L1_yes (by omega) q_58)]; exact portF_yes (e := [m]) q_70)) eq34⟩) dX9_layPort_81
    exact loop15 (10 * hn h) 0 q1 F1 (by omega) hM_F1 hS_F1 (Scr.rf.qs hq4 (by decide)) rfl _ _ ls hC (lv_sub hl [0, 1, 2] rfl)
  · have q_8 : ¬ (floatsV h w) < n := fun z => c_8 ((nI_ltI (by omega) (by omega)).mpr z)
    refine lv_iconst (v := nI 0) B.1 B.2.1 dX9_layPort_11 (by decide) ?_
    exact r_eI B hC (v := nI 0) (⟨_, hM_F1, hS_F1, Scr.rf.qs hq4 (by decide), by rw [port_0 q_8]; rfl, PortR.z (port_0 q_8)⟩) dX9_layPort_12
theorem iwX9_best_X9 : ∀ w ∈ u_ws RX9 TX9 35, w ∈ wsX9_best := by decide +kernel
theorem flX9_best_123 : Cond.fieldLink RX9 123 RX9 (TX9 23).2.1 (TX9 23).2.2.1 ∈ wsX9_best := by decide +kernel
theorem flX9_best_181 : Cond.fieldLink RX9 181 RX9 (TX9 29).2.1 (TX9 29).2.2.1 ∈ wsX9_best := by decide +kernel
set_option maxHeartbeats 4000000 in
set_option maxRecDepth 100000 in
theorem ctX9_best (l : Launch) (g : Gx) (lo : Nat) (ad : Nat → Nat) {F : Nat → va_E} {c : Nat → Int32} {q : Nat → Nat → Int32} {sm : Nat → Int64} {x : XV} (hM : MC g ad F c q sm) (hX : XR x c q) (okx : XOK x) {k : Int32} : MI l g lo 196 ad yX9_best wsX9_best 6 137 [.ref (ad (175)), .int (k)] F (fun r F' => r = bestA x k ∧ MX g ad F' x ∧ Same 175 196 F F') := by
  obtain ⟨hTx, hR, ⟨hB, hwa, hsu⟩, hAx, hKx⟩ := id hX
  obtain ⟨okT, ok, hw, okA, okS, okAu, okSu⟩ := id okx
  have okn := ok.1
  have okp := ok.2.1
  have okh := ok.2.2.1
  have okt := okT.1
  have hS : Same 175 196 F F := Same.rf
  have hb : 0 ≤ 50 := by decide
  have hwa3 := hw.2.1
  refine enter (cc := cX9_best) (maxL := 2) (ret := some .int) (own := RX9) (by decide +kernel) rfl rfl (Nat.le_of_ble_eq_true rfl) ?_
  intro pp ee ss mm below meth cc B hini hC ls hl
  have hl : lv_has ls 2 [(0, .ref (ad (175))), (1, .int (k))] := hl
  refine lv_iload_n B.1 B.2.1 dX9_best_0 rfl (lv_at hl 1 rfl) ?_
  refine lv_i2l (v := Int32.toInt64 (k)) B.1 B.2.1 dX9_best_1 (rfl) ?_
  refine lv_lconst (v := lN 0) B.1 B.2.1 dX9_best_2 (by decide) ?_
  refine lv_ldc2 (own := RX9) (v := 2) B.1 B.2.1 B.2.2.2.1 (B.2.2.2.2.1 (.constantLong RX9 187 (2)) (by decide +kernel)) dX9_best_3 ?_
  refine r_scalli B hC hl.1 (As := [.long (Int32.toInt64 (k)), .long (lN 0), .long (2)]) (ctX9_in l g lo ad (v := Int32.toInt64 k) (a := lN 0) (b := 2)) gX9_best_X9_in rfl (n := 3) rfl (by decide +kernel) ⟨Nat.le_of_ble_eq_true rfl, Nat.le_of_ble_eq_true rfl⟩ ⟨Nat.zero_le _, Nat.zero_le _⟩ rfl (Nat.le_of_ble_eq_true rfl) dX9_best_6 (fun r6 F1 H locs hp6 hC => ?_)
  obtain ⟨er, eF⟩ := hp6
  subst er
  rw [eF] at hC
  refine lv_if_ne (tgt := 15) B.1 B.2.1 dX9_best_9 (by decide) (fun c_9 => ?_) (fun c_9 => ?_)
  · have q_9 : is02 k = true := by rw [← inB_02]; exact bI_t.mp c_9
    obtain ⟨j, hj2, ej⟩ : ∃ j, j ≤ 2 ∧ k = nI j := by simp only [is02, Bool.or_eq_true, decide_eq_true_eq] at q_9; rcases q_9 with e | e | e; exact ⟨0, by decide, e⟩; exact ⟨1, by decide, e⟩; exact ⟨2, by decide, e⟩
    refine lv_aload_n B.1 B.2.1 dX9_best_15 rfl (lv_at hl 0 rfl) ?_
    refine r_cg B hC (i := 175) (by decide) hM.1 (C := RX9) (T := TX9) (n := 35) rfl iwX9_best_X9 23 (by decide) (index := 123) flX9_best_123 rfl (v := .int (c 23)) rfl dX9_best_16 ?_
    refine r_tI (y := bI (su (xw x))) (hsu) ?_
    refine lv_if_eq (tgt := 25) B.1 B.2.1 dX9_best_19 (by decide) (fun c_19 => ?_) (fun c_19 => ?_)
    · have q_19 : (su (xw x)) = false := bI_f.mp c_19
      refine lv_aload_n B.1 B.2.1 dX9_best_25 rfl (lv_at hl 0 rfl) ?_
      refine lv_iload_n B.1 B.2.1 dX9_best_26 rfl (lv_at hl 1 rfl) ?_
      refine r_tI (y := nI j) (ej) ?_
      refine r_callv B hC hl.1 (175) 9 rfl rfl (by decide) hM.1 (As := [.int (nI j)]) (ctX9_layBest l g lo ad hM ok hR (w := (xw x)) hj2 hB hw) gX9_best_X9_layBest rfl (n := 1) rfl (by decide +kernel) ⟨Nat.le_of_ble_eq_true rfl, Nat.le_of_ble_eq_true rfl⟩ ⟨Nat.zero_le _, Nat.zero_le _⟩ rfl (Nat.le_of_ble_eq_true rfl) dX9_best_27 (fun F1 H locs hp27 hC => ?_)
      obtain ⟨c1, q1, hM_F1, hT_F1, hz, hf⟩ := hp27
      have hS_F1 : Same 175 196 F F1 := Same.tr2 hS hT_F1 (by decide) (by decide)
      refine lv_aload_n B.1 B.2.1 dX9_best_30 rfl (lv_at hl 0 rfl) ?_
      refine r_cg B hC (i := 175) (by decide) hM_F1.1 (C := RX9) (T := TX9) (n := 35) rfl iwX9_best_X9 29 (by decide) (index := 181) flX9_best_181 rfl (v := .int (c1 29)) rfl dX9_best_31 ?_
      refine r_tI (y := nI (bestV (xh x) (xw x) j).1) (hf.1) ?_
      exact r_eI B hC (v := nI (bestV (xh x) (xw x) j).1) (⟨by rw [bestA, if_pos q_9, if_neg (by rw [q_19]; decide), ej, ix_n (by omega)], ⟨_, _, _, hM_F1, hX.scr hz okn⟩, hS_F1⟩) dX9_best_34
    · have q_19 : (su (xw x)) = true := bI_t.mp c_19
      refine lv_bipush (v := (-3)) B.1 B.2.1 dX9_best_22 (by decide) ?_
      exact r_eI B hC (v := (-3)) (⟨by rw [bestA, if_pos q_9, if_pos q_19], ⟨_, _, _, hM, hX⟩, hS⟩) dX9_best_24
  · have q_9 : ¬ is02 k = true := by rw [← inB_02, bI_f.mp c_9]; decide
    refine lv_bipush (v := (-2)) B.1 B.2.1 dX9_best_12 (by decide) ?_
    exact r_eI B hC (v := (-2)) (⟨by rw [bestA, if_neg q_9], ⟨_, _, _, hM, hX⟩, hS⟩) dX9_best_14
theorem iwX9_bestAt_X9 : ∀ w ∈ u_ws RX9 TX9 35, w ∈ wsX9_bestAt := by decide +kernel
theorem flX9_bestAt_52 : Cond.fieldLink RX9 52 RX9 (TX9 27).2.1 (TX9 27).2.2.1 ∈ wsX9_bestAt := by decide +kernel
theorem flX9_bestAt_123 : Cond.fieldLink RX9 123 RX9 (TX9 23).2.1 (TX9 23).2.2.1 ∈ wsX9_bestAt := by decide +kernel
theorem flX9_bestAt_178 : Cond.fieldLink RX9 178 RX9 (TX9 28).2.1 (TX9 28).2.2.1 ∈ wsX9_bestAt := by decide +kernel
set_option maxHeartbeats 4000000 in
set_option maxRecDepth 100000 in
theorem ctX9_bestAt (l : Launch) (g : Gx) (lo : Nat) (ad : Nat → Nat) {F : Nat → va_E} {c : Nat → Int32} {q : Nat → Nat → Int32} {sm : Nat → Int64} {x : XV} (hM : MC g ad F c q sm) (hX : XR x c q) (okx : XOK x) {k i : Int32} : MI l g lo 196 ad yX9_bestAt wsX9_bestAt 6 137 [.ref (ad (175)), .int (k), .int (i)] F (fun r F' => r = bestAtA x k i ∧ MX g ad F' x ∧ Same 175 196 F F') := by
  obtain ⟨hTx, hR, ⟨hB, hwa, hsu⟩, hAx, hKx⟩ := id hX
  obtain ⟨okT, ok, hw, okA, okS, okAu, okSu⟩ := id okx
  have okn := ok.1
  have okp := ok.2.1
  have okh := ok.2.2.1
  have okt := okT.1
  have hS : Same 175 196 F F := Same.rf
  have hb : 0 ≤ 50 := by decide
  have hwa3 := hw.2.1
  refine enter (cc := cX9_bestAt) (maxL := 3) (ret := some .int) (own := RX9) (by decide +kernel) rfl rfl (Nat.le_of_ble_eq_true rfl) ?_
  intro pp ee ss mm below meth cc B hini hC ls hl
  have hl : lv_has ls 3 [(0, .ref (ad (175))), (1, .int (k)), (2, .int (i))] := hl
  refine lv_iload_n B.1 B.2.1 dX9_bestAt_0 rfl (lv_at hl 1 rfl) ?_
  refine lv_i2l (v := Int32.toInt64 (k)) B.1 B.2.1 dX9_bestAt_1 (rfl) ?_
  refine lv_lconst (v := lN 0) B.1 B.2.1 dX9_bestAt_2 (by decide) ?_
  refine lv_ldc2 (own := RX9) (v := 2) B.1 B.2.1 B.2.2.2.1 (B.2.2.2.2.1 (.constantLong RX9 187 (2)) (by decide +kernel)) dX9_bestAt_3 ?_
  refine r_scalli B hC hl.1 (As := [.long (Int32.toInt64 (k)), .long (lN 0), .long (2)]) (ctX9_in l g lo ad (v := Int32.toInt64 k) (a := lN 0) (b := 2)) gX9_bestAt_X9_in rfl (n := 3) rfl (by decide +kernel) ⟨Nat.le_of_ble_eq_true rfl, Nat.le_of_ble_eq_true rfl⟩ ⟨Nat.zero_le _, Nat.zero_le _⟩ rfl (Nat.le_of_ble_eq_true rfl) dX9_bestAt_6 (fun r6 F1 H locs hp6 hC => ?_)
  obtain ⟨er, eF⟩ := hp6
  subst er
  rw [eF] at hC
  refine lv_if_ne (tgt := 15) B.1 B.2.1 dX9_bestAt_9 (by decide) (fun c_9 => ?_) (fun c_9 => ?_)
  · have q_9 : is02 k = true := by rw [← inB_02]; exact bI_t.mp c_9
    obtain ⟨j, hj2, ej⟩ : ∃ j, j ≤ 2 ∧ k = nI j := by simp only [is02, Bool.or_eq_true, decide_eq_true_eq] at q_9; rcases q_9 with e | e | e; exact ⟨0, by decide, e⟩; exact ⟨1, by decide, e⟩; exact ⟨2, by decide, e⟩
    refine lv_aload_n B.1 B.2.1 dX9_bestAt_15 rfl (lv_at hl 0 rfl) ?_
    refine r_cg B hC (i := 175) (by decide) hM.1 (C := RX9) (T := TX9) (n := 35) rfl iwX9_bestAt_X9 23 (by decide) (index := 123) flX9_bestAt_123 rfl (v := .int (c 23)) rfl dX9_bestAt_16 ?_
    refine r_tI (y := bI (su (xw x))) (hsu) ?_
    refine lv_if_eq (tgt := 25) B.1 B.2.1 dX9_bestAt_19 (by decide) (fun c_19 => ?_) (fun c_19 => ?_)
    · have q_19 : (su (xw x)) = false := bI_f.mp c_19
      refine lv_aload_n B.1 B.2.1 dX9_bestAt_25 rfl (lv_at hl 0 rfl) ?_
      refine lv_iload_n B.1 B.2.1 dX9_bestAt_26 rfl (lv_at hl 1 rfl) ?_
      refine r_tI (y := nI j) (ej) ?_
      refine r_callv B hC hl.1 (175) 9 rfl rfl (by decide) hM.1 (As := [.int (nI j)]) (ctX9_layBest l g lo ad hM ok hR (w := (xw x)) hj2 hB hw) gX9_bestAt_X9_layBest rfl (n := 1) rfl (by decide +kernel) ⟨Nat.le_of_ble_eq_true rfl, Nat.le_of_ble_eq_true rfl⟩ ⟨Nat.zero_le _, Nat.zero_le _⟩ rfl (Nat.le_of_ble_eq_true rfl) dX9_bestAt_27 (fun F1 H locs hp27 hC => ?_)
      obtain ⟨c1, q1, hM_F1, hT_F1, hz, hf⟩ := hp27
      have hS_F1 : Same 175 196 F F1 := Same.tr2 hS hT_F1 (by decide) (by decide)
      refine lv_iload_n B.1 B.2.1 dX9_bestAt_30 rfl (lv_at hl 2 rfl) ?_
      refine lv_i2l (v := Int32.toInt64 (i)) B.1 B.2.1 dX9_bestAt_31 (rfl) ?_
      refine lv_lconst (v := lN 0) B.1 B.2.1 dX9_bestAt_32 (by decide) ?_
      refine lv_aload_n B.1 B.2.1 dX9_bestAt_33 rfl (lv_at hl 0 rfl) ?_
      refine r_cg B hC (i := 175) (by decide) hM_F1.1 (C := RX9) (T := TX9) (n := 35) rfl iwX9_bestAt_X9 28 (by decide) (index := 178) flX9_bestAt_178 rfl (v := .int (c1 28)) rfl dX9_bestAt_34 ?_
      refine r_tI (y := nI (bestV (xh x) (xw x) j).2.length) (hf.2.1) ?_
      refine lv_iconst (v := nI 1) B.1 B.2.1 dX9_bestAt_37 (by decide) ?_
      refine lv_isub B.1 B.2.1 dX9_bestAt_38 ?_
      refine r_tI (y := (nI (bestV (xh x) (xw x) j).2.length) - (nI 1)) (rfl) ?_
      refine lv_i2l (v := Int32.toInt64 ((nI (bestV (xh x) (xw x) j).2.length) - (nI 1))) B.1 B.2.1 dX9_bestAt_39 (rfl) ?_
      refine r_scalli B hC hl.1 (As := [.long (Int32.toInt64 (i)), .long (lN 0), .long (Int32.toInt64 ((nI (bestV (xh x) (xw x) j).2.length) - (nI 1)))]) (ctX9_in l g lo ad (v := Int32.toInt64 i) (a := lN 0) (b := Int32.toInt64 (nI (bestV (xh x) (xw x) j).2.length - nI 1))) gX9_bestAt_X9_in rfl (n := 3) rfl (by decide +kernel) ⟨Nat.le_of_ble_eq_true rfl, Nat.le_of_ble_eq_true rfl⟩ ⟨Nat.zero_le _, Nat.zero_le _⟩ rfl (Nat.le_of_ble_eq_true rfl) dX9_bestAt_40 (fun r40 F2 H locs hp40 hC => ?_)
      obtain ⟨er, eF⟩ := hp40
      subst er
      rw [eF] at hC
      refine lv_if_eq (tgt := 55) B.1 B.2.1 dX9_bestAt_43 (by decide) (fun c_43 => ?_) (fun c_43 => ?_)
      · have q_43 := (inB_n (show (bestV (xh x) (xw x) j).2.length ≤ 2000 from Nat.le_trans hf.2.2.1 (by decide)) i).symm.trans (bI_f.mp c_43)
        refine lv_bipush (v := (-9)) B.1 B.2.1 dX9_bestAt_55 (by decide) ?_
        exact r_eI B hC (v := (-9)) (⟨by rw [bestAtA, if_pos q_9, if_neg (by rw [q_19]; decide), ej, ix_n (by omega), fnd_out q_43]; rfl, ⟨_, _, _, hM_F1, hX.scr hz okn⟩, hS_F1⟩) dX9_bestAt_57
      · have q_43 := (inB_n (show (bestV (xh x) (xw x) j).2.length ≤ 2000 from Nat.le_trans hf.2.2.1 (by decide)) i).symm.trans (bI_t.mp c_43)
        obtain ⟨v, hv, ev⟩ := ix_of (Nat.le_trans hf.2.2.1 (by decide)) q_43
        have hl2 := hf.2.2.1
        refine lv_aload_n B.1 B.2.1 dX9_bestAt_46 rfl (lv_at hl 0 rfl) ?_
        refine r_cg B hC (i := 175) (by decide) hM_F1.1 (C := RX9) (T := TX9) (n := 35) rfl iwX9_bestAt_X9 27 (by decide) (index := 52) flX9_bestAt_52 rfl (v := .ref (ad (190))) rfl dX9_bestAt_47 ?_
        refine lv_iload_n B.1 B.2.1 dX9_bestAt_50 rfl (lv_at hl 2 rfl) ?_
        refine r_tI (y := nI v) (ev) ?_
        refine r_cald B hC (i := 190) (by decide) hM_F1.c190 (j := v) (by omega) (by decide) dX9_bestAt_51 ?_
        refine r_tI (y := q1 190 v) rfl ?_
        refine r_tI (y := oI ((bestV (xh x) (xw x) j).2[v]?)) (hf.2.2.2.1 v hv) ?_
        refine lv_goto (tgt := 57) B.1 B.2.1 dX9_bestAt_52 (by decide) ?_
        exact r_eI B hC (v := oI ((bestV (xh x) (xw x) j).2[v]?)) (⟨by rw [bestAtA, if_pos q_9, if_neg (by rw [q_19]; decide), ej, ix_n (by omega), ev, fnd_in (Nat.le_trans hl2 (by decide)) hv], ⟨_, _, _, hM_F1, hX.scr hz okn⟩, hS_F1⟩) dX9_bestAt_57
    · have q_19 : (su (xw x)) = true := bI_t.mp c_19
      refine lv_bipush (v := (-3)) B.1 B.2.1 dX9_bestAt_22 (by decide) ?_
      exact r_eI B hC (v := (-3)) (⟨by rw [bestAtA, if_pos q_9, if_pos q_19], ⟨_, _, _, hM, hX⟩, hS⟩) dX9_bestAt_24
  · have q_9 : ¬ is02 k = true := by rw [← inB_02, bI_f.mp c_9]; decide
    refine lv_bipush (v := (-2)) B.1 B.2.1 dX9_bestAt_12 (by decide) ?_
    exact r_eI B hC (v := (-2)) (⟨by rw [bestAtA, if_neg q_9], ⟨_, _, _, hM, hX⟩, hS⟩) dX9_bestAt_14
theorem iwX9_port_X9 : ∀ w ∈ u_ws RX9 TX9 35, w ∈ wsX9_port := by decide +kernel
theorem flX9_port_123 : Cond.fieldLink RX9 123 RX9 (TX9 23).2.1 (TX9 23).2.2.1 ∈ wsX9_port := by decide +kernel
set_option maxHeartbeats 4000000 in
set_option maxRecDepth 100000 in
theorem ctX9_port (l : Launch) (g : Gx) (lo : Nat) (ad : Nat → Nat) {F : Nat → va_E} {c : Nat → Int32} {q : Nat → Nat → Int32} {sm : Nat → Int64} {x : XV} (hM : MC g ad F c q sm) (hX : XR x c q) (okx : XOK x) {n : Int32} : MI l g lo 196 ad yX9_port wsX9_port 6 138 [.ref (ad (175)), .int (n)] F (fun r F' => r = portA x n ∧ MX g ad F' x ∧ Same 175 196 F F') := by
  obtain ⟨hTx, hR, ⟨hB, hwa, hsu⟩, hAx, hKx⟩ := id hX
  obtain ⟨okT, ok, hw, okA, okS, okAu, okSu⟩ := id okx
  have okn := ok.1
  have okp := ok.2.1
  have okh := ok.2.2.1
  have okt := okT.1
  have hS : Same 175 196 F F := Same.rf
  have hb : 0 ≤ 50 := by decide
  have hwa3 := hw.2.1
  refine enter (cc := cX9_port) (maxL := 2) (ret := some .int) (own := RX9) (by decide +kernel) rfl rfl (Nat.le_of_ble_eq_true rfl) ?_
  intro pp ee ss mm below meth cc B hini hC ls hl
  have hl : lv_has ls 2 [(0, .ref (ad (175))), (1, .int (n))] := hl
  refine lv_iload_n B.1 B.2.1 dX9_port_0 rfl (lv_at hl 1 rfl) ?_
  refine lv_i2l (v := Int32.toInt64 (n)) B.1 B.2.1 dX9_port_1 (rfl) ?_
  refine lv_lconst (v := lN 1) B.1 B.2.1 dX9_port_2 (by decide) ?_
  refine lv_ldc2 (own := RX9) (v := 99) B.1 B.2.1 B.2.2.2.1 (B.2.2.2.2.1 (.constantLong RX9 195 (99)) (by decide +kernel)) dX9_port_3 ?_
  refine r_scalli B hC hl.1 (As := [.long (Int32.toInt64 (n)), .long (lN 1), .long (99)]) (ctX9_in l g lo ad (v := Int32.toInt64 n) (a := lN 1) (b := 99)) gX9_port_X9_in rfl (n := 3) rfl (by decide +kernel) ⟨Nat.le_of_ble_eq_true rfl, Nat.le_of_ble_eq_true rfl⟩ ⟨Nat.zero_le _, Nat.zero_le _⟩ rfl (Nat.le_of_ble_eq_true rfl) dX9_port_6 (fun r6 F1 H locs hp6 hC => ?_)
  obtain ⟨er, eF⟩ := hp6
  subst er
  rw [eF] at hC
  refine lv_if_ne (tgt := 15) B.1 B.2.1 dX9_port_9 (by decide) (fun c_9 => ?_) (fun c_9 => ?_)
  · have q_9 : is99 n = true := by rw [← inB_99]; exact bI_t.mp c_9
    obtain ⟨j, hj1, hj99, ej⟩ := is99_t q_9
    refine lv_aload_n B.1 B.2.1 dX9_port_15 rfl (lv_at hl 0 rfl) ?_
    refine r_cg B hC (i := 175) (by decide) hM.1 (C := RX9) (T := TX9) (n := 35) rfl iwX9_port_X9 23 (by decide) (index := 123) flX9_port_123 rfl (v := .int (c 23)) rfl dX9_port_16 ?_
    refine r_tI (y := bI (su (xw x))) (hsu) ?_
    refine lv_if_eq (tgt := 27) B.1 B.2.1 dX9_port_19 (by decide) (fun c_19 => ?_) (fun c_19 => ?_)
    · have q_19 : (su (xw x)) = false := bI_f.mp c_19
      refine lv_aload_n B.1 B.2.1 dX9_port_27 rfl (lv_at hl 0 rfl) ?_
      refine lv_iload_n B.1 B.2.1 dX9_port_28 rfl (lv_at hl 1 rfl) ?_
      refine r_tI (y := nI j) (ej) ?_
      refine r_calli B hC hl.1 (175) 9 rfl rfl (by decide) hM.1 (As := [.int (nI j)]) (ctX9_layPort l g lo ad hM ok hR (w := (xw x)) hB hw hwa hsu hj1 hj99) gX9_port_X9_layPort rfl (n := 1) rfl (by decide +kernel) ⟨Nat.le_of_ble_eq_true rfl, Nat.le_of_ble_eq_true rfl⟩ ⟨Nat.zero_le _, Nat.zero_le _⟩ rfl (Nat.le_of_ble_eq_true rfl) dX9_port_29 (fun r29 F1 H locs hp29 hC => ?_)
      obtain ⟨q1, hM_F1, hT_F1, hz, hr, hf⟩ := hp29
      have hS_F1 : Same 175 196 F F1 := Same.tr2 hS hT_F1 (by decide) (by decide)
      refine r_tI (y := oI ((portV (xh x) (xw x) j).map List.length)) hr ?_
      exact r_eI B hC (v := oI ((portV (xh x) (xw x) j).map List.length)) (⟨by rw [portA, if_pos q_9, if_neg (by rw [q_19]; decide), ej, ix_n (by omega)], ⟨_, _, _, hM_F1, hX.scr hz okn⟩, hS_F1⟩) dX9_port_32
    · have q_19 : (su (xw x)) = true := bI_t.mp c_19
      refine lv_bipush (v := (-3)) B.1 B.2.1 dX9_port_22 (by decide) ?_
      refine lv_goto (tgt := 32) B.1 B.2.1 dX9_port_24 (by decide) ?_
      exact r_eI B hC (v := (-3)) (⟨by rw [portA, if_pos q_9, if_pos q_19], ⟨_, _, _, hM, hX⟩, hS⟩) dX9_port_32
  · have q_9 : ¬ is99 n = true := by rw [← inB_99, bI_f.mp c_9]; decide
    refine lv_bipush (v := (-2)) B.1 B.2.1 dX9_port_12 (by decide) ?_
    exact r_eI B hC (v := (-2)) (⟨by rw [portA, if_neg q_9], ⟨_, _, _, hM, hX⟩, hS⟩) dX9_port_14
theorem iwX9_portAt_X9 : ∀ w ∈ u_ws RX9 TX9 35, w ∈ wsX9_portAt := by decide +kernel
theorem flX9_portAt_52 : Cond.fieldLink RX9 52 RX9 (TX9 27).2.1 (TX9 27).2.2.1 ∈ wsX9_portAt := by decide +kernel
theorem flX9_portAt_123 : Cond.fieldLink RX9 123 RX9 (TX9 23).2.1 (TX9 23).2.2.1 ∈ wsX9_portAt := by decide +kernel
set_option maxHeartbeats 4000000 in
set_option maxRecDepth 100000 in
theorem ctX9_portAt (l : Launch) (g : Gx) (lo : Nat) (ad : Nat → Nat) {F : Nat → va_E} {c : Nat → Int32} {q : Nat → Nat → Int32} {sm : Nat → Int64} {x : XV} (hM : MC g ad F c q sm) (hX : XR x c q) (okx : XOK x) {n i : Int32} : MI l g lo 196 ad yX9_portAt wsX9_portAt 6 138 [.ref (ad (175)), .int (n), .int (i)] F (fun r F' => r = portAtA x n i ∧ MX g ad F' x ∧ Same 175 196 F F') := by
  obtain ⟨hTx, hR, ⟨hB, hwa, hsu⟩, hAx, hKx⟩ := id hX
  obtain ⟨okT, ok, hw, okA, okS, okAu, okSu⟩ := id okx
  have okn := ok.1
  have okp := ok.2.1
  have okh := ok.2.2.1
  have okt := okT.1
  have hS : Same 175 196 F F := Same.rf
  have hb : 0 ≤ 50 := by decide
  have hwa3 := hw.2.1
  refine enter (cc := cX9_portAt) (maxL := 3) (ret := some .int) (own := RX9) (by decide +kernel) rfl rfl (Nat.le_of_ble_eq_true rfl) ?_
  intro pp ee ss mm below meth cc B hini hC ls hl
  have hl : lv_has ls 3 [(0, .ref (ad (175))), (1, .int (n)), (2, .int (i))] := hl
  refine lv_iload_n B.1 B.2.1 dX9_portAt_0 rfl (lv_at hl 1 rfl) ?_
  refine lv_i2l (v := Int32.toInt64 (n)) B.1 B.2.1 dX9_portAt_1 (rfl) ?_
  refine lv_lconst (v := lN 1) B.1 B.2.1 dX9_portAt_2 (by decide) ?_
  refine lv_ldc2 (own := RX9) (v := 99) B.1 B.2.1 B.2.2.2.1 (B.2.2.2.2.1 (.constantLong RX9 195 (99)) (by decide +kernel)) dX9_portAt_3 ?_
  refine r_scalli B hC hl.1 (As := [.long (Int32.toInt64 (n)), .long (lN 1), .long (99)]) (ctX9_in l g lo ad (v := Int32.toInt64 n) (a := lN 1) (b := 99)) gX9_portAt_X9_in rfl (n := 3) rfl (by decide +kernel) ⟨Nat.le_of_ble_eq_true rfl, Nat.le_of_ble_eq_true rfl⟩ ⟨Nat.zero_le _, Nat.zero_le _⟩ rfl (Nat.le_of_ble_eq_true rfl) dX9_portAt_6 (fun r6 F1 H locs hp6 hC => ?_)
  obtain ⟨er, eF⟩ := hp6
  subst er
  rw [eF] at hC
  refine lv_if_ne (tgt := 15) B.1 B.2.1 dX9_portAt_9 (by decide) (fun c_9 => ?_) (fun c_9 => ?_)
  · have q_9 : is99 n = true := by rw [← inB_99]; exact bI_t.mp c_9
    obtain ⟨j, hj1, hj99, ej⟩ := is99_t q_9
    refine lv_aload_n B.1 B.2.1 dX9_portAt_15 rfl (lv_at hl 0 rfl) ?_
    refine r_cg B hC (i := 175) (by decide) hM.1 (C := RX9) (T := TX9) (n := 35) rfl iwX9_portAt_X9 23 (by decide) (index := 123) flX9_portAt_123 rfl (v := .int (c 23)) rfl dX9_portAt_16 ?_
    refine r_tI (y := bI (su (xw x))) (hsu) ?_
    refine lv_if_eq (tgt := 25) B.1 B.2.1 dX9_portAt_19 (by decide) (fun c_19 => ?_) (fun c_19 => ?_)
    · have q_19 : (su (xw x)) = false := bI_f.mp c_19
      refine lv_iload_n B.1 B.2.1 dX9_portAt_25 rfl (lv_at hl 2 rfl) ?_
      refine lv_i2l (v := Int32.toInt64 (i)) B.1 B.2.1 dX9_portAt_26 (rfl) ?_
      refine lv_lconst (v := lN 0) B.1 B.2.1 dX9_portAt_27 (by decide) ?_
      refine lv_aload_n B.1 B.2.1 dX9_portAt_28 rfl (lv_at hl 0 rfl) ?_
      refine lv_iload_n B.1 B.2.1 dX9_portAt_29 rfl (lv_at hl 1 rfl) ?_
      refine r_tI (y := nI j) (ej) ?_
      refine r_calli B hC hl.1 (175) 9 rfl rfl (by decide) hM.1 (As := [.int (nI j)]) (ctX9_layPort l g lo ad hM ok hR (w := (xw x)) hB hw hwa hsu hj1 hj99) gX9_portAt_X9_layPort rfl (n := 1) rfl (by decide +kernel) ⟨Nat.le_of_ble_eq_true rfl, Nat.le_of_ble_eq_true rfl⟩ ⟨Nat.zero_le _, Nat.zero_le _⟩ rfl (Nat.le_of_ble_eq_true rfl) dX9_portAt_30 (fun r30 F1 H locs hp30 hC => ?_)
      obtain ⟨q1, hM_F1, hT_F1, hz, hr, hf⟩ := hp30
      have hS_F1 : Same 175 196 F F1 := Same.tr2 hS hT_F1 (by decide) (by decide)
      refine r_tI (y := oI ((portV (xh x) (xw x) j).map List.length)) hr ?_
      rcases hpv : portV (xh x) (xw x) j with _ | e
      · refine r_tI (y := (-9)) rfl ?_
        refine lv_iconst (v := nI 1) B.1 B.2.1 dX9_portAt_33 (by decide) ?_
        refine lv_isub B.1 B.2.1 dX9_portAt_34 ?_
        refine r_tI (y := (-9) - (nI 1)) (rfl) ?_
        refine lv_i2l (v := Int32.toInt64 ((-9) - (nI 1))) B.1 B.2.1 dX9_portAt_35 (rfl) ?_
        refine r_scalli B hC hl.1 (As := [.long (Int32.toInt64 (i)), .long (lN 0), .long (Int32.toInt64 ((-9) - (nI 1)))]) (ctX9_in l g lo ad (v := Int32.toInt64 i) (a := lN 0) (b := Int32.toInt64 ((-9) - nI 1))) gX9_portAt_X9_in rfl (n := 3) rfl (by decide +kernel) ⟨Nat.le_of_ble_eq_true rfl, Nat.le_of_ble_eq_true rfl⟩ ⟨Nat.zero_le _, Nat.zero_le _⟩ rfl (Nat.le_of_ble_eq_true rfl) dX9_portAt_36 (fun r36 F2 H locs hp36 hC => ?_)
        obtain ⟨er, eF⟩ := hp36
        subst er
        rw [eF] at hC
        refine lv_if_eq (tgt := 51) B.1 B.2.1 dX9_portAt_39 (by decide) (fun _ => ?_) (fun z => absurd (bI_f.mpr (inB_m10 i)) z)
        refine lv_bipush (v := (-9)) B.1 B.2.1 dX9_portAt_51 (by decide) ?_
        exact r_eI B hC (v := (-9)) (⟨by rw [portAtA, if_pos q_9, if_neg (by rw [q_19]; decide), ej, ix_n (by omega), hpv]; show (-9 : Int32) = oI (fndAt [] i); unfold fndAt; split; rfl; rfl, ⟨_, _, _, hM_F1, hX.scr hz okn⟩, hS_F1⟩) dX9_portAt_53
      · have hfe := hf e hpv
        refine r_tI (y := nI e.length) rfl ?_
        refine lv_iconst (v := nI 1) B.1 B.2.1 dX9_portAt_33 (by decide) ?_
        refine lv_isub B.1 B.2.1 dX9_portAt_34 ?_
        refine r_tI (y := (nI e.length) - (nI 1)) (rfl) ?_
        refine lv_i2l (v := Int32.toInt64 ((nI e.length) - (nI 1))) B.1 B.2.1 dX9_portAt_35 (rfl) ?_
        refine r_scalli B hC hl.1 (As := [.long (Int32.toInt64 (i)), .long (lN 0), .long (Int32.toInt64 ((nI e.length) - (nI 1)))]) (ctX9_in l g lo ad (v := Int32.toInt64 i) (a := lN 0) (b := Int32.toInt64 (nI e.length - nI 1))) gX9_portAt_X9_in rfl (n := 3) rfl (by decide +kernel) ⟨Nat.le_of_ble_eq_true rfl, Nat.le_of_ble_eq_true rfl⟩ ⟨Nat.zero_le _, Nat.zero_le _⟩ rfl (Nat.le_of_ble_eq_true rfl) dX9_portAt_36 (fun r36 F2 H locs hp36 hC => ?_)
        obtain ⟨er, eF⟩ := hp36
        subst er
        rw [eF] at hC
        refine lv_if_eq (tgt := 51) B.1 B.2.1 dX9_portAt_39 (by decide) (fun c_39 => ?_) (fun c_39 => ?_)
        · have q_39 := (inB_n (show e.length ≤ 2000 from Nat.le_trans hfe.1 (by decide)) i).symm.trans (bI_f.mp c_39)
          refine lv_bipush (v := (-9)) B.1 B.2.1 dX9_portAt_51 (by decide) ?_
          exact r_eI B hC (v := (-9)) (⟨by rw [portAtA, if_pos q_9, if_neg (by rw [q_19]; decide), ej, ix_n (by omega), hpv]; show (-9 : Int32) = oI (fndAt e i); rw [fnd_out q_39]; rfl, ⟨_, _, _, hM_F1, hX.scr hz okn⟩, hS_F1⟩) dX9_portAt_53
        · have q_39 := (inB_n (show e.length ≤ 2000 from Nat.le_trans hfe.1 (by decide)) i).symm.trans (bI_t.mp c_39)
          obtain ⟨v, hv, ev⟩ := ix_of (Nat.le_trans hfe.1 (by decide)) q_39
          have hl2 := hfe.1
          refine lv_aload_n B.1 B.2.1 dX9_portAt_42 rfl (lv_at hl 0 rfl) ?_
          refine r_cg B hC (i := 175) (by decide) hM_F1.1 (C := RX9) (T := TX9) (n := 35) rfl iwX9_portAt_X9 27 (by decide) (index := 52) flX9_portAt_52 rfl (v := .ref (ad (190))) rfl dX9_portAt_43 ?_
          refine lv_iload_n B.1 B.2.1 dX9_portAt_46 rfl (lv_at hl 2 rfl) ?_
          refine r_tI (y := nI v) (ev) ?_
          refine r_cald B hC (i := 190) (by decide) hM_F1.c190 (j := v) (by omega) (by decide) dX9_portAt_47 ?_
          refine r_tI (y := q1 190 v) rfl ?_
          refine r_tI (y := oI (e[v]?)) (hfe.2 v hv) ?_
          refine lv_goto (tgt := 53) B.1 B.2.1 dX9_portAt_48 (by decide) ?_
          exact r_eI B hC (v := oI (e[v]?)) (⟨by rw [portAtA, if_pos q_9, if_neg (by rw [q_19]; decide), ej, ix_n (by omega), hpv]; show _ = oI (fndAt e i); rw [ev, fnd_in (Nat.le_trans hl2 (by decide)) hv], ⟨_, _, _, hM_F1, hX.scr hz okn⟩, hS_F1⟩) dX9_portAt_53
    · have q_19 : (su (xw x)) = true := bI_t.mp c_19
      refine lv_bipush (v := (-3)) B.1 B.2.1 dX9_portAt_22 (by decide) ?_
      exact r_eI B hC (v := (-3)) (⟨by rw [portAtA, if_pos q_9, if_pos q_19], ⟨_, _, _, hM, hX⟩, hS⟩) dX9_portAt_24
  · have q_9 : ¬ is99 n = true := by rw [← inB_99, bI_f.mp c_9]; decide
    refine lv_bipush (v := (-2)) B.1 B.2.1 dX9_portAt_12 (by decide) ?_
    exact r_eI B hC (v := (-2)) (⟨by rw [portAtA, if_neg q_9], ⟨_, _, _, hM, hX⟩, hS⟩) dX9_portAt_14
