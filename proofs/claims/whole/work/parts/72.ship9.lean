/-! THE REFERENCE: ship -/
def SH (v : TV) (n : Nat) (q : Nat → Nat → Int32) : Prop := ∀ t, t < n → q 181 t = nI (fig v (off v t + 1)) ∧ q 182 t = nI (fig v (off v t + 2)) ∧ q 183 t = oI (reT v (off v t)) ∧ q 184 t = oI (shT v (off v t)) ∧ q 186 t = nI (if tat v (off v t) = some 80 then t else 200) ∧ q 187 t = nI (if tat v (off v t) = some 80 then fig v (off v t + 1) else 0) ∧ q 188 t = nI (if tat v (off v t) = some 80 then fig v (off v t + 5) else 0)
theorem sh_step {v : TV} {t : Nat} {q q1 q2 q3 q4 q5 q6 q7 : Nat → Nat → Int32} (h : SH v t q) (u1 : U1 181 t (nI (fig v (off v t + 1))) q q1) (u2 : U1 182 t (nI (fig v (off v t + 2))) q1 q2) (u3 : U1 183 t (oI (reT v (off v t))) q2 q3) (u4 : U1 184 t (oI (shT v (off v t))) q3 q4) (u5 : U1 186 t (nI (if tat v (off v t) = some 80 then t else 200)) q4 q5) (u6 : U1 187 t (nI (if tat v (off v t) = some 80 then fig v (off v t + 1) else 0)) q5 q6) (u7 : U1 188 t (nI (if tat v (off v t) = some 80 then fig v (off v t + 5) else 0)) q6 q7) : SH v (t + 1) q7 := by
  intro s hs
  by_cases e : s = t
  · subst e
    refine ⟨?_, ?_, ?_, ?_, ?_, ?_, u7.2.2⟩
    · rw [u7.1 181 (by decide), u6.1 181 (by decide), u5.1 181 (by decide), u4.1 181 (by decide), u3.1 181 (by decide), u2.1 181 (by decide)]; exact u1.2.2
    · rw [u7.1 182 (by decide), u6.1 182 (by decide), u5.1 182 (by decide), u4.1 182 (by decide), u3.1 182 (by decide)]; exact u2.2.2
    · rw [u7.1 183 (by decide), u6.1 183 (by decide), u5.1 183 (by decide), u4.1 183 (by decide)]; exact u3.2.2
    · rw [u7.1 184 (by decide), u6.1 184 (by decide), u5.1 184 (by decide)]; exact u4.2.2
    · rw [u7.1 186 (by decide), u6.1 186 (by decide)]; exact u5.2.2
    · rw [u7.1 187 (by decide)]; exact u6.2.2
  · have z : ∀ i, q7 i s = q i s := fun i => by rw [u7.oth e, u6.oth e, u5.oth e, u4.oth e, u3.oth e, u2.oth e, u1.oth e]
    rw [z, z, z, z, z, z, z]
    exact h s (by omega)
theorem shT_lt {v : TV} (ok : TOK v) {i k : Nat} (h : shT v i = some k) : k < 2 ^ 31 := by
  unfold shT at h
  split at h
  · cases h
    unfold fig
    cases hh : tat v (i + 4) with
    | none => exact (by decide : 0 < 2 ^ 31)
    | some c => have := tat_lt ok hh; show c - 48 < 2 ^ 31; omega
  · cases h
theorem shT_80 {v : TV} {i : Nat} : ¬ shT v i = none ↔ tat v i = some 80 := by
  unfold shT
  by_cases e : tat v i = some 80
  · rw [if_pos e]; exact ⟨fun _ => e, fun _ z => by cases z⟩
  · rw [if_neg e]; exact ⟨fun z => absurd rfl z, fun z => absurd z e⟩
theorem ship_in {x : XV} {n : Nat} {c1 c2 : Nat → Int32} {q1 q2 q3 : Nat → Nat → Int32} (hX : XR x c1 q1) (hn10 : n ≤ 10) (hwl : WELL (xt x) n) (hend : tn (xt x) ≤ off (xt x) n) (hK : CQ [12, 13, 14, 22, 23, 24] [181, 182, 183, 184, 186, 187, 188, 192] c1 c2 q1 q3) (e12 : c2 12 = nI n) (e13 : c2 13 = nI (fig (xt x) 1)) (e14 : c2 14 = nI (10 * fig (xt x) 2 + fig (xt x) 3)) (e22 : c2 22 = nI 0) (e23 : c2 23 = nI 0) (e24 : c2 24 = nI 0) (hSH : SH (xt x) n q2) (h3 : ∀ i, i ≠ 192 → q3 i = q2 i) (h192 : q3 192 0 = nI 0 ∧ q3 192 1 = nI 0) : XR (shipX x) c2 q3 := by
  obtain ⟨s1, s2, s3, s4⟩ := hull_spec (h := xh x) hn10 (fun p hp => (hwl p hp).1) hend
  obtain ⟨t1, -, -, ⟨nx, a1, -, a3, -⟩, -⟩ := hX
  refine ⟨t1.cq hK (by decide) (by decide), ⟨by rw [e12]; exact congrArg nI s1.symm, by rw [e13]; exact congrArg nI s2.symm, by rw [e14]; exact congrArg nI s3.symm, fun p hp => ?_⟩, ⟨fun t ht => ?_, e22, e23⟩, ⟨nx, a1, e24, (hK.1 25 (by decide)).trans a3, fun k hk => absurd hk (Nat.not_lt_zero k)⟩, fun j hj => ?_⟩
  · have hp2 : p < n := by have z : p < hn (hullOf (xt x) (xh x)) := hp; rw [s1] at z; exact z
    obtain ⟨b1, b2, b3, b4⟩ := s4 p
    rw [if_pos hp2] at b1 b2 b3 b4
    obtain ⟨z1, z2, z3, z4, -⟩ := hSH p hp2
    rw [h3 181 (by decide), h3 182 (by decide), h3 183 (by decide), h3 184 (by decide), z1, z2, z3, z4]
    exact ⟨congrArg nI b1.symm, congrArg nI b2.symm, congrArg oI b3.symm, congrArg oI b4.symm⟩
  · have ht2 : t < n := by have z : t < hn (hullOf (xt x) (xh x)) := ht; rw [s1] at z; exact z
    obtain ⟨b1, -⟩ := s4 t
    rw [if_pos ht2] at b1
    obtain ⟨-, -, -, -, z5, z6, z7⟩ := hSH t ht2
    obtain ⟨f1, f2, f3, -⟩ := fillOf_spec (xt x) (hullOf (xt x) (xh x)) (xw x) t
    rw [if_pos (by omega)] at f1 f2 f3
    have ei : inT (xt x) (hullOf (xt x) (xh x)) (off (xt x) t) t = decide (tat (xt x) (off (xt x) t) = some 80) := by
      unfold inT; rw [s1, decide_eq_true ht2, Bool.true_and]
    rw [ei] at f1 f2 f3
    rw [Nat.zero_add, h3 186 (by decide), h3 187 (by decide), h3 188 (by decide), z5, z6, z7]
    show nI _ = nI (wh (fillOf (xt x) (hullOf (xt x) (xh x)) (xw x)) t) ∧ nI _ = nI (ln (fillOf (xt x) (hullOf (xt x) (xh x)) (xw x)) t) ∧ nI _ = nI (wo (fillOf (xt x) (hullOf (xt x) (xh x)) (xw x)) t)
    rw [f1, f2, f3, b1]
    by_cases e : tat (xt x) (off (xt x) t) = some 80
    · rw [if_pos e, if_pos e, if_pos e, decide_eq_true e]; exact ⟨rfl, rfl, rfl⟩
    · rw [if_neg e, if_neg e, if_neg e, decide_eq_false e]; exact ⟨rfl, rfl, rfl⟩
  · show q3 192 j = bI (va_up (va_up (sfl (xs x)) 0 false) 1 false j) ∧ (va_up (va_up (sfl (xs x)) 0 false) 1 false j = true → _)
    rcases (show j = 0 ∨ j = 1 by omega) with rfl | rfl
    · rw [va_up_ne _ _ (by decide), va_up_self, h192.1]; exact ⟨rfl, fun z => by cases z⟩
    · rw [va_up_self, h192.2]; exact ⟨rfl, fun z => by cases z⟩
theorem iwX9_ship_X9 : ∀ w ∈ u_ws RX9 TX9 35, w ∈ wsX9_ship := by decide +kernel
theorem flX9_ship_7 : Cond.fieldLink RX9 7 RX9 (TX9 0).2.1 (TX9 0).2.2.1 ∈ wsX9_ship := by decide +kernel
theorem flX9_ship_13 : Cond.fieldLink RX9 13 RX9 (TX9 1).2.1 (TX9 1).2.2.1 ∈ wsX9_ship := by decide +kernel
theorem flX9_ship_16 : Cond.fieldLink RX9 16 RX9 (TX9 2).2.1 (TX9 2).2.2.1 ∈ wsX9_ship := by decide +kernel
theorem flX9_ship_19 : Cond.fieldLink RX9 19 RX9 (TX9 3).2.1 (TX9 3).2.2.1 ∈ wsX9_ship := by decide +kernel
theorem flX9_ship_22 : Cond.fieldLink RX9 22 RX9 (TX9 4).2.1 (TX9 4).2.2.1 ∈ wsX9_ship := by decide +kernel
theorem flX9_ship_25 : Cond.fieldLink RX9 25 RX9 (TX9 8).2.1 (TX9 8).2.2.1 ∈ wsX9_ship := by decide +kernel
theorem flX9_ship_28 : Cond.fieldLink RX9 28 RX9 (TX9 9).2.1 (TX9 9).2.2.1 ∈ wsX9_ship := by decide +kernel
theorem flX9_ship_31 : Cond.fieldLink RX9 31 RX9 (TX9 10).2.1 (TX9 10).2.2.1 ∈ wsX9_ship := by decide +kernel
theorem flX9_ship_34 : Cond.fieldLink RX9 34 RX9 (TX9 11).2.1 (TX9 11).2.2.1 ∈ wsX9_ship := by decide +kernel
theorem flX9_ship_40 : Cond.fieldLink RX9 40 RX9 (TX9 19).2.1 (TX9 19).2.2.1 ∈ wsX9_ship := by decide +kernel
theorem flX9_ship_43 : Cond.fieldLink RX9 43 RX9 (TX9 20).2.1 (TX9 20).2.2.1 ∈ wsX9_ship := by decide +kernel
theorem flX9_ship_46 : Cond.fieldLink RX9 46 RX9 (TX9 21).2.1 (TX9 21).2.2.1 ∈ wsX9_ship := by decide +kernel
theorem flX9_ship_59 : Cond.fieldLink RX9 59 RX9 (TX9 31).2.1 (TX9 31).2.2.1 ∈ wsX9_ship := by decide +kernel
theorem flX9_ship_72 : Cond.fieldLink RX9 72 RX9 (TX9 14).2.1 (TX9 14).2.2.1 ∈ wsX9_ship := by decide +kernel
theorem flX9_ship_93 : Cond.fieldLink RX9 93 RX9 (TX9 5).2.1 (TX9 5).2.2.1 ∈ wsX9_ship := by decide +kernel
theorem flX9_ship_100 : Cond.fieldLink RX9 100 RX9 (TX9 6).2.1 (TX9 6).2.2.1 ∈ wsX9_ship := by decide +kernel
theorem flX9_ship_103 : Cond.fieldLink RX9 103 RX9 (TX9 7).2.1 (TX9 7).2.2.1 ∈ wsX9_ship := by decide +kernel
theorem flX9_ship_114 : Cond.fieldLink RX9 114 RX9 (TX9 12).2.1 (TX9 12).2.2.1 ∈ wsX9_ship := by decide +kernel
theorem flX9_ship_117 : Cond.fieldLink RX9 117 RX9 (TX9 13).2.1 (TX9 13).2.2.1 ∈ wsX9_ship := by decide +kernel
theorem flX9_ship_120 : Cond.fieldLink RX9 120 RX9 (TX9 22).2.1 (TX9 22).2.2.1 ∈ wsX9_ship := by decide +kernel
theorem flX9_ship_123 : Cond.fieldLink RX9 123 RX9 (TX9 23).2.1 (TX9 23).2.2.1 ∈ wsX9_ship := by decide +kernel
theorem flX9_ship_127 : Cond.fieldLink RX9 127 RX9 (TX9 24).2.1 (TX9 24).2.2.1 ∈ wsX9_ship := by decide +kernel
set_option maxHeartbeats 4000000 in
set_option maxRecDepth 100000 in
theorem ctX9_ship (l : Launch) (g : Gx) (lo : Nat) (ad : Nat → Nat) {F : Nat → va_E} {c : Nat → Int32} {q : Nat → Nat → Int32} {sm : Nat → Int64} {x : XV} (hM : MC g ad F c q sm) (hX : XR x c q) (okx : XOK x) : MI l g lo 196 ad yX9_ship wsX9_ship 4 92 [.ref (ad (175))] F (fun r F' => r = shipA x ∧ MX g ad F' (shipN x) ∧ Same 175 196 F F') := by
  obtain ⟨hTx, hR, ⟨hB, hwa, hsu⟩, hAx, hKx⟩ := id hX
  obtain ⟨okT, ok, hw, okA, okS, okAu, okSu⟩ := id okx
  have okn := ok.1
  have okp := ok.2.1
  have okh := ok.2.2.1
  have okt := okT.1
  have hS : Same 175 196 F F := Same.rf
  have hb : 0 ≤ 50 := by decide
  have hwa3 := hw.2.1
  refine enter (cc := cX9_ship) (maxL := 2) (ret := some .int) (own := RX9) (by decide +kernel) rfl rfl (Nat.le_of_ble_eq_true rfl) ?_
  intro pp ee ss mm below meth cc B hini hC ls hl
  have hl : lv_has ls 2 [(0, .ref (ad (175)))] := hl
  refine lv_aload_n B.1 B.2.1 dX9_ship_0 rfl (lv_at hl 0 rfl) ?_
  refine r_calli B hC hl.1 (175) 9 rfl rfl (by decide) hM.1 (As := []) (ctX9_readText l g lo ad hM okT hTx) gX9_ship_X9_readText rfl (n := 0) rfl (by decide +kernel) ⟨Nat.le_of_ble_eq_true rfl, Nat.le_of_ble_eq_true rfl⟩ ⟨Nat.zero_le _, Nat.zero_le _⟩ rfl (Nat.le_of_ble_eq_true rfl) dX9_ship_1 (fun r1 F1 H locs hp1 hC => ?_)
  obtain ⟨hr, c1, q1, hM_F1, hT_F1, hsc, hres⟩ := hp1
  have hS_F1 : Same 175 196 F F1 := Same.tr2 hS hT_F1 (by decide) (by decide)
  refine r_tI (y := oI (fAll (xt x))) hr ?_
  refine lv_bipush (v := (-9)) B.1 B.2.1 dX9_ship_4 (by decide) ?_
  refine lv_icmp_eq (tgt := 12) B.1 B.2.1 dX9_ship_6 (by decide) (fun c_6 => ?_) (fun c_6 => ?_)
  · have q_6 : fAll (xt x) = none := (oI_9 (fun k hk => Nat.lt_of_le_of_lt (fAll_le hk) (by decide))).mp c_6
    obtain ⟨n, hn10, hwl, hend, h5, h6, h7, hrd⟩ := hres q_6
    refine lv_aload_n B.1 B.2.1 dX9_ship_12 rfl (lv_at hl 0 rfl) ?_
    refine lv_aload_n B.1 B.2.1 dX9_ship_13 rfl (lv_at hl 0 rfl) ?_
    refine r_cg B hC (i := 175) (by decide) hM_F1.1 (C := RX9) (T := TX9) (n := 35) rfl iwX9_ship_X9 5 (by decide) (index := 93) flX9_ship_93 rfl (v := .int (c1 5)) rfl dX9_ship_14 ?_
    refine r_tI (y := nI n) (h5) ?_
    obtain ⟨c2, ec2⟩ : ∃ f, f = va_up c1 12 (nI n) := ⟨_, rfl⟩
    refine r_cp B hC (i := 175) (by decide) hM_F1.1 tyX9 tyX9_ok nmX9 (C := RX9) (T := TX9) rfl iwX9_ship_X9 12 (by decide) (index := 114) flX9_ship_114 rfl rfl (v := .int (nI n)) (rfl) (rfl) (Nat.le_of_ble_eq_true rfl) dX9_ship_17 ?_
    intro H locs hC
    obtain ⟨F2, eF2⟩ : ∃ f, f = va_up F1 175 (mObj ad c2) := ⟨_, rfl⟩
    have hC : Cu g lo 196 ad F2 ss ss.heap H locs := by rw [eF2, ec2]; exact hC
    have hM_F2 : MC g ad F2 c2 q1 sm := hM_F1.fld eF2
    have cv5_F2 : c2 5 = nI n := by rw [ec2, va_up_ne _ _ (by decide)]; exact h5
    have cv6_F2 : c2 6 = nI (fig (xt x) 1) := by rw [ec2, va_up_ne _ _ (by decide)]; exact h6
    have cv7_F2 : c2 7 = nI (10 * fig (xt x) 2 + fig (xt x) 3) := by rw [ec2, va_up_ne _ _ (by decide)]; exact h7
    have cv12_F2 : c2 12 = nI n := by rw [ec2, va_up_self]
    have hS_F2 : Same 175 196 F F2 := by rw [eF2]; exact hS_F1.up (by decide) (by decide)
    refine lv_aload_n B.1 B.2.1 dX9_ship_20 rfl (lv_at hl 0 rfl) ?_
    refine lv_aload_n B.1 B.2.1 dX9_ship_21 rfl (lv_at hl 0 rfl) ?_
    refine r_cg B hC (i := 175) (by decide) hM_F2.1 (C := RX9) (T := TX9) (n := 35) rfl iwX9_ship_X9 6 (by decide) (index := 100) flX9_ship_100 rfl (v := .int (c2 6)) rfl dX9_ship_22 ?_
    refine r_tI (y := nI (fig (xt x) 1)) (cv6_F2) ?_
    obtain ⟨c3, ec3⟩ : ∃ f, f = va_up c2 13 (nI (fig (xt x) 1)) := ⟨_, rfl⟩
    refine r_cp B hC (i := 175) (by decide) hM_F2.1 tyX9 tyX9_ok nmX9 (C := RX9) (T := TX9) rfl iwX9_ship_X9 13 (by decide) (index := 117) flX9_ship_117 rfl rfl (v := .int (nI (fig (xt x) 1))) (rfl) (rfl) (Nat.le_of_ble_eq_true rfl) dX9_ship_25 ?_
    intro H locs hC
    obtain ⟨F3, eF3⟩ : ∃ f, f = va_up F2 175 (mObj ad c3) := ⟨_, rfl⟩
    have hC : Cu g lo 196 ad F3 ss ss.heap H locs := by rw [eF3, ec3]; exact hC
    have hM_F3 : MC g ad F3 c3 q1 sm := hM_F2.fld eF3
    have cv5_F3 : c3 5 = nI n := by rw [ec3, va_up_ne _ _ (by decide)]; exact cv5_F2
    have cv6_F3 : c3 6 = nI (fig (xt x) 1) := by rw [ec3, va_up_ne _ _ (by decide)]; exact cv6_F2
    have cv7_F3 : c3 7 = nI (10 * fig (xt x) 2 + fig (xt x) 3) := by rw [ec3, va_up_ne _ _ (by decide)]; exact cv7_F2
    have cv12_F3 : c3 12 = nI n := by rw [ec3, va_up_ne _ _ (by decide)]; exact cv12_F2
    have cv13_F3 : c3 13 = nI (fig (xt x) 1) := by rw [ec3, va_up_self]
    have hS_F3 : Same 175 196 F F3 := by rw [eF3]; exact hS_F2.up (by decide) (by decide)
    refine lv_aload_n B.1 B.2.1 dX9_ship_28 rfl (lv_at hl 0 rfl) ?_
    refine lv_aload_n B.1 B.2.1 dX9_ship_29 rfl (lv_at hl 0 rfl) ?_
    refine r_cg B hC (i := 175) (by decide) hM_F3.1 (C := RX9) (T := TX9) (n := 35) rfl iwX9_ship_X9 7 (by decide) (index := 103) flX9_ship_103 rfl (v := .int (c3 7)) rfl dX9_ship_30 ?_
    refine r_tI (y := nI (10 * fig (xt x) 2 + fig (xt x) 3)) (cv7_F3) ?_
    obtain ⟨c4, ec4⟩ : ∃ f, f = va_up c3 14 (nI (10 * fig (xt x) 2 + fig (xt x) 3)) := ⟨_, rfl⟩
    refine r_cp B hC (i := 175) (by decide) hM_F3.1 tyX9 tyX9_ok nmX9 (C := RX9) (T := TX9) rfl iwX9_ship_X9 14 (by decide) (index := 72) flX9_ship_72 rfl rfl (v := .int (nI (10 * fig (xt x) 2 + fig (xt x) 3))) (rfl) (rfl) (Nat.le_of_ble_eq_true rfl) dX9_ship_33 ?_
    intro H locs hC
    obtain ⟨F4, eF4⟩ : ∃ f, f = va_up F3 175 (mObj ad c4) := ⟨_, rfl⟩
    have hC : Cu g lo 196 ad F4 ss ss.heap H locs := by rw [eF4, ec4]; exact hC
    have hM_F4 : MC g ad F4 c4 q1 sm := hM_F3.fld eF4
    have cv5_F4 : c4 5 = nI n := by rw [ec4, va_up_ne _ _ (by decide)]; exact cv5_F3
    have cv6_F4 : c4 6 = nI (fig (xt x) 1) := by rw [ec4, va_up_ne _ _ (by decide)]; exact cv6_F3
    have cv7_F4 : c4 7 = nI (10 * fig (xt x) 2 + fig (xt x) 3) := by rw [ec4, va_up_ne _ _ (by decide)]; exact cv7_F3
    have cv12_F4 : c4 12 = nI n := by rw [ec4, va_up_ne _ _ (by decide)]; exact cv12_F3
    have cv13_F4 : c4 13 = nI (fig (xt x) 1) := by rw [ec4, va_up_ne _ _ (by decide)]; exact cv13_F3
    have cv14_F4 : c4 14 = nI (10 * fig (xt x) 2 + fig (xt x) 3) := by rw [ec4, va_up_self]
    have hS_F4 : Same 175 196 F F4 := by rw [eF4]; exact hS_F3.up (by decide) (by decide)
    refine lv_iconst (v := nI 0) B.1 B.2.1 dX9_ship_36 (by decide) ?_
    refine lv_istore_n (lv' := [(1, .int (nI 0)), (0, .ref (ad (175)))]) B.1 B.2.1 dX9_ship_37 rfl hl (by decide) rfl (fun ls hl => ?_)
    have loop38 : ∀ (k : Nat) (t : Nat) (c2 : Nat → Int32) (q2 : Nat → Nat → Int32) (G : Nat → va_E), (t + k = n) → (CQ [12, 13, 14, 22, 23, 24] [181, 182, 183, 184, 186, 187, 188, 192] c1 c2 q1 q2) → (MC g ad G c2 q2 sm) → (Same 175 196 F G) → (c2 12 = nI n) → (c2 13 = nI (fig (xt x) 1)) → (c2 14 = nI (10 * fig (xt x) 2 + fig (xt x) 3)) → (SH (xt x) t q2) → ∀ (H : Heap) (locs : List Loc) (ls : Array Slot), Cu g lo 196 ad G ss ss.heap H locs → lv_has ls 2 [(1, .int (nI t)), (0, .ref (ad (175)))] → W pp l ee { frames := 4, cells := 0, slots := 0, locals := 92 } ss mm ([.ref (ad (175))] : List Value).toArray below meth cc H locs 0 0 (MQ below (va_Qi (fun r F' => r = shipA x ∧ MX g ad F' (shipN x) ∧ Same 175 196 F F') (fun F' t => Wd g lo 196 ad F' t) (fun q => lo ≤ q)) ([.ref (ad (175))] : List Value).toArray ss 0 0 (fun q => lo ≤ q)) (F0 mm 38 ls []) := by
      intro k
      induction k with
      | zero =>
        intro t c2 q2 G htk hK2 hM2 hS2 e12 e13 e14 hSH H locs ls hC hl
        refine lv_iload_n B.1 B.2.1 dX9_ship_38 rfl (lv_at hl 0 rfl) ?_
        refine lv_aload_n B.1 B.2.1 dX9_ship_39 rfl (lv_at hl 1 rfl) ?_
        refine r_cg B hC (i := 175) (by decide) hM2.1 (C := RX9) (T := TX9) (n := 35) rfl iwX9_ship_X9 12 (by decide) (index := 114) flX9_ship_114 rfl (v := .int (c2 12)) rfl dX9_ship_40 ?_
        refine r_tI (y := nI n) (e12) ?_
        refine lv_icmp_ge (tgt := 163) B.1 B.2.1 dX9_ship_43 (by decide) (fun _ => ?_) (fun z => absurd (nI_le (by omega) (by omega)) z)
        refine lv_aload_n B.1 B.2.1 dX9_ship_163 rfl (lv_at hl 1 rfl) ?_
        refine lv_iconst (v := nI 0) B.1 B.2.1 dX9_ship_164 (by decide) ?_
        obtain ⟨c41, ec41⟩ : ∃ f, f = va_up c2 22 (nI 0) := ⟨_, rfl⟩
        refine r_cp B hC (i := 175) (by decide) hM2.1 tyX9 tyX9_ok nmX9 (C := RX9) (T := TX9) rfl iwX9_ship_X9 22 (by decide) (index := 120) flX9_ship_120 rfl rfl (v := .int (nI 0)) (rfl) (rfl) (Nat.le_of_ble_eq_true rfl) dX9_ship_165 ?_
        intro H locs hC
        obtain ⟨F41, eF41⟩ : ∃ f, f = va_up G 175 (mObj ad c41) := ⟨_, rfl⟩
        have hC : Cu g lo 196 ad F41 ss ss.heap H locs := by rw [eF41, ec41]; exact hC
        have hM_F41 : MC g ad F41 c41 q2 sm := hM2.fld eF41
        have cv12_F41 : c41 12 = nI n := by rw [ec41, va_up_ne _ _ (by decide)]; exact e12
        have cv13_F41 : c41 13 = nI (fig (xt x) 1) := by rw [ec41, va_up_ne _ _ (by decide)]; exact e13
        have cv14_F41 : c41 14 = nI (10 * fig (xt x) 2 + fig (xt x) 3) := by rw [ec41, va_up_ne _ _ (by decide)]; exact e14
        have cv22_F41 : c41 22 = nI 0 := by rw [ec41, va_up_self]
        have hS_F41 : Same 175 196 F F41 := by rw [eF41]; exact hS2.up (by decide) (by decide)
        refine lv_aload_n B.1 B.2.1 dX9_ship_168 rfl (lv_at hl 1 rfl) ?_
        refine lv_iconst (v := nI 0) B.1 B.2.1 dX9_ship_169 (by decide) ?_
        obtain ⟨c42, ec42⟩ : ∃ f, f = va_up c41 23 (nI 0) := ⟨_, rfl⟩
        refine r_cp B hC (i := 175) (by decide) hM_F41.1 tyX9 tyX9_ok nmX9 (C := RX9) (T := TX9) rfl iwX9_ship_X9 23 (by decide) (index := 123) flX9_ship_123 rfl rfl (v := .int (nI 0)) (rfl) (rfl) (Nat.le_of_ble_eq_true rfl) dX9_ship_170 ?_
        intro H locs hC
        obtain ⟨F42, eF42⟩ : ∃ f, f = va_up F41 175 (mObj ad c42) := ⟨_, rfl⟩
        have hC : Cu g lo 196 ad F42 ss ss.heap H locs := by rw [eF42, ec42]; exact hC
        have hM_F42 : MC g ad F42 c42 q2 sm := hM_F41.fld eF42
        have cv12_F42 : c42 12 = nI n := by rw [ec42, va_up_ne _ _ (by decide)]; exact cv12_F41
        have cv13_F42 : c42 13 = nI (fig (xt x) 1) := by rw [ec42, va_up_ne _ _ (by decide)]; exact cv13_F41
        have cv14_F42 : c42 14 = nI (10 * fig (xt x) 2 + fig (xt x) 3) := by rw [ec42, va_up_ne _ _ (by decide)]; exact cv14_F41
        have cv22_F42 : c42 22 = nI 0 := by rw [ec42, va_up_ne _ _ (by decide)]; exact cv22_F41
        have cv23_F42 : c42 23 = nI 0 := by rw [ec42, va_up_self]
        have hS_F42 : Same 175 196 F F42 := by rw [eF42]; exact hS_F41.up (by decide) (by decide)
        refine lv_aload_n B.1 B.2.1 dX9_ship_173 rfl (lv_at hl 1 rfl) ?_
        refine lv_iconst (v := nI 0) B.1 B.2.1 dX9_ship_174 (by decide) ?_
        obtain ⟨c43, ec43⟩ : ∃ f, f = va_up c42 24 (nI 0) := ⟨_, rfl⟩
        refine r_cp B hC (i := 175) (by decide) hM_F42.1 tyX9 tyX9_ok nmX9 (C := RX9) (T := TX9) rfl iwX9_ship_X9 24 (by decide) (index := 127) flX9_ship_127 rfl rfl (v := .int (nI 0)) (rfl) (rfl) (Nat.le_of_ble_eq_true rfl) dX9_ship_175 ?_
        intro H locs hC
        obtain ⟨F43, eF43⟩ : ∃ f, f = va_up F42 175 (mObj ad c43) := ⟨_, rfl⟩
        have hC : Cu g lo 196 ad F43 ss ss.heap H locs := by rw [eF43, ec43]; exact hC
        have hM_F43 : MC g ad F43 c43 q2 sm := hM_F42.fld eF43
        have cv12_F43 : c43 12 = nI n := by rw [ec43, va_up_ne _ _ (by decide)]; exact cv12_F42
        have cv13_F43 : c43 13 = nI (fig (xt x) 1) := by rw [ec43, va_up_ne _ _ (by decide)]; exact cv13_F42
        have cv14_F43 : c43 14 = nI (10 * fig (xt x) 2 + fig (xt x) 3) := by rw [ec43, va_up_ne _ _ (by decide)]; exact cv14_F42
        have cv22_F43 : c43 22 = nI 0 := by rw [ec43, va_up_ne _ _ (by decide)]; exact cv22_F42
        have cv23_F43 : c43 23 = nI 0 := by rw [ec43, va_up_ne _ _ (by decide)]; exact cv23_F42
        have cv24_F43 : c43 24 = nI 0 := by rw [ec43, va_up_self]
        have hS_F43 : Same 175 196 F F43 := by rw [eF43]; exact hS_F42.up (by decide) (by decide)
        refine lv_aload_n B.1 B.2.1 dX9_ship_178 rfl (lv_at hl 1 rfl) ?_
        refine r_cg B hC (i := 175) (by decide) hM_F43.1 (C := RX9) (T := TX9) (n := 35) rfl iwX9_ship_X9 31 (by decide) (index := 59) flX9_ship_59 rfl (v := .ref (ad (192))) rfl dX9_ship_179 ?_
        refine lv_iconst (v := nI 0) B.1 B.2.1 dX9_ship_182 (by decide) ?_
        refine lv_iconst (v := nI 0) B.1 B.2.1 dX9_ship_183 (by decide) ?_
        refine r_czast B hC (i := 192) (by decide) hM_F43.c192 (j := 0) (by omega) (by decide) dX9_ship_184 ?_
        intro H locs hC
        rw [show vp_nar .boolean (nI 0) = nI 0 from rfl] at hC
        obtain ⟨F44, eF44⟩ : ∃ f : Nat → va_E, f = va_up F43 192 (.inl (g.2.2 3, 2, .inl (upd (q2 192) (0) (nI 0)))) := ⟨_, rfl⟩
        have hC : Cu g lo 196 ad F44 ss ss.heap H locs := by rw [eF44]; exact hC
        obtain ⟨q44, eq44⟩ : ∃ f, f = va_up q2 192 (upd (q2 192) (0) (nI 0)) := ⟨_, rfl⟩
        have hM_F44 : MC g ad F44 c43 q44 sm := by rw [eq44]; exact hM_F43.arr (by decide) (by decide) (by decide) (by decide) (by decide) eF44
        have hS_F44 : Same 175 196 F F44 := by rw [eF44]; exact hS_F43.up (by decide) (by decide)
        have u184 := u1_of eq44
        refine lv_aload_n B.1 B.2.1 dX9_ship_185 rfl (lv_at hl 1 rfl) ?_
        refine r_cg B hC (i := 175) (by decide) hM_F44.1 (C := RX9) (T := TX9) (n := 35) rfl iwX9_ship_X9 31 (by decide) (index := 59) flX9_ship_59 rfl (v := .ref (ad (192))) rfl dX9_ship_186 ?_
        refine lv_iconst (v := nI 1) B.1 B.2.1 dX9_ship_189 (by decide) ?_
        refine lv_iconst (v := nI 0) B.1 B.2.1 dX9_ship_190 (by decide) ?_
        refine r_czast B hC (i := 192) (by decide) hM_F44.c192 (j := 1) (by omega) (by decide) dX9_ship_191 ?_
        intro H locs hC
        rw [show vp_nar .boolean (nI 0) = nI 0 from rfl] at hC
        obtain ⟨F45, eF45⟩ : ∃ f : Nat → va_E, f = va_up F44 192 (.inl (g.2.2 3, 2, .inl (upd (q44 192) (1) (nI 0)))) := ⟨_, rfl⟩
        have hC : Cu g lo 196 ad F45 ss ss.heap H locs := by rw [eF45]; exact hC
        obtain ⟨q45, eq45⟩ : ∃ f, f = va_up q44 192 (upd (q44 192) (1) (nI 0)) := ⟨_, rfl⟩
        have hM_F45 : MC g ad F45 c43 q45 sm := by rw [eq45]; exact hM_F44.arr (by decide) (by decide) (by decide) (by decide) (by decide) eF45
        have hS_F45 : Same 175 196 F F45 := by rw [eF45]; exact hS_F44.up (by decide) (by decide)
        have u191 := u1_of eq45
        refine lv_aload_n B.1 B.2.1 dX9_ship_192 rfl (lv_at hl 1 rfl) ?_
        refine r_cg B hC (i := 175) (by decide) hM_F45.1 (C := RX9) (T := TX9) (n := 35) rfl iwX9_ship_X9 12 (by decide) (index := 114) flX9_ship_114 rfl (v := .int (c43 12)) rfl dX9_ship_193 ?_
        refine r_tI (y := nI n) (cv12_F43) ?_
        exact r_eI B hC (v := nI n) (⟨by rw [shipA, if_pos q_6, (hull_spec hn10 (fun p hp => (hwl p hp).1) hend).1], by rw [shipN, if_pos q_6]; exact ⟨_, _, _, hM_F45, ship_in (hX.scr hsc okn) hn10 hwl hend (((((hK2.uc ec41 (by decide)).uc ec42 (by decide)).uc ec43 (by decide)).uq eq44 (by decide)).uq eq45 (by decide)) cv12_F43 cv13_F43 cv14_F43 cv22_F43 cv23_F43 cv24_F43 ((show t = n by omega) ▸ hSH) (fun i hi => by rw [u191.1 i hi, u184.1 i hi]) ⟨by rw [u191.2.1 0 (by decide)]; exact u184.2.2, u191.2.2⟩⟩, hS_F45⟩) dX9_ship_196
      | succ k ih38 =>
        intro t c2 q2 G htk hK2 hM2 hS2 e12 e13 e14 hSH H locs ls hC hl
        refine lv_iload_n B.1 B.2.1 dX9_ship_38 rfl (lv_at hl 0 rfl) ?_
        refine lv_aload_n B.1 B.2.1 dX9_ship_39 rfl (lv_at hl 1 rfl) ?_
        refine r_cg B hC (i := 175) (by decide) hM2.1 (C := RX9) (T := TX9) (n := 35) rfl iwX9_ship_X9 12 (by decide) (index := 114) flX9_ship_114 rfl (v := .int (c2 12)) rfl dX9_ship_40 ?_
        refine r_tI (y := nI n) (e12) ?_
        refine lv_icmp_ge (tgt := 163) B.1 B.2.1 dX9_ship_43 (by decide) (fun z => absurd z (nI_ge (by omega) (by omega))) (fun _ => ?_)
        refine lv_aload_n B.1 B.2.1 dX9_ship_46 rfl (lv_at hl 1 rfl) ?_
        refine r_cg B hC (i := 175) (by decide) hM2.1 (C := RX9) (T := TX9) (n := 35) rfl iwX9_ship_X9 8 (by decide) (index := 25) flX9_ship_25 rfl (v := .ref (ad (181))) rfl dX9_ship_47 ?_
        refine lv_iload_n B.1 B.2.1 dX9_ship_50 rfl (lv_at hl 0 rfl) ?_
        refine lv_aload_n B.1 B.2.1 dX9_ship_51 rfl (lv_at hl 1 rfl) ?_
        refine r_cg B hC (i := 175) (by decide) hM2.1 (C := RX9) (T := TX9) (n := 35) rfl iwX9_ship_X9 0 (by decide) (index := 7) flX9_ship_7 rfl (v := .ref (ad (176))) rfl dX9_ship_52 ?_
        refine lv_iload_n B.1 B.2.1 dX9_ship_55 rfl (lv_at hl 0 rfl) ?_
        refine r_cald B hC (i := 176) (by decide) hM2.c176 (j := t) (by omega) (by decide) dX9_ship_56 ?_
        refine r_tI (y := q2 176 t) rfl ?_
        refine r_tI (y := nI (fig (xt x) (off (xt x) t + 1))) (by rw [hK2.2 176 (by decide)]; exact (hrd t (by omega)).1) ?_
        refine r_cast B hC (i := 181) (by decide) hM2.c181 (j := t) (by omega) (by decide) dX9_ship_57 ?_
        intro H locs hC
        obtain ⟨F41, eF41⟩ : ∃ f : Nat → va_E, f = va_up G 181 (.inl (g.2.2 0, 10, .inl (upd (q2 181) (t) (nI (fig (xt x) (off (xt x) t + 1)))))) := ⟨_, rfl⟩
        have hC : Cu g lo 196 ad F41 ss ss.heap H locs := by rw [eF41]; exact hC
        obtain ⟨q41, eq41⟩ : ∃ f, f = va_up q2 181 (upd (q2 181) (t) (nI (fig (xt x) (off (xt x) t + 1)))) := ⟨_, rfl⟩
        have hM_F41 : MC g ad F41 c2 q41 sm := by rw [eq41]; exact hM2.arr (by decide) (by decide) (by decide) (by decide) (by decide) eF41
        have hS_F41 : Same 175 196 F F41 := by rw [eF41]; exact hS2.up (by decide) (by decide)
        have u57 := u1_of eq41
        refine lv_aload_n B.1 B.2.1 dX9_ship_58 rfl (lv_at hl 1 rfl) ?_
        refine r_cg B hC (i := 175) (by decide) hM_F41.1 (C := RX9) (T := TX9) (n := 35) rfl iwX9_ship_X9 9 (by decide) (index := 28) flX9_ship_28 rfl (v := .ref (ad (182))) rfl dX9_ship_59 ?_
        refine lv_iload_n B.1 B.2.1 dX9_ship_62 rfl (lv_at hl 0 rfl) ?_
        refine lv_aload_n B.1 B.2.1 dX9_ship_63 rfl (lv_at hl 1 rfl) ?_
        refine r_cg B hC (i := 175) (by decide) hM_F41.1 (C := RX9) (T := TX9) (n := 35) rfl iwX9_ship_X9 1 (by decide) (index := 13) flX9_ship_13 rfl (v := .ref (ad (177))) rfl dX9_ship_64 ?_
        refine lv_iload_n B.1 B.2.1 dX9_ship_67 rfl (lv_at hl 0 rfl) ?_
        refine r_cald B hC (i := 177) (by decide) hM_F41.c177 (j := t) (by omega) (by decide) dX9_ship_68 ?_
        refine r_tI (y := q41 177 t) rfl ?_
        refine r_tI (y := nI (fig (xt x) (off (xt x) t + 2))) (by rw [(hK2.uq eq41 (by decide)).2 177 (by decide)]; exact (hrd t (by omega)).2.1) ?_
        refine r_cast B hC (i := 182) (by decide) hM_F41.c182 (j := t) (by omega) (by decide) dX9_ship_69 ?_
        intro H locs hC
        obtain ⟨F42, eF42⟩ : ∃ f : Nat → va_E, f = va_up F41 182 (.inl (g.2.2 0, 10, .inl (upd (q41 182) (t) (nI (fig (xt x) (off (xt x) t + 2)))))) := ⟨_, rfl⟩
        have hC : Cu g lo 196 ad F42 ss ss.heap H locs := by rw [eF42]; exact hC
        obtain ⟨q42, eq42⟩ : ∃ f, f = va_up q41 182 (upd (q41 182) (t) (nI (fig (xt x) (off (xt x) t + 2)))) := ⟨_, rfl⟩
        have hM_F42 : MC g ad F42 c2 q42 sm := by rw [eq42]; exact hM_F41.arr (by decide) (by decide) (by decide) (by decide) (by decide) eF42
        have hS_F42 : Same 175 196 F F42 := by rw [eF42]; exact hS_F41.up (by decide) (by decide)
        have u69 := u1_of eq42
        refine lv_aload_n B.1 B.2.1 dX9_ship_70 rfl (lv_at hl 1 rfl) ?_
        refine r_cg B hC (i := 175) (by decide) hM_F42.1 (C := RX9) (T := TX9) (n := 35) rfl iwX9_ship_X9 10 (by decide) (index := 31) flX9_ship_31 rfl (v := .ref (ad (183))) rfl dX9_ship_71 ?_
        refine lv_iload_n B.1 B.2.1 dX9_ship_74 rfl (lv_at hl 0 rfl) ?_
        refine lv_aload_n B.1 B.2.1 dX9_ship_75 rfl (lv_at hl 1 rfl) ?_
        refine r_cg B hC (i := 175) (by decide) hM_F42.1 (C := RX9) (T := TX9) (n := 35) rfl iwX9_ship_X9 2 (by decide) (index := 16) flX9_ship_16 rfl (v := .ref (ad (178))) rfl dX9_ship_76 ?_
        refine lv_iload_n B.1 B.2.1 dX9_ship_79 rfl (lv_at hl 0 rfl) ?_
        refine r_cald B hC (i := 178) (by decide) hM_F42.c178 (j := t) (by omega) (by decide) dX9_ship_80 ?_
        refine r_tI (y := q42 178 t) rfl ?_
        refine r_tI (y := oI (reT (xt x) (off (xt x) t))) (by rw [((hK2.uq eq41 (by decide)).uq eq42 (by decide)).2 178 (by decide)]; exact (hrd t (by omega)).2.2.1) ?_
        refine r_cast B hC (i := 183) (by decide) hM_F42.c183 (j := t) (by omega) (by decide) dX9_ship_81 ?_
        intro H locs hC
        obtain ⟨F43, eF43⟩ : ∃ f : Nat → va_E, f = va_up F42 183 (.inl (g.2.2 0, 10, .inl (upd (q42 183) (t) (oI (reT (xt x) (off (xt x) t)))))) := ⟨_, rfl⟩
        have hC : Cu g lo 196 ad F43 ss ss.heap H locs := by rw [eF43]; exact hC
        obtain ⟨q43, eq43⟩ : ∃ f, f = va_up q42 183 (upd (q42 183) (t) (oI (reT (xt x) (off (xt x) t)))) := ⟨_, rfl⟩
        have hM_F43 : MC g ad F43 c2 q43 sm := by rw [eq43]; exact hM_F42.arr (by decide) (by decide) (by decide) (by decide) (by decide) eF43
        have hS_F43 : Same 175 196 F F43 := by rw [eF43]; exact hS_F42.up (by decide) (by decide)
        have u81 := u1_of eq43
        refine lv_aload_n B.1 B.2.1 dX9_ship_82 rfl (lv_at hl 1 rfl) ?_
        refine r_cg B hC (i := 175) (by decide) hM_F43.1 (C := RX9) (T := TX9) (n := 35) rfl iwX9_ship_X9 11 (by decide) (index := 34) flX9_ship_34 rfl (v := .ref (ad (184))) rfl dX9_ship_83 ?_
        refine lv_iload_n B.1 B.2.1 dX9_ship_86 rfl (lv_at hl 0 rfl) ?_
        refine lv_aload_n B.1 B.2.1 dX9_ship_87 rfl (lv_at hl 1 rfl) ?_
        refine r_cg B hC (i := 175) (by decide) hM_F43.1 (C := RX9) (T := TX9) (n := 35) rfl iwX9_ship_X9 3 (by decide) (index := 19) flX9_ship_19 rfl (v := .ref (ad (179))) rfl dX9_ship_88 ?_
        refine lv_iload_n B.1 B.2.1 dX9_ship_91 rfl (lv_at hl 0 rfl) ?_
        refine r_cald B hC (i := 179) (by decide) hM_F43.c179 (j := t) (by omega) (by decide) dX9_ship_92 ?_
        refine r_tI (y := q43 179 t) rfl ?_
        refine r_tI (y := oI (shT (xt x) (off (xt x) t))) (by rw [(((hK2.uq eq41 (by decide)).uq eq42 (by decide)).uq eq43 (by decide)).2 179 (by decide)]; exact (hrd t (by omega)).2.2.2.1) ?_
        refine r_cast B hC (i := 184) (by decide) hM_F43.c184 (j := t) (by omega) (by decide) dX9_ship_93 ?_
        intro H locs hC
        obtain ⟨F44, eF44⟩ : ∃ f : Nat → va_E, f = va_up F43 184 (.inl (g.2.2 0, 10, .inl (upd (q43 184) (t) (oI (shT (xt x) (off (xt x) t)))))) := ⟨_, rfl⟩
        have hC : Cu g lo 196 ad F44 ss ss.heap H locs := by rw [eF44]; exact hC
        obtain ⟨q44, eq44⟩ : ∃ f, f = va_up q43 184 (upd (q43 184) (t) (oI (shT (xt x) (off (xt x) t)))) := ⟨_, rfl⟩
        have hM_F44 : MC g ad F44 c2 q44 sm := by rw [eq44]; exact hM_F43.arr (by decide) (by decide) (by decide) (by decide) (by decide) eF44
        have hS_F44 : Same 175 196 F F44 := by rw [eF44]; exact hS_F43.up (by decide) (by decide)
        have u93 := u1_of eq44
        refine lv_aload_n B.1 B.2.1 dX9_ship_94 rfl (lv_at hl 1 rfl) ?_
        refine r_cg B hC (i := 175) (by decide) hM_F44.1 (C := RX9) (T := TX9) (n := 35) rfl iwX9_ship_X9 19 (by decide) (index := 40) flX9_ship_40 rfl (v := .ref (ad (186))) rfl dX9_ship_95 ?_
        refine lv_iload_n B.1 B.2.1 dX9_ship_98 rfl (lv_at hl 0 rfl) ?_
        refine lv_aload_n B.1 B.2.1 dX9_ship_99 rfl (lv_at hl 1 rfl) ?_
        refine r_cg B hC (i := 175) (by decide) hM_F44.1 (C := RX9) (T := TX9) (n := 35) rfl iwX9_ship_X9 11 (by decide) (index := 34) flX9_ship_34 rfl (v := .ref (ad (184))) rfl dX9_ship_100 ?_
        refine lv_iload_n B.1 B.2.1 dX9_ship_103 rfl (lv_at hl 0 rfl) ?_
        refine r_cald B hC (i := 184) (by decide) hM_F44.c184 (j := t) (by omega) (by decide) dX9_ship_104 ?_
        refine r_tI (y := q44 184 t) rfl ?_
        refine r_tI (y := oI (shT (xt x) (off (xt x) t))) (u93.2.2) ?_
        refine lv_bipush (v := (-9)) B.1 B.2.1 dX9_ship_105 (by decide) ?_
        refine lv_icmp_ne (tgt := 116) B.1 B.2.1 dX9_ship_107 (by decide) (fun c_107 => ?_) (fun c_107 => ?_)
        · have q_107 : tat (xt x) (off (xt x) t) = some 80 := shT_80.mp (fun y => c_107 ((oI_9 (fun k hk => shT_lt okT hk)).mpr y))
          refine lv_iload_n B.1 B.2.1 dX9_ship_116 rfl (lv_at hl 0 rfl) ?_
          refine r_tI (y := nI (if tat (xt x) (off (xt x) t) = some 80 then t else 200)) (by rw [if_pos q_107]) ?_
          refine r_cast B hC (i := 186) (by decide) hM_F44.c186 (j := t) (by omega) (by decide) dX9_ship_117 ?_
          intro H locs hC
          obtain ⟨F45, eF45⟩ : ∃ f : Nat → va_E, f = va_up F44 186 (.inl (g.2.2 0, 60, .inl (upd (q44 186) (t) (nI (if tat (xt x) (off (xt x) t) = some 80 then t else 200))))) := ⟨_, rfl⟩
          have hC : Cu g lo 196 ad F45 ss ss.heap H locs := by rw [eF45]; exact hC
          obtain ⟨q45, eq45⟩ : ∃ f, f = va_up q44 186 (upd (q44 186) (t) (nI (if tat (xt x) (off (xt x) t) = some 80 then t else 200))) := ⟨_, rfl⟩
          have hM_F45 : MC g ad F45 c2 q45 sm := by rw [eq45]; exact hM_F44.arr (by decide) (by decide) (by decide) (by decide) (by decide) eF45
          have hS_F45 : Same 175 196 F F45 := by rw [eF45]; exact hS_F44.up (by decide) (by decide)
          have u117 := u1_of eq45
          refine lv_aload_n B.1 B.2.1 dX9_ship_118 rfl (lv_at hl 1 rfl) ?_
          refine r_cg B hC (i := 175) (by decide) hM_F45.1 (C := RX9) (T := TX9) (n := 35) rfl iwX9_ship_X9 20 (by decide) (index := 43) flX9_ship_43 rfl (v := .ref (ad (187))) rfl dX9_ship_119 ?_
          refine lv_iload_n B.1 B.2.1 dX9_ship_122 rfl (lv_at hl 0 rfl) ?_
          refine lv_aload_n B.1 B.2.1 dX9_ship_123 rfl (lv_at hl 1 rfl) ?_
          refine r_cg B hC (i := 175) (by decide) hM_F45.1 (C := RX9) (T := TX9) (n := 35) rfl iwX9_ship_X9 11 (by decide) (index := 34) flX9_ship_34 rfl (v := .ref (ad (184))) rfl dX9_ship_124 ?_
          refine lv_iload_n B.1 B.2.1 dX9_ship_127 rfl (lv_at hl 0 rfl) ?_
          refine r_cald B hC (i := 184) (by decide) hM_F45.c184 (j := t) (by omega) (by decide) dX9_ship_128 ?_
          refine r_tI (y := q45 184 t) rfl ?_
          refine r_tI (y := oI (shT (xt x) (off (xt x) t))) (by rw [u117.1 184 (by decide)]; exact u93.2.2) ?_
          refine lv_bipush (v := (-9)) B.1 B.2.1 dX9_ship_129 (by decide) ?_
          refine lv_icmp_ne (tgt := 138) B.1 B.2.1 dX9_ship_131 (by decide) (fun _ => ?_) (fun z => absurd z (c_107))
          refine lv_aload_n B.1 B.2.1 dX9_ship_138 rfl (lv_at hl 1 rfl) ?_
          refine r_cg B hC (i := 175) (by decide) hM_F45.1 (C := RX9) (T := TX9) (n := 35) rfl iwX9_ship_X9 8 (by decide) (index := 25) flX9_ship_25 rfl (v := .ref (ad (181))) rfl dX9_ship_139 ?_
          refine lv_iload_n B.1 B.2.1 dX9_ship_142 rfl (lv_at hl 0 rfl) ?_
          refine r_cald B hC (i := 181) (by decide) hM_F45.c181 (j := t) (by omega) (by decide) dX9_ship_143 ?_
          refine r_tI (y := q45 181 t) rfl ?_
          refine r_tI (y := nI (fig (xt x) (off (xt x) t + 1))) (by rw [u117.1 181 (by decide), u93.1 181 (by decide), u81.1 181 (by decide), u69.1 181 (by decide)]; exact u57.2.2) ?_
          refine r_tI (y := nI (if tat (xt x) (off (xt x) t) = some 80 then fig (xt x) (off (xt x) t + 1) else 0)) (by rw [if_pos q_107]) ?_
          refine r_cast B hC (i := 187) (by decide) hM_F45.c187 (j := t) (by omega) (by decide) dX9_ship_144 ?_
          intro H locs hC
          obtain ⟨F46, eF46⟩ : ∃ f : Nat → va_E, f = va_up F45 187 (.inl (g.2.2 0, 60, .inl (upd (q45 187) (t) (nI (if tat (xt x) (off (xt x) t) = some 80 then fig (xt x) (off (xt x) t + 1) else 0))))) := ⟨_, rfl⟩
          have hC : Cu g lo 196 ad F46 ss ss.heap H locs := by rw [eF46]; exact hC
          obtain ⟨q46, eq46⟩ : ∃ f, f = va_up q45 187 (upd (q45 187) (t) (nI (if tat (xt x) (off (xt x) t) = some 80 then fig (xt x) (off (xt x) t + 1) else 0))) := ⟨_, rfl⟩
          have hM_F46 : MC g ad F46 c2 q46 sm := by rw [eq46]; exact hM_F45.arr (by decide) (by decide) (by decide) (by decide) (by decide) eF46
          have hS_F46 : Same 175 196 F F46 := by rw [eF46]; exact hS_F45.up (by decide) (by decide)
          have u144 := u1_of eq46
          refine lv_aload_n B.1 B.2.1 dX9_ship_145 rfl (lv_at hl 1 rfl) ?_
          refine r_cg B hC (i := 175) (by decide) hM_F46.1 (C := RX9) (T := TX9) (n := 35) rfl iwX9_ship_X9 21 (by decide) (index := 46) flX9_ship_46 rfl (v := .ref (ad (188))) rfl dX9_ship_146 ?_
          refine lv_iload_n B.1 B.2.1 dX9_ship_149 rfl (lv_at hl 0 rfl) ?_
          refine lv_aload_n B.1 B.2.1 dX9_ship_150 rfl (lv_at hl 1 rfl) ?_
          refine r_cg B hC (i := 175) (by decide) hM_F46.1 (C := RX9) (T := TX9) (n := 35) rfl iwX9_ship_X9 4 (by decide) (index := 22) flX9_ship_22 rfl (v := .ref (ad (180))) rfl dX9_ship_151 ?_
          refine lv_iload_n B.1 B.2.1 dX9_ship_154 rfl (lv_at hl 0 rfl) ?_
          refine r_cald B hC (i := 180) (by decide) hM_F46.c180 (j := t) (by omega) (by decide) dX9_ship_155 ?_
          refine r_tI (y := q46 180 t) rfl ?_
          refine r_tI (y := nI (if tat (xt x) (off (xt x) t) = some 80 then fig (xt x) (off (xt x) t + 5) else 0)) (by rw [((((((hK2.uq eq41 (by decide)).uq eq42 (by decide)).uq eq43 (by decide)).uq eq44 (by decide)).uq eq45 (by decide)).uq eq46 (by decide)).2 180 (by decide)]; exact (hrd t (by omega)).2.2.2.2) ?_
          refine r_cast B hC (i := 188) (by decide) hM_F46.c188 (j := t) (by omega) (by decide) dX9_ship_156 ?_
          intro H locs hC
          obtain ⟨F47, eF47⟩ : ∃ f : Nat → va_E, f = va_up F46 188 (.inl (g.2.2 0, 60, .inl (upd (q46 188) (t) (nI (if tat (xt x) (off (xt x) t) = some 80 then fig (xt x) (off (xt x) t + 5) else 0))))) := ⟨_, rfl⟩
          have hC : Cu g lo 196 ad F47 ss ss.heap H locs := by rw [eF47]; exact hC
          obtain ⟨q47, eq47⟩ : ∃ f, f = va_up q46 188 (upd (q46 188) (t) (nI (if tat (xt x) (off (xt x) t) = some 80 then fig (xt x) (off (xt x) t + 5) else 0))) := ⟨_, rfl⟩
          have hM_F47 : MC g ad F47 c2 q47 sm := by rw [eq47]; exact hM_F46.arr (by decide) (by decide) (by decide) (by decide) (by decide) eF47
          have hS_F47 : Same 175 196 F F47 := by rw [eF47]; exact hS_F46.up (by decide) (by decide)
          have u156 := u1_of eq47
          refine lv_iinc (v := nI (t + 1)) (lv' := [(1, .int (nI (t + 1))), (0, .ref (ad (175)))]) B.1 B.2.1 dX9_ship_157 hl (k := 0) rfl (nI_1 _) (by decide) rfl (fun ls hl => ?_)
          refine lv_goto (tgt := 38) B.1 B.2.1 dX9_ship_160 (by decide) ?_
          exact ih38 (t + 1) c2 q47 F47 (by omega) (((((((hK2.uq eq41 (by decide)).uq eq42 (by decide)).uq eq43 (by decide)).uq eq44 (by decide)).uq eq45 (by decide)).uq eq46 (by decide)).uq eq47 (by decide)) hM_F47 hS_F47 e12 e13 e14 (sh_step hSH u57 u69 u81 u93 u117 u144 u156) _ _ ls hC (lv_sub hl [0, 1] rfl)
        · have q_107 : ¬ tat (xt x) (off (xt x) t) = some 80 := fun y => shT_80.mpr y ((oI_9 (fun k hk => shT_lt okT hk)).mp c_107)
          refine lv_sipush (v := nI 200) B.1 B.2.1 dX9_ship_110 (by decide) ?_
          refine lv_goto (tgt := 117) B.1 B.2.1 dX9_ship_113 (by decide) ?_
          refine r_tI (y := nI (if tat (xt x) (off (xt x) t) = some 80 then t else 200)) (by rw [if_neg q_107]) ?_
          refine r_cast B hC (i := 186) (by decide) hM_F44.c186 (j := t) (by omega) (by decide) dX9_ship_117 ?_
          intro H locs hC
          obtain ⟨F45, eF45⟩ : ∃ f : Nat → va_E, f = va_up F44 186 (.inl (g.2.2 0, 60, .inl (upd (q44 186) (t) (nI (if tat (xt x) (off (xt x) t) = some 80 then t else 200))))) := ⟨_, rfl⟩
          have hC : Cu g lo 196 ad F45 ss ss.heap H locs := by rw [eF45]; exact hC
          obtain ⟨q45, eq45⟩ : ∃ f, f = va_up q44 186 (upd (q44 186) (t) (nI (if tat (xt x) (off (xt x) t) = some 80 then t else 200))) := ⟨_, rfl⟩
          have hM_F45 : MC g ad F45 c2 q45 sm := by rw [eq45]; exact hM_F44.arr (by decide) (by decide) (by decide) (by decide) (by decide) eF45
          have hS_F45 : Same 175 196 F F45 := by rw [eF45]; exact hS_F44.up (by decide) (by decide)
          have u117 := u1_of eq45
          refine lv_aload_n B.1 B.2.1 dX9_ship_118 rfl (lv_at hl 1 rfl) ?_
          refine r_cg B hC (i := 175) (by decide) hM_F45.1 (C := RX9) (T := TX9) (n := 35) rfl iwX9_ship_X9 20 (by decide) (index := 43) flX9_ship_43 rfl (v := .ref (ad (187))) rfl dX9_ship_119 ?_
          refine lv_iload_n B.1 B.2.1 dX9_ship_122 rfl (lv_at hl 0 rfl) ?_
          refine lv_aload_n B.1 B.2.1 dX9_ship_123 rfl (lv_at hl 1 rfl) ?_
          refine r_cg B hC (i := 175) (by decide) hM_F45.1 (C := RX9) (T := TX9) (n := 35) rfl iwX9_ship_X9 11 (by decide) (index := 34) flX9_ship_34 rfl (v := .ref (ad (184))) rfl dX9_ship_124 ?_
          refine lv_iload_n B.1 B.2.1 dX9_ship_127 rfl (lv_at hl 0 rfl) ?_
          refine r_cald B hC (i := 184) (by decide) hM_F45.c184 (j := t) (by omega) (by decide) dX9_ship_128 ?_
          refine r_tI (y := q45 184 t) rfl ?_
          refine r_tI (y := oI (shT (xt x) (off (xt x) t))) (by rw [u117.1 184 (by decide)]; exact u93.2.2) ?_
          refine lv_bipush (v := (-9)) B.1 B.2.1 dX9_ship_129 (by decide) ?_
          refine lv_icmp_ne (tgt := 138) B.1 B.2.1 dX9_ship_131 (by decide) (fun z => absurd (c_107) z) (fun _ => ?_)
          refine lv_iconst (v := nI 0) B.1 B.2.1 dX9_ship_134 (by decide) ?_
          refine lv_goto (tgt := 144) B.1 B.2.1 dX9_ship_135 (by decide) ?_
          refine r_tI (y := nI (if tat (xt x) (off (xt x) t) = some 80 then fig (xt x) (off (xt x) t + 1) else 0)) (by rw [if_neg q_107]) ?_
          refine r_cast B hC (i := 187) (by decide) hM_F45.c187 (j := t) (by omega) (by decide) dX9_ship_144 ?_
          intro H locs hC
          obtain ⟨F46, eF46⟩ : ∃ f : Nat → va_E, f = va_up F45 187 (.inl (g.2.2 0, 60, .inl (upd (q45 187) (t) (nI (if tat (xt x) (off (xt x) t) = some 80 then fig (xt x) (off (xt x) t + 1) else 0))))) := ⟨_, rfl⟩
          have hC : Cu g lo 196 ad F46 ss ss.heap H locs := by rw [eF46]; exact hC
          obtain ⟨q46, eq46⟩ : ∃ f, f = va_up q45 187 (upd (q45 187) (t) (nI (if tat (xt x) (off (xt x) t) = some 80 then fig (xt x) (off (xt x) t + 1) else 0))) := ⟨_, rfl⟩
          have hM_F46 : MC g ad F46 c2 q46 sm := by rw [eq46]; exact hM_F45.arr (by decide) (by decide) (by decide) (by decide) (by decide) eF46
          have hS_F46 : Same 175 196 F F46 := by rw [eF46]; exact hS_F45.up (by decide) (by decide)
          have u144 := u1_of eq46
          refine lv_aload_n B.1 B.2.1 dX9_ship_145 rfl (lv_at hl 1 rfl) ?_
          refine r_cg B hC (i := 175) (by decide) hM_F46.1 (C := RX9) (T := TX9) (n := 35) rfl iwX9_ship_X9 21 (by decide) (index := 46) flX9_ship_46 rfl (v := .ref (ad (188))) rfl dX9_ship_146 ?_
          refine lv_iload_n B.1 B.2.1 dX9_ship_149 rfl (lv_at hl 0 rfl) ?_
          refine lv_aload_n B.1 B.2.1 dX9_ship_150 rfl (lv_at hl 1 rfl) ?_
          refine r_cg B hC (i := 175) (by decide) hM_F46.1 (C := RX9) (T := TX9) (n := 35) rfl iwX9_ship_X9 4 (by decide) (index := 22) flX9_ship_22 rfl (v := .ref (ad (180))) rfl dX9_ship_151 ?_
          refine lv_iload_n B.1 B.2.1 dX9_ship_154 rfl (lv_at hl 0 rfl) ?_
          refine r_cald B hC (i := 180) (by decide) hM_F46.c180 (j := t) (by omega) (by decide) dX9_ship_155 ?_
          refine r_tI (y := q46 180 t) rfl ?_
          refine r_tI (y := nI (if tat (xt x) (off (xt x) t) = some 80 then fig (xt x) (off (xt x) t + 5) else 0)) (by rw [((((((hK2.uq eq41 (by decide)).uq eq42 (by decide)).uq eq43 (by decide)).uq eq44 (by decide)).uq eq45 (by decide)).uq eq46 (by decide)).2 180 (by decide)]; exact (hrd t (by omega)).2.2.2.2) ?_
          refine r_cast B hC (i := 188) (by decide) hM_F46.c188 (j := t) (by omega) (by decide) dX9_ship_156 ?_
          intro H locs hC
          obtain ⟨F47, eF47⟩ : ∃ f : Nat → va_E, f = va_up F46 188 (.inl (g.2.2 0, 60, .inl (upd (q46 188) (t) (nI (if tat (xt x) (off (xt x) t) = some 80 then fig (xt x) (off (xt x) t + 5) else 0))))) := ⟨_, rfl⟩
          have hC : Cu g lo 196 ad F47 ss ss.heap H locs := by rw [eF47]; exact hC
          obtain ⟨q47, eq47⟩ : ∃ f, f = va_up q46 188 (upd (q46 188) (t) (nI (if tat (xt x) (off (xt x) t) = some 80 then fig (xt x) (off (xt x) t + 5) else 0))) := ⟨_, rfl⟩
          have hM_F47 : MC g ad F47 c2 q47 sm := by rw [eq47]; exact hM_F46.arr (by decide) (by decide) (by decide) (by decide) (by decide) eF47
          have hS_F47 : Same 175 196 F F47 := by rw [eF47]; exact hS_F46.up (by decide) (by decide)
          have u156 := u1_of eq47
          refine lv_iinc (v := nI (t + 1)) (lv' := [(1, .int (nI (t + 1))), (0, .ref (ad (175)))]) B.1 B.2.1 dX9_ship_157 hl (k := 0) rfl (nI_1 _) (by decide) rfl (fun ls hl => ?_)
          refine lv_goto (tgt := 38) B.1 B.2.1 dX9_ship_160 (by decide) ?_
          exact ih38 (t + 1) c2 q47 F47 (by omega) (((((((hK2.uq eq41 (by decide)).uq eq42 (by decide)).uq eq43 (by decide)).uq eq44 (by decide)).uq eq45 (by decide)).uq eq46 (by decide)).uq eq47 (by decide)) hM_F47 hS_F47 e12 e13 e14 (sh_step hSH u57 u69 u81 u93 u117 u144 u156) _ _ ls hC (lv_sub hl [0, 1] rfl)
    exact loop38 n 0 c4 q1 F4 (by omega) ((((CQ.rf (A := [12, 13, 14, 22, 23, 24]) (B := [181, 182, 183, 184, 186, 187, 188, 192])).uc ec2 (by decide)).uc ec3 (by decide)).uc ec4 (by decide)) hM_F4 hS_F4 cv12_F4 cv13_F4 cv14_F4 (fun t ht => absurd ht (Nat.not_lt_zero t)) _ _ ls hC (lv_sub hl [0, 1] rfl)
  · have q_6 : ¬ fAll (xt x) = none := fun y => c_6 ((oI_9 (fun k hk => Nat.lt_of_le_of_lt (fAll_le hk) (by decide))).mpr y)
    refine lv_bipush (v := (-3)) B.1 B.2.1 dX9_ship_9 (by decide) ?_
    exact r_eI B hC (v := (-3)) (⟨by rw [shipA, if_neg q_6], by rw [shipN, if_neg q_6]; exact ⟨_, _, _, hM_F1, hX.scr hsc okn⟩, hS_F1⟩) dX9_ship_11
