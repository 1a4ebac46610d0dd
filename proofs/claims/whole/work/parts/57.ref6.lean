/-! THE REFERENCE'S STATE beside the object's value -/
def TextR (v : TV) (c : Nat → Int32) (q : Nat → Nat → Int32) : Prop := c 16 = nI (tn v) ∧ ∀ i, i < tn v → q 185 i = nI (tb v i)
def NowR (h : HV) (w : LV) (c : Nat → Int32) (q : Nat → Nat → Int32) : Prop := BankR h q 0 w ∧ c 22 = nI (wa w) ∧ c 23 = bI (su w)
def RowR (h : HV) (q : Nat → Nat → Int32) (k : Nat) (w : LV) : Prop := (∀ t, t < hn h → q 189 (32 * k + t) = nI (wh w t) ∧ q 189 (32 * k + 10 + t) = nI (ln w t) ∧ q 189 (32 * k + 20 + t) = nI (wo w t)) ∧ q 189 (32 * k + 30) = nI (wa w) ∧ q 189 (32 * k + 31) = bI (su w)
def ActsR (h : HV) (a : AV) (c : Nat → Int32) (q : Nat → Nat → Int32) : Prop := ∃ nx, nx < 24 ∧ c 24 = nI (asz a) ∧ c 25 = nI nx ∧ ∀ k, k < asz a → RowR h q ((nx + 24 - asz a + k) % 24) (alo a ((afi a + k) % 24))
def KeptR (h : HV) (s : SV) (q : Nat → Nat → Int32) : Prop := ∀ j, j < 2 → q 192 j = bI (sfl s j) ∧ (sfl s j = true → (∀ t, t < hn h → q 193 (30 * j + t) = nI (wh (slo s j) t) ∧ q 193 (30 * j + 10 + t) = nI (ln (slo s j) t) ∧ q 193 (30 * j + 20 + t) = nI (wo (slo s j) t)) ∧ q 194 j = nI (wa (slo s j)) ∧ q 195 j = bI (su (slo s j)))
def XR (x : XV) (c : Nat → Int32) (q : Nat → Nat → Int32) : Prop := TextR (xt x) c q ∧ HullR (xh x) c q ∧ NowR (xh x) (xw x) c q ∧ ActsR (xh x) (xa x) c q ∧ KeptR (xh x) (xs x) q
def MX (g : Gx) (ad : Nat → Nat) (F : Nat → va_E) (x : XV) : Prop := ∃ c q s, MC g ad F c q s ∧ XR x c q
/-- only scratch has changed -/
def Scr (c c' : Nat → Int32) (q q' : Nat → Nat → Int32) : Prop := (∀ i, 12 ≤ i → i < 28 → i ≠ 17 → i ≠ 18 → c' i = c i) ∧ (∀ i, 181 ≤ i → (i < 186 ∨ 188 < i) → i ≠ 190 → q' i = q i) ∧ ∀ i j, 186 ≤ i → i ≤ 188 → j < 10 → q' i j = q i j
theorem Scr.rf {c : Nat → Int32} {q : Nat → Nat → Int32} : Scr c c q q := ⟨fun _ _ _ _ _ => rfl, fun _ _ _ _ => rfl, fun _ _ _ _ _ => rfl⟩
section SCR
variable {c c' c'' : Nat → Int32} {q q' q'' : Nat → Nat → Int32} {h : HV} {w : LV} {x : XV}
theorem Scr.tr (a : Scr c c' q q') (b : Scr c' c'' q' q'') : Scr c c'' q q'' := ⟨fun i h1 h2 h3 h4 => (b.1 i h1 h2 h3 h4).trans (a.1 i h1 h2 h3 h4), fun i h1 h2 h3 => (b.2.1 i h1 h2 h3).trans (a.2.1 i h1 h2 h3), fun i j h1 h2 h3 => (b.2.2 i j h1 h2 h3).trans (a.2.2 i j h1 h2 h3)⟩
theorem Scr.qs {b : Nat} (a : Scr c c' q q') (s : QS b q' q'') (hb : 10 ≤ b) : Scr c c' q q'' := ⟨a.1, fun i h1 h2 h3 => ((s i).1 h2).trans (a.2.1 i h1 h2 h3), fun i j h1 h2 h3 => ((s i).2 j (by omega)).trans (a.2.2 i j h1 h2 h3)⟩
theorem Scr.uc {k : Nat} {v : Int32} (a : Scr c c' q q') (e : c'' = va_up c' k v) (hk : k < 12 ∨ 28 ≤ k ∨ k = 17 ∨ k = 18) : Scr c c'' q q' := ⟨fun i h1 h2 h3 h4 => by rw [e, va_up_ne _ _ (by omega)]; exact a.1 i h1 h2 h3 h4, a.2.1, a.2.2⟩
theorem Scr.uf {k : Nat} {f : Nat → Int32} (a : Scr c c' q q') (e : q'' = va_up q' k f) (hk : k = 190 ∨ k < 181) : Scr c c' q q'' := ⟨a.1, fun i h1 h2 h3 => by rw [e, va_up_ne _ _ (by omega)]; exact a.2.1 i h1 h2 h3, fun i j h1 h2 h3 => by rw [e, va_up_ne _ _ (by omega)]; exact a.2.2 i j h1 h2 h3⟩
theorem HullR.scr (r : HullR h c q) (a : Scr c c' q q') : HullR h c' q' := ⟨(a.1 12 (by decide) (by decide) (by decide) (by decide)).trans r.1, (a.1 13 (by decide) (by decide) (by decide) (by decide)).trans r.2.1, (a.1 14 (by decide) (by decide) (by decide) (by decide)).trans r.2.2.1, fun p hp => by
  rw [a.2.1 181 (by decide) (by decide) (by decide), a.2.1 182 (by decide) (by decide) (by decide), a.2.1 183 (by decide) (by decide) (by decide), a.2.1 184 (by decide) (by decide) (by decide)]; exact r.2.2.2 p hp⟩
theorem BankR.scr (r : BankR h q 0 w) (a : Scr c c' q q') (hn10 : hn h ≤ 10) : BankR h q' 0 w := fun t ht => by
  rw [a.2.2 186 _ (by decide) (by decide) (by omega), a.2.2 187 _ (by decide) (by decide) (by omega), a.2.2 188 _ (by decide) (by decide) (by omega)]; exact r t ht
theorem BankR.z (k : BankR h q 0 w) {t : Nat} (ht : t < hn h) : q 186 t = nI (wh w t) ∧ q 187 t = nI (ln w t) ∧ q 188 t = nI (wo w t) := by
  have z := k t ht
  rw [Nat.zero_add] at z
  exact z
theorem XR.scr (r : XR x c q) (a : Scr c c' q q') (hn10 : hn (xh x) ≤ 10) : XR x c' q' := by
  obtain ⟨⟨t1, t2⟩, r2, ⟨n1, n2, n3⟩, ⟨nx, a1, a2, a3, a4⟩, r5⟩ := r
  have e : ∀ i, 12 ≤ i → i < 28 → i ≠ 17 → i ≠ 18 → c' i = c i := a.1
  refine ⟨⟨(e 16 (by decide) (by decide) (by decide) (by decide)).trans t1, fun i hi => by rw [a.2.1 185 (by decide) (by decide) (by decide)]; exact t2 i hi⟩, r2.scr a, ⟨n1.scr a hn10, (e 22 (by decide) (by decide) (by decide) (by decide)).trans n2, (e 23 (by decide) (by decide) (by decide) (by decide)).trans n3⟩, ⟨nx, a1, (e 24 (by decide) (by decide) (by decide) (by decide)).trans a2, (e 25 (by decide) (by decide) (by decide) (by decide)).trans a3, fun k hk => ?_⟩, fun j hj => ?_⟩
  · have := a4 k hk
    unfold RowR at this ⊢
    rw [a.2.1 189 (by decide) (by decide) (by decide)]; exact this
  · rw [a.2.1 192 (by decide) (by decide) (by decide), a.2.1 193 (by decide) (by decide) (by decide), a.2.1 194 (by decide) (by decide) (by decide), a.2.1 195 (by decide) (by decide) (by decide)]; exact r5 j hj
end SCR
theorem iwX9_place_X9 : ∀ w ∈ u_ws RX9 TX9 35, w ∈ wsX9_place := by decide +kernel
theorem flX9_place_25 : Cond.fieldLink RX9 25 RX9 (TX9 8).2.1 (TX9 8).2.2.1 ∈ wsX9_place := by decide +kernel
theorem flX9_place_28 : Cond.fieldLink RX9 28 RX9 (TX9 9).2.1 (TX9 9).2.2.1 ∈ wsX9_place := by decide +kernel
theorem flX9_place_31 : Cond.fieldLink RX9 31 RX9 (TX9 10).2.1 (TX9 10).2.2.1 ∈ wsX9_place := by decide +kernel
set_option maxHeartbeats 4000000 in
set_option maxRecDepth 100000 in
theorem ctX9_place (l : Launch) (g : Gx) (lo : Nat) (ad : Nat → Nat) {F : Nat → va_E} {c : Nat → Int32} {q : Nat → Nat → Int32} {sm : Nat → Int64} {x : XV} (hM : MC g ad F c q sm) (hX : XR x c q) (okx : XOK x) {p r : Int32} : MI l g lo 196 ad yX9_place wsX9_place 2 46 [.ref (ad (175)), .int (p), .int (r)] F (fun r_ F' => r_ = placeA (xh x) (xw x) p r ∧ F' = F) := by
  obtain ⟨hTx, hR, ⟨hB, hwa, hsu⟩, hAx, hKx⟩ := id hX
  obtain ⟨okT, ok, hw, okA, okS, okAu, okSu⟩ := id okx
  have okn := ok.1
  have okp := ok.2.1
  have okh := ok.2.2.1
  have okt := okT.1
  have hS : Same 175 196 F F := Same.rf
  have hb : 0 ≤ 50 := by decide
  have hwa3 := hw.2.1
  refine enter (cc := cX9_place) (maxL := 3) (ret := some .int) (own := RX9) (by decide +kernel) rfl rfl (Nat.le_of_ble_eq_true rfl) ?_
  intro pp ee ss mm below meth cc B hini hC ls hl
  have hl : lv_has ls 3 [(0, .ref (ad (175))), (1, .int (p)), (2, .int (r))] := hl
  refine lv_aload_n B.1 B.2.1 dX9_place_0 rfl (lv_at hl 0 rfl) ?_
  refine lv_iload_n B.1 B.2.1 dX9_place_1 rfl (lv_at hl 1 rfl) ?_
  refine r_calli B hC hl.1 (175) 9 rfl rfl (by decide) hM.1 (As := [.int (p)]) (ctX9_isPlace l g lo ad hM ok hR (x := p)) gX9_place_X9_isPlace rfl (n := 1) rfl (by decide +kernel) ⟨Nat.le_of_ble_eq_true rfl, Nat.le_of_ble_eq_true rfl⟩ ⟨Nat.zero_le _, Nat.zero_le _⟩ rfl (Nat.le_of_ble_eq_true rfl) dX9_place_2 (fun r2 F1 H locs hp2 hC => ?_)
  obtain ⟨er, eF⟩ := hp2
  subst er
  rw [eF] at hC
  refine lv_if_ne (tgt := 10) B.1 B.2.1 dX9_place_5 (by decide) (fun c_5 => ?_) (fun c_5 => ?_)
  · have q_5 := bI_t.mp c_5
    obtain ⟨j, hj, ej⟩ := isP_t ok q_5
    have hj31 : j < 2 ^ 31 := by omega
    refine lv_iload_n B.1 B.2.1 dX9_place_10 rfl (lv_at hl 2 rfl) ?_
    rcases sw4 (r) with e11_ | e11_ | e11_ | e11_ | e11_
    · refine r_tI (y := nI 0) e11_ ?_
      refine lv_tableIn (off := 29) (tgt := 40) B.1 B.2.1 dX9_place_11 (by decide) (by decide) (by decide) (by decide) ?_
      refine lv_aload_n B.1 B.2.1 dX9_place_40 rfl (lv_at hl 0 rfl) ?_
      refine r_cg B hC (i := 175) (by decide) hM.1 (C := RX9) (T := TX9) (n := 35) rfl iwX9_place_X9 8 (by decide) (index := 25) flX9_place_25 rfl (v := .ref (ad (181))) rfl dX9_place_41 ?_
      refine lv_iload_n B.1 B.2.1 dX9_place_44 rfl (lv_at hl 1 rfl) ?_
      refine r_tI (y := nI j) (ej) ?_
      refine r_cald B hC (i := 181) (by decide) hM.c181 (j := j) (by omega) (by decide) dX9_place_45 ?_
      refine r_tI (y := q 181 j) rfl ?_
      refine r_tI (y := nI (hle (xh x) j)) ((hR.2.2.2 j hj).1) ?_
      exact r_eI B hC (v := nI (hle (xh x) j)) (⟨by rw [placeA, if_pos q_5, e11_, if_pos rfl, ej, ix_n hj31], rfl⟩) dX9_place_46
    · refine r_tI (y := nI 1) e11_ ?_
      refine lv_tableIn (off := 36) (tgt := 47) B.1 B.2.1 dX9_place_11 (by decide) (by decide) (by decide) (by decide) ?_
      refine lv_aload_n B.1 B.2.1 dX9_place_47 rfl (lv_at hl 0 rfl) ?_
      refine r_cg B hC (i := 175) (by decide) hM.1 (C := RX9) (T := TX9) (n := 35) rfl iwX9_place_X9 9 (by decide) (index := 28) flX9_place_28 rfl (v := .ref (ad (182))) rfl dX9_place_48 ?_
      refine lv_iload_n B.1 B.2.1 dX9_place_51 rfl (lv_at hl 1 rfl) ?_
      refine r_tI (y := nI j) (ej) ?_
      refine r_cald B hC (i := 182) (by decide) hM.c182 (j := j) (by omega) (by decide) dX9_place_52 ?_
      refine r_tI (y := q 182 j) rfl ?_
      refine r_tI (y := nI (hin_ (xh x) j)) ((hR.2.2.2 j hj).2.1) ?_
      exact r_eI B hC (v := nI (hin_ (xh x) j)) (⟨by rw [placeA, if_pos q_5, e11_, if_neg (by decide), if_pos rfl, ej, ix_n hj31], rfl⟩) dX9_place_53
    · refine r_tI (y := nI 2) e11_ ?_
      refine lv_tableIn (off := 43) (tgt := 54) B.1 B.2.1 dX9_place_11 (by decide) (by decide) (by decide) (by decide) ?_
      refine lv_aload_n B.1 B.2.1 dX9_place_54 rfl (lv_at hl 0 rfl) ?_
      refine r_cg B hC (i := 175) (by decide) hM.1 (C := RX9) (T := TX9) (n := 35) rfl iwX9_place_X9 10 (by decide) (index := 31) flX9_place_31 rfl (v := .ref (ad (183))) rfl dX9_place_55 ?_
      refine lv_iload_n B.1 B.2.1 dX9_place_58 rfl (lv_at hl 1 rfl) ?_
      refine r_tI (y := nI j) (ej) ?_
      refine r_cald B hC (i := 183) (by decide) hM.c183 (j := j) (by omega) (by decide) dX9_place_59 ?_
      refine r_tI (y := q 183 j) rfl ?_
      refine r_tI (y := oI (hre (xh x) j)) ((hR.2.2.2 j hj).2.2.1) ?_
      exact r_eI B hC (v := oI (hre (xh x) j)) (⟨by rw [placeA, if_pos q_5, e11_, if_neg (by decide), if_neg (by decide), if_pos rfl, ej, ix_n hj31]; unfold hreN; rw [if_pos hj], rfl⟩) dX9_place_60
    · refine r_tI (y := nI 3) e11_ ?_
      refine lv_tableIn (off := 50) (tgt := 61) B.1 B.2.1 dX9_place_11 (by decide) (by decide) (by decide) (by decide) ?_
      refine lv_aload_n B.1 B.2.1 dX9_place_61 rfl (lv_at hl 0 rfl) ?_
      refine lv_iconst (v := nI 0) B.1 B.2.1 dX9_place_62 (by decide) ?_
      refine lv_iload_n B.1 B.2.1 dX9_place_63 rfl (lv_at hl 1 rfl) ?_
      refine r_tI (y := nI j) (ej) ?_
      refine r_calli B hC hl.1 (175) 9 rfl rfl (by decide) hM.1 (As := [.int (nI 0), .int (nI j)]) (ctX9_inside l g lo ad hM ok hR (b := 0) hb hB hw (p := j) (by omega)) gX9_place_X9_inside rfl (n := 2) rfl (by decide +kernel) ⟨Nat.le_of_ble_eq_true rfl, Nat.le_of_ble_eq_true rfl⟩ ⟨Nat.zero_le _, Nat.zero_le _⟩ rfl (Nat.le_of_ble_eq_true rfl) dX9_place_64 (fun r64 F1 H locs hp64 hC => ?_)
      obtain ⟨er, eF⟩ := hp64
      subst er
      rw [eF] at hC
      exact r_eI B hC (v := oI (ti (xw x) j)) (⟨by rw [placeA, if_pos q_5, e11_, if_neg (by decide), if_neg (by decide), if_neg (by decide), if_pos rfl, ej, ix_n hj31], rfl⟩) dX9_place_67
    · refine lv_tableOut (tgt := 68) B.1 B.2.1 dX9_place_11 e11_ (by decide) ?_
      refine lv_bipush (v := (-2)) B.1 B.2.1 dX9_place_68 (by decide) ?_
      exact r_eI B hC (v := (-2)) (⟨by have z := sw_out4 e11_; rw [placeA, if_pos q_5, if_neg z.1, if_neg z.2.1, if_neg z.2.2.1, if_neg z.2.2.2], rfl⟩) dX9_place_70
  · have q_5 := bI_f.mp c_5
    refine lv_iconst (v := (-1)) B.1 B.2.1 dX9_place_8 (by decide) ?_
    exact r_eI B hC (v := (-1)) (⟨by rw [placeA, if_neg (by rw [q_5]; decide)], rfl⟩) dX9_place_9
theorem iwX9_timber_X9 : ∀ w ∈ u_ws RX9 TX9 35, w ∈ wsX9_timber := by decide +kernel
theorem flX9_timber_34 : Cond.fieldLink RX9 34 RX9 (TX9 11).2.1 (TX9 11).2.2.1 ∈ wsX9_timber := by decide +kernel
theorem flX9_timber_40 : Cond.fieldLink RX9 40 RX9 (TX9 19).2.1 (TX9 19).2.2.1 ∈ wsX9_timber := by decide +kernel
theorem flX9_timber_43 : Cond.fieldLink RX9 43 RX9 (TX9 20).2.1 (TX9 20).2.2.1 ∈ wsX9_timber := by decide +kernel
theorem flX9_timber_46 : Cond.fieldLink RX9 46 RX9 (TX9 21).2.1 (TX9 21).2.2.1 ∈ wsX9_timber := by decide +kernel
set_option maxHeartbeats 4000000 in
set_option maxRecDepth 100000 in
theorem ctX9_timber (l : Launch) (g : Gx) (lo : Nat) (ad : Nat → Nat) {F : Nat → va_E} {c : Nat → Int32} {q : Nat → Nat → Int32} {sm : Nat → Int64} {x : XV} (hM : MC g ad F c q sm) (hX : XR x c q) (okx : XOK x) {p r : Int32} : MI l g lo 196 ad yX9_timber wsX9_timber 2 46 [.ref (ad (175)), .int (p), .int (r)] F (fun r_ F' => r_ = timberA (xh x) (xw x) p r ∧ F' = F) := by
  obtain ⟨hTx, hR, ⟨hB, hwa, hsu⟩, hAx, hKx⟩ := id hX
  obtain ⟨okT, ok, hw, okA, okS, okAu, okSu⟩ := id okx
  have okn := ok.1
  have okp := ok.2.1
  have okh := ok.2.2.1
  have okt := okT.1
  have hS : Same 175 196 F F := Same.rf
  have hb : 0 ≤ 50 := by decide
  have hwa3 := hw.2.1
  refine enter (cc := cX9_timber) (maxL := 3) (ret := some .int) (own := RX9) (by decide +kernel) rfl rfl (Nat.le_of_ble_eq_true rfl) ?_
  intro pp ee ss mm below meth cc B hini hC ls hl
  have hl : lv_has ls 3 [(0, .ref (ad (175))), (1, .int (p)), (2, .int (r))] := hl
  refine lv_aload_n B.1 B.2.1 dX9_timber_0 rfl (lv_at hl 0 rfl) ?_
  refine lv_iload_n B.1 B.2.1 dX9_timber_1 rfl (lv_at hl 1 rfl) ?_
  refine r_calli B hC hl.1 (175) 9 rfl rfl (by decide) hM.1 (As := [.int (p)]) (ctX9_isPlace l g lo ad hM ok hR (x := p)) gX9_timber_X9_isPlace rfl (n := 1) rfl (by decide +kernel) ⟨Nat.le_of_ble_eq_true rfl, Nat.le_of_ble_eq_true rfl⟩ ⟨Nat.zero_le _, Nat.zero_le _⟩ rfl (Nat.le_of_ble_eq_true rfl) dX9_timber_2 (fun r2 F1 H locs hp2 hC => ?_)
  obtain ⟨er, eF⟩ := hp2
  subst er
  rw [eF] at hC
  refine lv_if_ne (tgt := 10) B.1 B.2.1 dX9_timber_5 (by decide) (fun c_5 => ?_) (fun c_5 => ?_)
  · have q_5 := bI_t.mp c_5
    obtain ⟨j, hj, ej⟩ := isP_t ok q_5
    have hj31 : j < 2 ^ 31 := by omega
    refine lv_iload_n B.1 B.2.1 dX9_timber_10 rfl (lv_at hl 2 rfl) ?_
    rcases sw4 (r) with e11_ | e11_ | e11_ | e11_ | e11_
    · refine r_tI (y := nI 0) e11_ ?_
      refine lv_tableIn (off := 29) (tgt := 40) B.1 B.2.1 dX9_timber_11 (by decide) (by decide) (by decide) (by decide) ?_
      refine lv_aload_n B.1 B.2.1 dX9_timber_40 rfl (lv_at hl 0 rfl) ?_
      refine r_cg B hC (i := 175) (by decide) hM.1 (C := RX9) (T := TX9) (n := 35) rfl iwX9_timber_X9 19 (by decide) (index := 40) flX9_timber_40 rfl (v := .ref (ad (186))) rfl dX9_timber_41 ?_
      refine lv_iload_n B.1 B.2.1 dX9_timber_44 rfl (lv_at hl 1 rfl) ?_
      refine r_tI (y := nI j) (ej) ?_
      refine r_cald B hC (i := 186) (by decide) hM.c186 (j := j) (by omega) (by decide) dX9_timber_45 ?_
      refine r_tI (y := q 186 j) rfl ?_
      refine r_tI (y := nI (wh (xw x) j)) ((hB.z hj).1) ?_
      exact r_eI B hC (v := nI (wh (xw x) j)) (⟨by rw [timberA, if_pos q_5, e11_, if_pos rfl, ej, ix_n hj31], rfl⟩) dX9_timber_46
    · refine r_tI (y := nI 1) e11_ ?_
      refine lv_tableIn (off := 36) (tgt := 47) B.1 B.2.1 dX9_timber_11 (by decide) (by decide) (by decide) (by decide) ?_
      refine lv_aload_n B.1 B.2.1 dX9_timber_47 rfl (lv_at hl 0 rfl) ?_
      refine r_cg B hC (i := 175) (by decide) hM.1 (C := RX9) (T := TX9) (n := 35) rfl iwX9_timber_X9 20 (by decide) (index := 43) flX9_timber_43 rfl (v := .ref (ad (187))) rfl dX9_timber_48 ?_
      refine lv_iload_n B.1 B.2.1 dX9_timber_51 rfl (lv_at hl 1 rfl) ?_
      refine r_tI (y := nI j) (ej) ?_
      refine r_cald B hC (i := 187) (by decide) hM.c187 (j := j) (by omega) (by decide) dX9_timber_52 ?_
      refine r_tI (y := q 187 j) rfl ?_
      refine r_tI (y := nI (ln (xw x) j)) ((hB.z hj).2.1) ?_
      exact r_eI B hC (v := nI (ln (xw x) j)) (⟨by rw [timberA, if_pos q_5, e11_, if_neg (by decide), if_pos rfl, ej, ix_n hj31], rfl⟩) dX9_timber_53
    · refine r_tI (y := nI 2) e11_ ?_
      refine lv_tableIn (off := 43) (tgt := 54) B.1 B.2.1 dX9_timber_11 (by decide) (by decide) (by decide) (by decide) ?_
      refine lv_aload_n B.1 B.2.1 dX9_timber_54 rfl (lv_at hl 0 rfl) ?_
      refine r_cg B hC (i := 175) (by decide) hM.1 (C := RX9) (T := TX9) (n := 35) rfl iwX9_timber_X9 11 (by decide) (index := 34) flX9_timber_34 rfl (v := .ref (ad (184))) rfl dX9_timber_55 ?_
      refine lv_iload_n B.1 B.2.1 dX9_timber_58 rfl (lv_at hl 1 rfl) ?_
      refine r_tI (y := nI j) (ej) ?_
      refine r_cald B hC (i := 184) (by decide) hM.c184 (j := j) (by omega) (by decide) dX9_timber_59 ?_
      refine r_tI (y := q 184 j) rfl ?_
      refine r_tI (y := oI (hsh (xh x) j)) ((hR.2.2.2 j hj).2.2.2) ?_
      exact r_eI B hC (v := oI (hsh (xh x) j)) (⟨by rw [timberA, if_pos q_5, e11_, if_neg (by decide), if_neg (by decide), if_pos rfl, ej, ix_n hj31], rfl⟩) dX9_timber_60
    · refine r_tI (y := nI 3) e11_ ?_
      refine lv_tableIn (off := 50) (tgt := 61) B.1 B.2.1 dX9_timber_11 (by decide) (by decide) (by decide) (by decide) ?_
      refine lv_aload_n B.1 B.2.1 dX9_timber_61 rfl (lv_at hl 0 rfl) ?_
      refine r_cg B hC (i := 175) (by decide) hM.1 (C := RX9) (T := TX9) (n := 35) rfl iwX9_timber_X9 21 (by decide) (index := 46) flX9_timber_46 rfl (v := .ref (ad (188))) rfl dX9_timber_62 ?_
      refine lv_iload_n B.1 B.2.1 dX9_timber_65 rfl (lv_at hl 1 rfl) ?_
      refine r_tI (y := nI j) (ej) ?_
      refine r_cald B hC (i := 188) (by decide) hM.c188 (j := j) (by omega) (by decide) dX9_timber_66 ?_
      refine r_tI (y := q 188 j) rfl ?_
      refine r_tI (y := nI (wo (xw x) j)) ((hB.z hj).2.2) ?_
      exact r_eI B hC (v := nI (wo (xw x) j)) (⟨by rw [timberA, if_pos q_5, e11_, if_neg (by decide), if_neg (by decide), if_neg (by decide), if_pos rfl, ej, ix_n hj31], rfl⟩) dX9_timber_67
    · refine lv_tableOut (tgt := 68) B.1 B.2.1 dX9_timber_11 e11_ (by decide) ?_
      refine lv_bipush (v := (-2)) B.1 B.2.1 dX9_timber_68 (by decide) ?_
      exact r_eI B hC (v := (-2)) (⟨by have z := sw_out4 e11_; rw [timberA, if_pos q_5, if_neg z.1, if_neg z.2.1, if_neg z.2.2.1, if_neg z.2.2.2], rfl⟩) dX9_timber_70
  · have q_5 := bI_f.mp c_5
    refine lv_iconst (v := (-1)) B.1 B.2.1 dX9_timber_8 (by decide) ?_
    exact r_eI B hC (v := (-1)) (⟨by rw [timberA, if_neg (by rw [q_5]; decide)], rfl⟩) dX9_timber_9
set_option maxHeartbeats 4000000 in
set_option maxRecDepth 100000 in
theorem ctX9_leak (l : Launch) (g : Gx) (lo : Nat) (ad : Nat → Nat) {F : Nat → va_E} {c : Nat → Int32} {q : Nat → Nat → Int32} {sm : Nat → Int64} {x : XV} (hM : MC g ad F c q sm) (hX : XR x c q) (okx : XOK x) : MI l g lo 196 ad yX9_leak wsX9_leak 3 70 [.ref (ad (175))] F (fun r F' => r = nI (leakV (xh x) (xw x)) ∧ F' = F) := by
  obtain ⟨hTx, hR, ⟨hB, hwa, hsu⟩, hAx, hKx⟩ := id hX
  obtain ⟨okT, ok, hw, okA, okS, okAu, okSu⟩ := id okx
  have okn := ok.1
  have okp := ok.2.1
  have okh := ok.2.2.1
  have okt := okT.1
  have hS : Same 175 196 F F := Same.rf
  have hb : 0 ≤ 50 := by decide
  have hwa3 := hw.2.1
  refine enter (cc := cX9_leak) (maxL := 1) (ret := some .int) (own := RX9) (by decide +kernel) rfl rfl (Nat.le_of_ble_eq_true rfl) ?_
  intro pp ee ss mm below meth cc B hini hC ls hl
  have hl : lv_has ls 1 [(0, .ref (ad (175)))] := hl
  refine lv_aload_n B.1 B.2.1 dX9_leak_0 rfl (lv_at hl 0 rfl) ?_
  refine lv_iconst (v := nI 0) B.1 B.2.1 dX9_leak_1 (by decide) ?_
  refine r_calli B hC hl.1 (175) 9 rfl rfl (by decide) hM.1 (As := [.int (nI 0)]) (ctX9_leakOf l g lo ad hM ok hR (b := 0) hb hB hw) gX9_leak_X9_leakOf rfl (n := 1) rfl (by decide +kernel) ⟨Nat.le_of_ble_eq_true rfl, Nat.le_of_ble_eq_true rfl⟩ ⟨Nat.zero_le _, Nat.zero_le _⟩ rfl (Nat.le_of_ble_eq_true rfl) dX9_leak_2 (fun r2 F1 H locs hp2 hC => ?_)
  obtain ⟨er, eF⟩ := hp2
  subst er
  rw [eF] at hC
  exact r_eI B hC (v := nI (leakV (xh x) (xw x))) (⟨rfl, rfl⟩) dX9_leak_5
set_option maxHeartbeats 4000000 in
set_option maxRecDepth 100000 in
theorem ctX9_floats (l : Launch) (g : Gx) (lo : Nat) (ad : Nat → Nat) {F : Nat → va_E} {c : Nat → Int32} {q : Nat → Nat → Int32} {sm : Nat → Int64} {x : XV} (hM : MC g ad F c q sm) (hX : XR x c q) (okx : XOK x) : MI l g lo 196 ad yX9_floats wsX9_floats 4 94 [.ref (ad (175))] F (fun r F' => r = nI (floatsV (xh x) (xw x)) ∧ MX g ad F' x ∧ Same 175 196 F F') := by
  obtain ⟨hTx, hR, ⟨hB, hwa, hsu⟩, hAx, hKx⟩ := id hX
  obtain ⟨okT, ok, hw, okA, okS, okAu, okSu⟩ := id okx
  have okn := ok.1
  have okp := ok.2.1
  have okh := ok.2.2.1
  have okt := okT.1
  have hS : Same 175 196 F F := Same.rf
  have hb : 0 ≤ 50 := by decide
  have hwa3 := hw.2.1
  refine enter (cc := cX9_floats) (maxL := 1) (ret := some .int) (own := RX9) (by decide +kernel) rfl rfl (Nat.le_of_ble_eq_true rfl) ?_
  intro pp ee ss mm below meth cc B hini hC ls hl
  have hl : lv_has ls 1 [(0, .ref (ad (175)))] := hl
  refine lv_aload_n B.1 B.2.1 dX9_floats_0 rfl (lv_at hl 0 rfl) ?_
  refine lv_iconst (v := nI 0) B.1 B.2.1 dX9_floats_1 (by decide) ?_
  refine lv_bipush (v := nI 50) B.1 B.2.1 dX9_floats_2 (by decide) ?_
  refine r_calli B hC hl.1 (175) 9 rfl rfl (by decide) hM.1 (As := [.int (nI 0), .int (nI 50)]) (ctX9_floatsOf l g lo ad hM ok hR (a := 0) (b := 50) (by decide) (by decide) (Or.inl (by decide)) hB hw hwa hsu) gX9_floats_X9_floatsOf rfl (n := 2) rfl (by decide +kernel) ⟨Nat.le_of_ble_eq_true rfl, Nat.le_of_ble_eq_true rfl⟩ ⟨Nat.zero_le _, Nat.zero_le _⟩ rfl (Nat.le_of_ble_eq_true rfl) dX9_floats_4 (fun r4 F1 H locs hp4 hC => ?_)
  obtain ⟨q1, hM_F1, hT_F1, hq4, hr4⟩ := hp4
  have hS_F1 : Same 175 196 F F1 := Same.tr2 hS hT_F1 (by decide) (by decide)
  refine r_tI (y := nI (floatsV (xh x) (xw x))) (hr4) ?_
  exact r_eI B hC (v := nI (floatsV (xh x) (xw x))) (⟨rfl, ⟨_, _, _, hM_F1, hX.scr (Scr.rf.qs hq4 (by decide)) okn⟩, hS_F1⟩) dX9_floats_7
theorem iwX9_harm_X9 : ∀ w ∈ u_ws RX9 TX9 35, w ∈ wsX9_harm := by decide +kernel
theorem flX9_harm_40 : Cond.fieldLink RX9 40 RX9 (TX9 19).2.1 (TX9 19).2.2.1 ∈ wsX9_harm := by decide +kernel
set_option maxHeartbeats 4000000 in
set_option maxRecDepth 100000 in
theorem ctX9_harm (l : Launch) (g : Gx) (lo : Nat) (ad : Nat → Nat) {F : Nat → va_E} {c : Nat → Int32} {q : Nat → Nat → Int32} {sm : Nat → Int64} {x : XV} (hM : MC g ad F c q sm) (hX : XR x c q) (okx : XOK x) {p : Int32} : MI l g lo 196 ad yX9_harm wsX9_harm 3 70 [.ref (ad (175)), .int (p)] F (fun r F' => r = harmA x p ∧ MX g ad F' x ∧ Same 175 196 F F') := by
  obtain ⟨hTx, hR, ⟨hB, hwa, hsu⟩, hAx, hKx⟩ := id hX
  obtain ⟨okT, ok, hw, okA, okS, okAu, okSu⟩ := id okx
  have okn := ok.1
  have okp := ok.2.1
  have okh := ok.2.2.1
  have okt := okT.1
  have hS : Same 175 196 F F := Same.rf
  have hb : 0 ≤ 50 := by decide
  have hwa3 := hw.2.1
  refine enter (cc := cX9_harm) (maxL := 3) (ret := some .int) (own := RX9) (by decide +kernel) rfl rfl (Nat.le_of_ble_eq_true rfl) ?_
  intro pp ee ss mm below meth cc B hini hC ls hl
  have hl : lv_has ls 3 [(0, .ref (ad (175))), (1, .int (p))] := hl
  refine lv_aload_n B.1 B.2.1 dX9_harm_0 rfl (lv_at hl 0 rfl) ?_
  refine lv_iload_n B.1 B.2.1 dX9_harm_1 rfl (lv_at hl 1 rfl) ?_
  refine r_calli B hC hl.1 (175) 9 rfl rfl (by decide) hM.1 (As := [.int (p)]) (ctX9_isPlace l g lo ad hM ok hR (x := p)) gX9_harm_X9_isPlace rfl (n := 1) rfl (by decide +kernel) ⟨Nat.le_of_ble_eq_true rfl, Nat.le_of_ble_eq_true rfl⟩ ⟨Nat.zero_le _, Nat.zero_le _⟩ rfl (Nat.le_of_ble_eq_true rfl) dX9_harm_2 (fun r2 F1 H locs hp2 hC => ?_)
  obtain ⟨er, eF⟩ := hp2
  subst er
  rw [eF] at hC
  refine lv_if_ne (tgt := 10) B.1 B.2.1 dX9_harm_5 (by decide) (fun c_5 => ?_) (fun c_5 => ?_)
  · have q_5 := bI_t.mp c_5
    obtain ⟨j, hj, ej⟩ := isP_t ok q_5
    have hj31 : j < 2 ^ 31 := by omega
    refine lv_aload_n B.1 B.2.1 dX9_harm_10 rfl (lv_at hl 0 rfl) ?_
    refine lv_iconst (v := nI 0) B.1 B.2.1 dX9_harm_11 (by decide) ?_
    refine lv_iload_n B.1 B.2.1 dX9_harm_12 rfl (lv_at hl 1 rfl) ?_
    refine r_tI (y := nI j) (ej) ?_
    refine r_calli B hC hl.1 (175) 9 rfl rfl (by decide) hM.1 (As := [.int (nI 0), .int (nI j)]) (ctX9_inside l g lo ad hM ok hR (b := 0) hb hB hw (p := j) (by omega)) gX9_harm_X9_inside rfl (n := 2) rfl (by decide +kernel) ⟨Nat.le_of_ble_eq_true rfl, Nat.le_of_ble_eq_true rfl⟩ ⟨Nat.zero_le _, Nat.zero_le _⟩ rfl (Nat.le_of_ble_eq_true rfl) dX9_harm_13 (fun r13 F1 H locs hp13 hC => ?_)
    obtain ⟨er, eF⟩ := hp13
    subst er
    rw [eF] at hC
    refine lv_istore_n (lv' := [(2, .int (oI (ti (xw x) j))), (0, .ref (ad (175))), (1, .int (p))]) B.1 B.2.1 dX9_harm_16 rfl hl (by decide) rfl (fun ls hl => ?_)
    refine lv_iload_n B.1 B.2.1 dX9_harm_17 rfl (lv_at hl 0 rfl) ?_
    refine lv_bipush (v := (-9)) B.1 B.2.1 dX9_harm_18 (by decide) ?_
    refine lv_icmp_ne (tgt := 26) B.1 B.2.1 dX9_harm_20 (by decide) (fun c_20 => ?_) (fun c_20 => ?_)
    · have q_20 : ¬ ti (xw x) j = none := fun z => c_20 ((oI_9 (fun j hj => Nat.lt_trans (hw.t10 (by omega) j hj) (by decide))).mpr z)
      obtain ⟨t, ht⟩ := Option.ne_none_iff_exists'.mp q_20
      have htn := hw.in_ ok (by omega) ht
      refine lv_aload_n B.1 B.2.1 dX9_harm_26 rfl (lv_at hl 1 rfl) ?_
      refine lv_iconst (v := nI 0) B.1 B.2.1 dX9_harm_27 (by decide) ?_
      refine lv_bipush (v := nI 10) B.1 B.2.1 dX9_harm_28 (by decide) ?_
      refine r_callv B hC hl.1 (175) 9 rfl rfl (by decide) hM.1 (As := [.int (nI 0), .int (nI 10)]) (ctX9_copy l g lo ad hM (a := 0) (b := 10) (by decide) (by decide) (Or.inl (by decide))) gX9_harm_X9_copy rfl (n := 2) rfl (by decide +kernel) ⟨Nat.le_of_ble_eq_true rfl, Nat.le_of_ble_eq_true rfl⟩ ⟨Nat.zero_le _, Nat.zero_le _⟩ rfl (Nat.le_of_ble_eq_true rfl) dX9_harm_30 (fun F1 H locs hp30 hC => ?_)
      obtain ⟨q1, hM_F1, hT_F1, hq30⟩ := hp30
      have hS_F1 : Same 175 196 F F1 := Same.tr2 hS hT_F1 (by decide) (by decide)
      refine lv_aload_n B.1 B.2.1 dX9_harm_33 rfl (lv_at hl 1 rfl) ?_
      refine r_cg B hC (i := 175) (by decide) hM_F1.1 (C := RX9) (T := TX9) (n := 35) rfl iwX9_harm_X9 19 (by decide) (index := 40) flX9_harm_40 rfl (v := .ref (ad (186))) rfl dX9_harm_34 ?_
      refine lv_bipush (v := nI 10) B.1 B.2.1 dX9_harm_37 (by decide) ?_
      refine lv_iload_n B.1 B.2.1 dX9_harm_39 rfl (lv_at hl 0 rfl) ?_
      refine r_tI (y := nI t) (by rw [ht]; rfl) ?_
      refine lv_iadd B.1 B.2.1 dX9_harm_40 ?_
      refine r_tI (y := nI (10 + t)) (nI_add _ _) ?_
      refine lv_sipush (v := nI 200) B.1 B.2.1 dX9_harm_41 (by decide) ?_
      refine r_cast B hC (i := 186) (by decide) hM_F1.c186 (j := (10 + t)) (by omega) (by decide) dX9_harm_44 ?_
      intro H locs hC
      obtain ⟨F2, eF2⟩ : ∃ f : Nat → va_E, f = va_up F1 186 (.inl (g.2.2 0, 60, .inl (upd (q1 186) ((10 + t)) (nI 200)))) := ⟨_, rfl⟩
      have hC : Cu g lo 196 ad F2 ss ss.heap H locs := by rw [eF2]; exact hC
      obtain ⟨q2, eq2⟩ : ∃ f, f = va_up q1 186 (upd (q1 186) ((10 + t)) (nI 200)) := ⟨_, rfl⟩
      have hM_F2 : MC g ad F2 c q2 sm := by rw [eq2]; exact hM_F1.arr (by decide) (by decide) (by decide) (by decide) (by decide) eF2
      have hR_F2 : HullR (xh x) c q2 := by rw [eq2]; exact (hR.qs (hq30.1)).upq (by decide)
      have hS_F2 : Same 175 196 F F2 := by rw [eF2]; exact hS_F1.up (by decide) (by decide)
      have hB1 : BankR (xh x) q2 10 (bringV (xw x) t 200) := by rw [eq2]; exact (hq30.bank okn hB).bring
      have hQ1 : QS 10 q q2 := by rw [eq2]; exact hq30.1.up (by decide) (by omega)
      have hw1 : LOK (xh x) (bringV (xw x) t 200) := LOK_bring ok hw htn (Or.inl rfl)
      have hw2 : LOK (xh x) (downTo (xh x) (bringV (xw x) t 200) (hn (xh x))) := LOK_downTo ok hw1 okn
      refine lv_aload_n B.1 B.2.1 dX9_harm_45 rfl (lv_at hl 1 rfl) ?_
      refine lv_bipush (v := nI 10) B.1 B.2.1 dX9_harm_46 (by decide) ?_
      refine r_callv B hC hl.1 (175) 9 rfl rfl (by decide) hM_F2.1 (As := [.int (nI 10)]) (ctX9_comeDown l g lo ad hM_F2 ok hR_F2 (b := 10) (by decide) hB1 hw1) gX9_harm_X9_comeDown rfl (n := 1) rfl (by decide +kernel) ⟨Nat.le_of_ble_eq_true rfl, Nat.le_of_ble_eq_true rfl⟩ ⟨Nat.zero_le _, Nat.zero_le _⟩ rfl (Nat.le_of_ble_eq_true rfl) dX9_harm_48 (fun F3 H locs hp48 hC => ?_)
      obtain ⟨q3, hM_F3, hT_F3, hq48, hb48⟩ := hp48
      have hS_F3 : Same 175 196 F F3 := Same.tr2 hS_F2 hT_F3 (by decide) (by decide)
      refine lv_aload_n B.1 B.2.1 dX9_harm_51 rfl (lv_at hl 1 rfl) ?_
      refine lv_bipush (v := nI 10) B.1 B.2.1 dX9_harm_52 (by decide) ?_
      refine r_calli B hC hl.1 (175) 9 rfl rfl (by decide) hM_F3.1 (As := [.int (nI 10)]) (ctX9_leakOf l g lo ad hM_F3 ok (hR_F2.qs (hq48)) (b := 10) (by decide) hb48 hw2) gX9_harm_X9_leakOf rfl (n := 1) rfl (by decide +kernel) ⟨Nat.le_of_ble_eq_true rfl, Nat.le_of_ble_eq_true rfl⟩ ⟨Nat.zero_le _, Nat.zero_le _⟩ rfl (Nat.le_of_ble_eq_true rfl) dX9_harm_54 (fun r54 F4 H locs hp54 hC => ?_)
      obtain ⟨er, eF⟩ := hp54
      subst er
      rw [eF] at hC
      exact r_eI B hC (v := nI (leakV (xh x) (downTo (xh x) (bringV (xw x) t 200) (hn (xh x))))) (⟨by rw [harmA, if_pos q_5, ej, ix_n hj31, if_neg q_20, harmV, ht], ⟨_, _, _, hM_F3, hX.scr (Scr.rf.qs (hQ1.tr hq48) (by decide)) okn⟩, hS_F3⟩) dX9_harm_57
    · have q_20 : ti (xw x) j = none := (oI_9 (fun j hj => Nat.lt_trans (hw.t10 (by omega) j hj) (by decide))).mp c_20
      refine lv_bipush (v := (-3)) B.1 B.2.1 dX9_harm_23 (by decide) ?_
      exact r_eI B hC (v := (-3)) (⟨by rw [harmA, if_pos q_5, ej, ix_n hj31, if_pos q_20], ⟨_, _, _, hM, hX⟩, hS⟩) dX9_harm_25
  · have q_5 := bI_f.mp c_5
    refine lv_iconst (v := (-1)) B.1 B.2.1 dX9_harm_8 (by decide) ?_
    exact r_eI B hC (v := (-1)) (⟨by rw [harmA, if_neg (by rw [q_5]; decide)], ⟨_, _, _, hM, hX⟩, hS⟩) dX9_harm_9
theorem iwX9_may_X9 : ∀ w ∈ u_ws RX9 TX9 35, w ∈ wsX9_may := by decide +kernel
theorem flX9_may_123 : Cond.fieldLink RX9 123 RX9 (TX9 23).2.1 (TX9 23).2.2.1 ∈ wsX9_may := by decide +kernel
set_option maxHeartbeats 4000000 in
set_option maxRecDepth 100000 in
theorem ctX9_may (l : Launch) (g : Gx) (lo : Nat) (ad : Nat → Nat) {F : Nat → va_E} {c : Nat → Int32} {q : Nat → Nat → Int32} {sm : Nat → Int64} {x : XV} (hM : MC g ad F c q sm) (hX : XR x c q) (okx : XOK x) {t p : Int32} : MI l g lo 196 ad yX9_may wsX9_may 4 93 [.ref (ad (175)), .int (t), .int (p)] F (fun r F' => r = mayA (xh x) (xw x) t p ∧ MX g ad F' x ∧ Same 175 196 F F') := by
  obtain ⟨hTx, hR, ⟨hB, hwa, hsu⟩, hAx, hKx⟩ := id hX
  obtain ⟨okT, ok, hw, okA, okS, okAu, okSu⟩ := id okx
  have okn := ok.1
  have okp := ok.2.1
  have okh := ok.2.2.1
  have okt := okT.1
  have hS : Same 175 196 F F := Same.rf
  have hb : 0 ≤ 50 := by decide
  have hwa3 := hw.2.1
  refine enter (cc := cX9_may) (maxL := 3) (ret := some .int) (own := RX9) (by decide +kernel) rfl rfl (Nat.le_of_ble_eq_true rfl) ?_
  intro pp ee ss mm below meth cc B hini hC ls hl
  have hl : lv_has ls 3 [(0, .ref (ad (175))), (1, .int (t)), (2, .int (p))] := hl
  refine lv_aload_n B.1 B.2.1 dX9_may_0 rfl (lv_at hl 0 rfl) ?_
  refine lv_iload_n B.1 B.2.1 dX9_may_1 rfl (lv_at hl 1 rfl) ?_
  refine r_calli B hC hl.1 (175) 9 rfl rfl (by decide) hM.1 (As := [.int (t)]) (ctX9_isPlace l g lo ad hM ok hR (x := t)) gX9_may_X9_isPlace rfl (n := 1) rfl (by decide +kernel) ⟨Nat.le_of_ble_eq_true rfl, Nat.le_of_ble_eq_true rfl⟩ ⟨Nat.zero_le _, Nat.zero_le _⟩ rfl (Nat.le_of_ble_eq_true rfl) dX9_may_2 (fun r2 F1 H locs hp2 hC => ?_)
  obtain ⟨er, eF⟩ := hp2
  subst er
  rw [eF] at hC
  refine lv_if_eq (tgt := 16) B.1 B.2.1 dX9_may_5 (by decide) (fun c_5 => ?_) (fun c_5 => ?_)
  · have q_5 : isP (xh x) t = false := bI_f.mp c_5
    refine lv_iconst (v := (-1)) B.1 B.2.1 dX9_may_16 (by decide) ?_
    exact r_eI B hC (v := (-1)) (⟨by rw [mayA, if_neg (fun z => by first | (rw [q_5] at z; exact absurd z.1 (by decide)) | (rw [q_13] at z; exact absurd z.2 (by decide)))], ⟨_, _, _, hM, hX⟩, hS⟩) dX9_may_17
  · have q_5 : isP (xh x) t = true := bI_t.mp c_5
    refine lv_aload_n B.1 B.2.1 dX9_may_8 rfl (lv_at hl 0 rfl) ?_
    refine lv_iload_n B.1 B.2.1 dX9_may_9 rfl (lv_at hl 2 rfl) ?_
    refine r_calli B hC hl.1 (175) 9 rfl rfl (by decide) hM.1 (As := [.int (p)]) (ctX9_isPlace l g lo ad hM ok hR (x := p)) gX9_may_X9_isPlace rfl (n := 1) rfl (by decide +kernel) ⟨Nat.le_of_ble_eq_true rfl, Nat.le_of_ble_eq_true rfl⟩ ⟨Nat.zero_le _, Nat.zero_le _⟩ rfl (Nat.le_of_ble_eq_true rfl) dX9_may_10 (fun r10 F1 H locs hp10 hC => ?_)
    obtain ⟨er, eF⟩ := hp10
    subst er
    rw [eF] at hC
    refine lv_if_ne (tgt := 18) B.1 B.2.1 dX9_may_13 (by decide) (fun c_13 => ?_) (fun c_13 => ?_)
    · have q_13 : isP (xh x) p = true := bI_t.mp c_13
      obtain ⟨j, hj, ej⟩ := isP_t ok q_5
      obtain ⟨i, hi, ei⟩ := isP_t ok q_13
      have hj31 : j < 2 ^ 31 := by omega
      have hi31 : i < 2 ^ 31 := by omega
      refine lv_aload_n B.1 B.2.1 dX9_may_18 rfl (lv_at hl 0 rfl) ?_
      refine lv_iconst (v := nI 0) B.1 B.2.1 dX9_may_19 (by decide) ?_
      refine lv_bipush (v := nI 10) B.1 B.2.1 dX9_may_20 (by decide) ?_
      refine r_callv B hC hl.1 (175) 9 rfl rfl (by decide) hM.1 (As := [.int (nI 0), .int (nI 10)]) (ctX9_copy l g lo ad hM (a := 0) (b := 10) (by decide) (by decide) (Or.inl (by decide))) gX9_may_X9_copy rfl (n := 2) rfl (by decide +kernel) ⟨Nat.le_of_ble_eq_true rfl, Nat.le_of_ble_eq_true rfl⟩ ⟨Nat.zero_le _, Nat.zero_le _⟩ rfl (Nat.le_of_ble_eq_true rfl) dX9_may_22 (fun F1 H locs hp22 hC => ?_)
      obtain ⟨q1, hM_F1, hT_F1, hq22⟩ := hp22
      have hS_F1 : Same 175 196 F F1 := Same.tr2 hS hT_F1 (by decide) (by decide)
      refine lv_aload_n B.1 B.2.1 dX9_may_25 rfl (lv_at hl 0 rfl) ?_
      refine r_cg B hC (i := 175) (by decide) hM_F1.1 (C := RX9) (T := TX9) (n := 35) rfl iwX9_may_X9 23 (by decide) (index := 123) flX9_may_123 rfl (v := .int (c 23)) rfl dX9_may_26 ?_
      refine r_tI (y := bI (su (xw x))) (hsu) ?_
      refine lv_if_ne (tgt := 47) B.1 B.2.1 dX9_may_29 (by decide) (fun c_29 => ?_) (fun c_29 => ?_)
      · have q_29 : (su (xw x)) = true := bI_t.mp c_29
        refine lv_iconst (v := nI 0) B.1 B.2.1 dX9_may_47 (by decide) ?_
        exact r_eI B hC (v := nI 0) (⟨by rw [mayA, if_pos ⟨q_5, q_13⟩, ej, ei, ix_n hj31, ix_n hi31]; simp [q_29]; rfl, ⟨_, _, _, hM_F1, hX.scr (Scr.rf.qs hq22.1 (by decide)) okn⟩, hS_F1⟩) dX9_may_48
      · have q_29 : (su (xw x)) = false := bI_f.mp c_29
        refine lv_aload_n B.1 B.2.1 dX9_may_32 rfl (lv_at hl 0 rfl) ?_
        refine lv_bipush (v := nI 10) B.1 B.2.1 dX9_may_33 (by decide) ?_
        refine lv_iload_n B.1 B.2.1 dX9_may_35 rfl (lv_at hl 1 rfl) ?_
        refine r_tI (y := nI j) (ej) ?_
        refine lv_iload_n B.1 B.2.1 dX9_may_36 rfl (lv_at hl 2 rfl) ?_
        refine r_tI (y := nI i) (ei) ?_
        refine r_calli B hC hl.1 (175) 9 rfl rfl (by decide) hM_F1.1 (As := [.int (nI 10), .int (nI j), .int (nI i)]) (ctX9_goes l g lo ad hM_F1 ok (hR.qs (hq22.1)) (b := 10) (by decide) (hq22.bank okn hB) hw (t := j) (p := i) hj hi) gX9_may_X9_goes rfl (n := 3) rfl (by decide +kernel) ⟨Nat.le_of_ble_eq_true rfl, Nat.le_of_ble_eq_true rfl⟩ ⟨Nat.zero_le _, Nat.zero_le _⟩ rfl (Nat.le_of_ble_eq_true rfl) dX9_may_37 (fun r37 F2 H locs hp37 hC => ?_)
        obtain ⟨q2, hM_F2, hT_F2, hq37, hr37, hbk37⟩ := hp37
        have hS_F2 : Same 175 196 F F2 := Same.tr2 hS_F1 hT_F2 (by decide) (by decide)
        refine r_tI (y := bI (mayV (xh x) (xw x) j i)) (hr37) ?_
        refine lv_if_eq (tgt := 47) B.1 B.2.1 dX9_may_40 (by decide) (fun c_40 => ?_) (fun c_40 => ?_)
        · have q_40 : (mayV (xh x) (xw x) j i) = false := bI_f.mp c_40
          refine lv_iconst (v := nI 0) B.1 B.2.1 dX9_may_47 (by decide) ?_
          exact r_eI B hC (v := nI 0) (⟨by rw [mayA, if_pos ⟨q_5, q_13⟩, ej, ei, ix_n hj31, ix_n hi31]; simp [q_29, q_40]; rfl, ⟨_, _, _, hM_F2, hX.scr ((Scr.rf.qs hq22.1 (by decide)).qs hq37 (by decide)) okn⟩, hS_F2⟩) dX9_may_48
        · have q_40 : (mayV (xh x) (xw x) j i) = true := bI_t.mp c_40
          refine lv_iconst (v := nI 1) B.1 B.2.1 dX9_may_43 (by decide) ?_
          refine lv_goto (tgt := 48) B.1 B.2.1 dX9_may_44 (by decide) ?_
          exact r_eI B hC (v := nI 1) (⟨by rw [mayA, if_pos ⟨q_5, q_13⟩, ej, ei, ix_n hj31, ix_n hi31]; simp [q_29, q_40]; rfl, ⟨_, _, _, hM_F2, hX.scr ((Scr.rf.qs hq22.1 (by decide)).qs hq37 (by decide)) okn⟩, hS_F2⟩) dX9_may_48
    · have q_13 : isP (xh x) p = false := bI_f.mp c_13
      refine lv_iconst (v := (-1)) B.1 B.2.1 dX9_may_16 (by decide) ?_
      exact r_eI B hC (v := (-1)) (⟨by rw [mayA, if_neg (fun z => by first | (rw [q_5] at z; exact absurd z.1 (by decide)) | (rw [q_13] at z; exact absurd z.2 (by decide)))], ⟨_, _, _, hM, hX⟩, hS⟩) dX9_may_17
