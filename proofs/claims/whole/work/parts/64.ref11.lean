/-! THE REFERENCE: acts, slots -/
def CQ (A B : List Nat) (c c' : Nat → Int32) (q q' : Nat → Nat → Int32) : Prop := (∀ i, i ∉ A → c' i = c i) ∧ ∀ i, i ∉ B → q' i = q i
section CQS
variable {A B : List Nat} {c c' c'' : Nat → Int32} {q q' q'' : Nat → Nat → Int32} {h : HV} {w : LV} {x : XV}
theorem CQ.rf : CQ A B c c q q := ⟨fun _ _ => rfl, fun _ _ => rfl⟩
theorem CQ.of (h1 : ∀ i, i ∉ A → c' i = c i) (h2 : ∀ i, i ∉ B → q' i = q i) : CQ A B c c' q q' := ⟨h1, h2⟩
theorem CQ.uc (a : CQ A B c c' q q') {k : Nat} {v : Int32} (e : c'' = va_up c' k v) (hk : k ∈ A) : CQ A B c c'' q q' := ⟨fun i hi => by
  rw [e, va_up_ne _ _ (fun z => hi (by rw [z]; exact hk))]; exact a.1 i hi, a.2⟩
theorem CQ.uq (a : CQ A B c c' q q') {k : Nat} {f : Nat → Int32} (e : q'' = va_up q' k f) (hk : k ∈ B) : CQ A B c c' q q'' := ⟨a.1, fun i hi => by
  rw [e, va_up_ne _ _ (fun z => hi (by rw [z]; exact hk))]; exact a.2 i hi⟩
theorem out_3 {i : Nat} (hi : i ∉ [186, 187, 188]) : i < 186 ∨ 188 < i := by
  simp only [List.mem_cons, List.not_mem_nil, or_false] at hi
  omega
theorem CQ.us (a : CQ A B c c' q q') {b : Nat} (s : QS b q' q'') (h1 : 186 ∈ B) (h2 : 187 ∈ B) (h3 : 188 ∈ B) : CQ A B c c' q q'' := ⟨a.1, fun i hi => by
  rw [(s i).1 (by
    rcases Nat.lt_or_ge i 186 with z | z
    · exact Or.inl z
    · rcases Nat.lt_or_ge 188 i with z2 | z2
      · exact Or.inr z2
      · rcases (show i = 186 ∨ i = 187 ∨ i = 188 by omega) with rfl | rfl | rfl
        · exact absurd h1 hi
        · exact absurd h2 hi
        · exact absurd h3 hi)]
  exact a.2 i hi⟩
theorem TextR.cq {v : TV} (r : TextR v c q) (a : CQ A B c c' q q') (h1 : 16 ∉ A) (h2 : 185 ∉ B) : TextR v c' q' := ⟨(a.1 16 h1).trans r.1, fun i hi => by rw [a.2 185 h2]; exact r.2 i hi⟩
theorem HullR.cq (r : HullR h c q) (a : CQ A B c c' q q') (h1 : 12 ∉ A) (h2 : 13 ∉ A) (h3 : 14 ∉ A) (k1 : 181 ∉ B) (k2 : 182 ∉ B) (k3 : 183 ∉ B) (k4 : 184 ∉ B) : HullR h c' q' := ⟨(a.1 12 h1).trans r.1, (a.1 13 h2).trans r.2.1, (a.1 14 h3).trans r.2.2.1, fun p hp => by
  rw [a.2 181 k1, a.2 182 k2, a.2 183 k3, a.2 184 k4]; exact r.2.2.2 p hp⟩
theorem ActsR.cq {v : AV} (r : ActsR h v c q) (a : CQ A B c c' q q') (h1 : 24 ∉ A) (h2 : 25 ∉ A) (k1 : 189 ∉ B) : ActsR h v c' q' := by
  obtain ⟨nx, a1, a2, a3, a4⟩ := r
  refine ⟨nx, a1, (a.1 24 h1).trans a2, (a.1 25 h2).trans a3, fun k hk => ?_⟩
  have := a4 k hk
  unfold RowR at this ⊢
  rw [a.2 189 k1]; exact this
theorem KeptR.cq {v : SV} (r : KeptR h v q) (a : CQ A B c c' q q') (k1 : 192 ∉ B) (k2 : 193 ∉ B) (k3 : 194 ∉ B) (k4 : 195 ∉ B) : KeptR h v q' := fun j hj => by
  rw [a.2 192 k1, a.2 193 k2, a.2 194 k3, a.2 195 k4]; exact r j hj
theorem BankR.cq {b : Nat} (r : BankR h q b w) (a : CQ A B c c' q q') (k1 : 186 ∉ B) (k2 : 187 ∉ B) (k3 : 188 ∉ B) : BankR h q' b w := fun t ht => by
  rw [a.2 186 k1, a.2 187 k2, a.2 188 k3]; exact r t ht
theorem XR.act (r : XR x c q) (k1 : CQ [24, 25] [189] c c' q q') (ha : ActsR (xh x) (remV (xa x) (xw x)) c' q') (k2 : CQ [22, 23] [186, 187, 188] c' c'' q' q'') (hn : NowR (xh x) w c'' q'') : XR (actX x w) c'' q'' :=
  ⟨(r.1.cq k1 (by decide) (by decide)).cq k2 (by decide) (by decide), (r.2.1.cq k1 (by decide) (by decide) (by decide) (by decide) (by decide) (by decide) (by decide)).cq k2 (by decide) (by decide) (by decide) (by decide) (by decide) (by decide) (by decide), hn, ha.cq k2 (by decide) (by decide) (by decide), (r.2.2.2.2.cq k1 (by decide) (by decide) (by decide) (by decide)).cq k2 (by decide) (by decide) (by decide) (by decide)⟩
end CQS
/-- three rows told into one, from base on -/
def KR (D base t : Nat) (q q1 : Nat → Nat → Int32) : Prop := (∀ i, i ≠ D → q1 i = q i) ∧ (∀ j, j < base ∨ base + 30 ≤ j → q1 D j = q D j) ∧ ∀ s, s < t → q1 D (base + s) = q 186 s ∧ q1 D (base + 10 + s) = q 187 s ∧ q1 D (base + 20 + s) = q 188 s
theorem KR.z {D base : Nat} {q : Nat → Nat → Int32} : KR D base 0 q q := ⟨fun _ _ => rfl, fun _ _ => rfl, fun s hs => absurd hs (Nat.not_lt_zero s)⟩
theorem kr_step {D base t : Nat} {q q1 q2 q3 q4 : Nat → Nat → Int32} (k : KR D base t q q1) (ht : t < 10) (hD : 188 < D) (e2 : q2 = va_up q1 D (upd (q1 D) (base + t) (q1 186 t))) (e3 : q3 = va_up q2 D (upd (q2 D) (base + 10 + t) (q2 187 t))) (e4 : q4 = va_up q3 D (upd (q3 D) (base + 20 + t) (q3 188 t))) : KR D base (t + 1) q q4 := by
  obtain ⟨k1, k2, k3⟩ := k
  have n2 : ∀ i, i ≠ D → q2 i = q1 i := fun i hi => by rw [e2, va_up_ne _ _ hi]
  have n3 : ∀ i, i ≠ D → q3 i = q2 i := fun i hi => by rw [e3, va_up_ne _ _ hi]
  have n4 : ∀ i, i ≠ D → q4 i = q3 i := fun i hi => by rw [e4, va_up_ne _ _ hi]
  have v2 : ∀ j, q2 D j = if j = base + t then q 186 t else q1 D j := fun j => by rw [e2, va_up_self, k1 186 (by omega)]; rfl
  have v3 : ∀ j, q3 D j = if j = base + 10 + t then q 187 t else q2 D j := fun j => by rw [e3, va_up_self, n2 187 (by omega), k1 187 (by omega)]; rfl
  have v4 : ∀ j, q4 D j = if j = base + 20 + t then q 188 t else q3 D j := fun j => by rw [e4, va_up_self, n3 188 (by omega), n2 188 (by omega), k1 188 (by omega)]; rfl
  refine ⟨fun i hi => by rw [n4 i hi, n3 i hi, n2 i hi, k1 i hi], fun j hj => by rw [v4, v3, v2, if_neg (by omega), if_neg (by omega), if_neg (by omega)]; exact k2 j hj, fun s hs => ?_⟩
  by_cases e : s = t
  · subst e
    refine ⟨?_, ?_, ?_⟩
    · rw [v4, v3, v2, if_neg (by omega), if_neg (by omega), if_pos rfl]
    · rw [v4, v3, if_neg (by omega), if_pos rfl]
    · rw [v4, if_pos rfl]
  · obtain ⟨z1, z2, z3⟩ := k3 s (by omega)
    refine ⟨?_, ?_, ?_⟩
    · rw [v4, v3, v2, if_neg (by omega), if_neg (by omega), if_neg (by omega)]; exact z1
    · rw [v4, v3, v2, if_neg (by omega), if_neg (by omega), if_neg (by omega)]; exact z2
    · rw [v4, v3, v2, if_neg (by omega), if_neg (by omega), if_neg (by omega)]; exact z3
/-- and back -/
def CR (S base t : Nat) (q q1 : Nat → Nat → Int32) : Prop := (∀ i, i < 186 ∨ 188 < i → q1 i = q i) ∧ ∀ s, s < t → q1 186 s = q S (base + s) ∧ q1 187 s = q S (base + 10 + s) ∧ q1 188 s = q S (base + 20 + s)
theorem CR.z {S base : Nat} {q : Nat → Nat → Int32} : CR S base 0 q q := ⟨fun _ _ => rfl, fun s hs => absurd hs (Nat.not_lt_zero s)⟩
theorem cr_step {S base t : Nat} {q q1 q2 q3 q4 : Nat → Nat → Int32} (k : CR S base t q q1) (hS : 188 < S) (e2 : q2 = va_up q1 186 (upd (q1 186) t (q1 S (base + t)))) (e3 : q3 = va_up q2 187 (upd (q2 187) t (q2 S (base + 10 + t)))) (e4 : q4 = va_up q3 188 (upd (q3 188) t (q3 S (base + 20 + t)))) : CR S base (t + 1) q q4 := by
  obtain ⟨k1, k3⟩ := k
  have n2 : ∀ i, i ≠ 186 → q2 i = q1 i := fun i hi => by rw [e2, va_up_ne _ _ hi]
  have n3 : ∀ i, i ≠ 187 → q3 i = q2 i := fun i hi => by rw [e3, va_up_ne _ _ hi]
  have n4 : ∀ i, i ≠ 188 → q4 i = q3 i := fun i hi => by rw [e4, va_up_ne _ _ hi]
  have v2 : ∀ j, q2 186 j = if j = t then q S (base + t) else q1 186 j := fun j => by rw [e2, va_up_self, k1 S (by omega)]; rfl
  have v3 : ∀ j, q3 187 j = if j = t then q S (base + 10 + t) else q1 187 j := fun j => by rw [e3, va_up_self, n2 S (by omega), k1 S (by omega), n2 187 (by omega)]; rfl
  have v4 : ∀ j, q4 188 j = if j = t then q S (base + 20 + t) else q1 188 j := fun j => by rw [e4, va_up_self, n3 S (by omega), n2 S (by omega), k1 S (by omega), n3 188 (by omega), n2 188 (by omega)]; rfl
  refine ⟨fun i hi => by rw [n4 i (by omega), n3 i (by omega), n2 i (by omega), k1 i hi], fun s hs => ?_⟩
  rw [n4 186 (by omega), n3 186 (by omega), n4 187 (by omega), v2, v3, v4]
  by_cases e : s = t
  · subst e
    rw [if_pos rfl, if_pos rfl, if_pos rfl]; exact ⟨rfl, rfl, rfl⟩
  · rw [if_neg e, if_neg e, if_neg e]; exact k3 s (by omega)
theorem RowR.out {h : HV} {q q' : Nat → Nat → Int32} {k : Nat} {w : LV} (r : RowR h q k w) (hn10 : hn h ≤ 10) (e : ∀ j, j < 32 → q' 189 (32 * k + j) = q 189 (32 * k + j)) : RowR h q' k w := by
  obtain ⟨r1, r2, r3⟩ := r
  refine ⟨fun t ht => ?_, ?_, ?_⟩
  · have z1 := e t (by omega)
    have z2 := e (10 + t) (by omega)
    have z3 := e (20 + t) (by omega)
    rw [← Nat.add_assoc] at z2 z3
    rw [z1, z2, z3]; exact r1 t ht
  · rw [e 30 (by decide)]; exact r2
  · rw [e 31 (by decide)]; exact r3
theorem acts_rem {h : HV} {a : AV} {w : LV} {c' : Nat → Int32} {q q' : Nat → Nat → Int32} {nx : Nat} (hn10 : hn h ≤ 10) (ok : AOK a) (hnx : nx < 24) (ha : ∀ k, k < asz a → RowR h q ((nx + 24 - asz a + k) % 24) (alo a ((afi a + k) % 24))) (hrow : RowR h q' nx w) (hout : ∀ r, r ≠ nx → ∀ j, j < 32 → q' 189 (32 * r + j) = q 189 (32 * r + j)) (e24 : c' 24 = nI (if asz a < 24 then asz a + 1 else 24)) (e25 : c' 25 = nI ((nx + 1) % 24)) : ActsR h (remV a w) c' q' := by
  obtain ⟨o1, o2, -⟩ := ok
  unfold remV
  by_cases e : 24 ≤ asz a
  · rw [if_pos e]
    have es : asz a = 24 := by omega
    refine ⟨(nx + 1) % 24, Nat.mod_lt _ (by decide), by rw [e24, if_neg (by omega)]; show nI 24 = nI (asz a); rw [es], e25, fun k hk => ?_⟩
    show RowR h q' (((nx + 1) % 24 + 24 - asz a + k) % 24) (va_up (alo a) (((afi a + 1) % 24 + (asz a - 1)) % 24) w (((afi a + 1) % 24 + k) % 24))
    have hk2 : k < 24 := by have : k < asz a := hk; omega
    rw [es]
    by_cases e3 : k = 23
    · subst e3
      rw [va_up_self, show ((nx + 1) % 24 + 24 - 24 + 23) % 24 = nx by omega]
      exact hrow
    · rw [va_up_ne _ _ (by omega)]
      have z := ha (k + 1) (by omega)
      rw [es] at z
      rw [show ((nx + 1) % 24 + 24 - 24 + k) % 24 = (nx + 24 - 24 + (k + 1)) % 24 by omega, show ((afi a + 1) % 24 + k) % 24 = (afi a + (k + 1)) % 24 by omega]
      exact z.out hn10 (hout _ (by omega))
  · rw [if_neg e]
    refine ⟨(nx + 1) % 24, Nat.mod_lt _ (by decide), by rw [e24, if_pos (by omega)]; rfl, e25, fun k hk => ?_⟩
    have hk2 : k < asz a + 1 := hk
    show RowR h q' (((nx + 1) % 24 + 24 - (asz a + 1) + k) % 24) (va_up (alo a) ((afi a + asz a) % 24) w ((afi a + k) % 24))
    by_cases e3 : k = asz a
    · subst e3
      rw [va_up_self, show ((nx + 1) % 24 + 24 - (asz a + 1) + asz a) % 24 = nx by omega]
      exact hrow
    · rw [va_up_ne _ _ (by omega), show ((nx + 1) % 24 + 24 - (asz a + 1) + k) % 24 = (nx + 24 - asz a + k) % 24 by omega]
      exact (ha k (by omega)).out hn10 (hout _ (by omega))
theorem fn_up {f : Nat → Nat → Int32} {k j : Nat} {v : Int32} (i : Nat) : va_up f k (upd (f k) j v) k i = if i = j then v else f k i := by rw [va_up_self]; rfl
/-- the row behind keepAct -/
theorem row_in {h : HV} {w : LV} {q q4 q5 q6 : Nat → Nat → Int32} {nx : Nat} {c22 c23 : Int32} (hB : BankR h q 0 w) (hn10 : hn h ≤ 10) (k : KR 189 (32 * nx) 10 q q4) (e5 : q5 = va_up q4 189 (upd (q4 189) (32 * nx + 30) c22)) (e6 : q6 = va_up q5 189 (upd (q5 189) (32 * nx + 31) c23)) (h22 : c22 = nI (wa w)) (h23 : c23 = bI (su w)) : RowR h q6 nx w ∧ ∀ r, r ≠ nx → ∀ j, j < 32 → q6 189 (32 * r + j) = q 189 (32 * r + j) := by
  obtain ⟨k1, k2, k3⟩ := k
  have v5 : ∀ i, q5 189 i = if i = 32 * nx + 30 then c22 else q4 189 i := fun i => by rw [e5, fn_up]
  have v6 : ∀ i, q6 189 i = if i = 32 * nx + 31 then c23 else q5 189 i := fun i => by rw [e6, fn_up]
  refine ⟨⟨fun t ht => ?_, ?_, ?_⟩, fun r hr j hj => ?_⟩
  · obtain ⟨z1, z2, z3⟩ := k3 t (by omega)
    obtain ⟨b1, b2, b3⟩ := hB.z ht
    rw [v6, v5, if_neg (by omega), if_neg (by omega), v6, v5, if_neg (by omega), if_neg (by omega), v6, v5, if_neg (by omega), if_neg (by omega), z1, z2, z3]
    exact ⟨b1, b2, b3⟩
  · rw [v6, v5, if_neg (by omega), if_pos rfl]; exact h22
  · rw [v6, if_pos rfl]; exact h23
  · rw [v6, v5, if_neg (by omega), if_neg (by omega)]; exact k2 _ (by omega)
theorem bI1 (b : Bool) : bI b = nI 1 ↔ b = true := by cases b <;> decide
theorem inB_01 (x : Int32) : inB (Int32.toInt64 x) (lN 0) (lN 1) = isS x := by
  have e0 : (lN 0).toInt = 0 := by decide
  have e1 : (lN 1).toInt = 1 := by decide
  have e2 : (nI 2).toInt = 2 := by decide
  unfold inB isS
  simp only [Int64.le_iff_toInt_le, Int32.le_iff_toInt_le, Int32.lt_iff_toInt_lt, Int32.toInt_toInt64, e0, e1, e2, Int32.toInt_zero]
  congr 1
  exact decide_eq_decide.mpr (by omega)
theorem iwX9_keepAct_X9 : ∀ w ∈ u_ws RX9 TX9 35, w ∈ wsX9_keepAct := by decide +kernel
theorem flX9_keepAct_40 : Cond.fieldLink RX9 40 RX9 (TX9 19).2.1 (TX9 19).2.2.1 ∈ wsX9_keepAct := by decide +kernel
theorem flX9_keepAct_43 : Cond.fieldLink RX9 43 RX9 (TX9 20).2.1 (TX9 20).2.2.1 ∈ wsX9_keepAct := by decide +kernel
theorem flX9_keepAct_46 : Cond.fieldLink RX9 46 RX9 (TX9 21).2.1 (TX9 21).2.2.1 ∈ wsX9_keepAct := by decide +kernel
theorem flX9_keepAct_49 : Cond.fieldLink RX9 49 RX9 (TX9 26).2.1 (TX9 26).2.2.1 ∈ wsX9_keepAct := by decide +kernel
theorem flX9_keepAct_120 : Cond.fieldLink RX9 120 RX9 (TX9 22).2.1 (TX9 22).2.2.1 ∈ wsX9_keepAct := by decide +kernel
theorem flX9_keepAct_123 : Cond.fieldLink RX9 123 RX9 (TX9 23).2.1 (TX9 23).2.2.1 ∈ wsX9_keepAct := by decide +kernel
theorem flX9_keepAct_127 : Cond.fieldLink RX9 127 RX9 (TX9 24).2.1 (TX9 24).2.2.1 ∈ wsX9_keepAct := by decide +kernel
theorem flX9_keepAct_156 : Cond.fieldLink RX9 156 RX9 (TX9 25).2.1 (TX9 25).2.2.1 ∈ wsX9_keepAct := by decide +kernel
set_option maxHeartbeats 4000000 in
set_option maxRecDepth 100000 in
theorem ctX9_keepAct (l : Launch) (g : Gx) (lo : Nat) (ad : Nat → Nat) {F : Nat → va_E} {c : Nat → Int32} {q : Nat → Nat → Int32} {sm : Nat → Int64} {x : XV} (hM : MC g ad F c q sm) (hX : XR x c q) (okx : XOK x) : MV l g lo 196 ad yX9_keepAct wsX9_keepAct 0 0 [.ref (ad (175))] F (fun F' => ∃ c' q', MC g ad F' c' q' sm ∧ Same 175 196 F F' ∧ CQ [24, 25] [189] c c' q q' ∧ ActsR (xh x) (remV (xa x) (xw x)) c' q') := by
  obtain ⟨hTx, hR, ⟨hB, hwa, hsu⟩, hAx, hKx⟩ := id hX
  obtain ⟨okT, ok, hw, okA, okS, okAu, okSu⟩ := id okx
  have okn := ok.1
  have okp := ok.2.1
  have okh := ok.2.2.1
  have okt := okT.1
  have hS : Same 175 196 F F := Same.rf
  have hb : 0 ≤ 50 := by decide
  have hwa3 := hw.2.1
  obtain ⟨nx, hnx, ha24, ha25, hac⟩ := id hAx
  have oka := okA.2.1
  have okf := okA.1
  refine enter (cc := cX9_keepAct) (maxL := 3) (ret := none) (own := RX9) (by decide +kernel) rfl rfl (Nat.le_of_ble_eq_true rfl) ?_
  intro pp ee ss mm below meth cc B hini hC ls hl
  have hl : lv_has ls 3 [(0, .ref (ad (175)))] := hl
  refine lv_bipush (v := nI 32) B.1 B.2.1 dX9_keepAct_0 (by decide) ?_
  refine lv_aload_n B.1 B.2.1 dX9_keepAct_2 rfl (lv_at hl 0 rfl) ?_
  refine r_cg B hC (i := 175) (by decide) hM.1 (C := RX9) (T := TX9) (n := 35) rfl iwX9_keepAct_X9 25 (by decide) (index := 156) flX9_keepAct_156 rfl (v := .int (c 25)) rfl dX9_keepAct_3 ?_
  refine r_tI (y := nI nx) (ha25) ?_
  refine lv_imul B.1 B.2.1 dX9_keepAct_6 ?_
  refine r_tI (y := nI (32 * nx)) (pk_mul _ _) ?_
  refine lv_istore_n (lv' := [(1, .int (nI (32 * nx))), (0, .ref (ad (175)))]) B.1 B.2.1 dX9_keepAct_7 rfl hl (by decide) rfl (fun ls hl => ?_)
  refine lv_iconst (v := nI 0) B.1 B.2.1 dX9_keepAct_8 (by decide) ?_
  refine lv_istore_n (lv' := [(2, .int (nI 0)), (1, .int (nI (32 * nx))), (0, .ref (ad (175)))]) B.1 B.2.1 dX9_keepAct_9 rfl hl (by decide) rfl (fun ls hl => ?_)
  have loop10 : ∀ (k : Nat) (t : Nat) (q1 : Nat → Nat → Int32) (G : Nat → va_E), (t + k = 10) → (MC g ad G c q1 sm) → (Same 175 196 F G) → (KR 189 (32 * nx) t q q1) → ∀ (H : Heap) (locs : List Loc) (ls : Array Slot), Cu g lo 196 ad G ss ss.heap H locs → lv_has ls 3 [(2, .int (nI t)), (0, .ref (ad (175))), (1, .int (nI (32 * nx)))] → W pp l ee { frames := 0, cells := 0, slots := 0, locals := 0 } ss mm ([.ref (ad (175))] : List Value).toArray below meth cc H locs 0 0 (MQ below (va_Qv (fun F' => ∃ c' q', MC g ad F' c' q' sm ∧ Same 175 196 F F' ∧ CQ [24, 25] [189] c c' q q' ∧ ActsR (xh x) (remV (xa x) (xw x)) c' q') (fun F' t => Wd g lo 196 ad F' t) (fun q => lo ≤ q)) ([.ref (ad (175))] : List Value).toArray ss 0 0 (fun q => lo ≤ q)) (F0 mm 10 ls []) := by
    intro k
    induction k with
    | zero =>
      intro t q1 G htk hM1 hS1 hK H locs ls hC hl
      refine lv_iload_n B.1 B.2.1 dX9_keepAct_10 rfl (lv_at hl 0 rfl) ?_
      refine lv_bipush (v := nI 10) B.1 B.2.1 dX9_keepAct_11 (by decide) ?_
      refine lv_icmp_ge (tgt := 70) B.1 B.2.1 dX9_keepAct_13 (by decide) (fun _ => ?_) (fun z => absurd (nI_le (by omega) (by omega)) z)
      refine lv_aload_n B.1 B.2.1 dX9_keepAct_70 rfl (lv_at hl 1 rfl) ?_
      refine r_cg B hC (i := 175) (by decide) hM1.1 (C := RX9) (T := TX9) (n := 35) rfl iwX9_keepAct_X9 26 (by decide) (index := 49) flX9_keepAct_49 rfl (v := .ref (ad (189))) rfl dX9_keepAct_71 ?_
      refine lv_iload_n B.1 B.2.1 dX9_keepAct_74 rfl (lv_at hl 2 rfl) ?_
      refine lv_bipush (v := nI 30) B.1 B.2.1 dX9_keepAct_75 (by decide) ?_
      refine lv_iadd B.1 B.2.1 dX9_keepAct_77 ?_
      refine r_tI (y := nI ((32 * nx) + 30)) (nI_add _ _) ?_
      refine lv_aload_n B.1 B.2.1 dX9_keepAct_78 rfl (lv_at hl 1 rfl) ?_
      refine r_cg B hC (i := 175) (by decide) hM1.1 (C := RX9) (T := TX9) (n := 35) rfl iwX9_keepAct_X9 22 (by decide) (index := 120) flX9_keepAct_120 rfl (v := .int (c 22)) rfl dX9_keepAct_79 ?_
      refine r_tI (y := nI (wa (xw x))) (hwa) ?_
      refine r_cast B hC (i := 189) (by decide) hM1.c189 (j := ((32 * nx) + 30)) (by omega) (by decide) dX9_keepAct_82 ?_
      intro H locs hC
      obtain ⟨F31, eF31⟩ : ∃ f : Nat → va_E, f = va_up G 189 (.inl (g.2.2 0, 768, .inl (upd (q1 189) (((32 * nx) + 30)) (nI (wa (xw x)))))) := ⟨_, rfl⟩
      have hC : Cu g lo 196 ad F31 ss ss.heap H locs := by rw [eF31]; exact hC
      obtain ⟨q31, eq31⟩ : ∃ f, f = va_up q1 189 (upd (q1 189) (((32 * nx) + 30)) (nI (wa (xw x)))) := ⟨_, rfl⟩
      have hM_F31 : MC g ad F31 c q31 sm := by rw [eq31]; exact hM1.arr (by decide) (by decide) (by decide) (by decide) (by decide) eF31
      have hS_F31 : Same 175 196 F F31 := by rw [eF31]; exact hS1.up (by decide) (by decide)
      refine lv_aload_n B.1 B.2.1 dX9_keepAct_83 rfl (lv_at hl 1 rfl) ?_
      refine r_cg B hC (i := 175) (by decide) hM_F31.1 (C := RX9) (T := TX9) (n := 35) rfl iwX9_keepAct_X9 26 (by decide) (index := 49) flX9_keepAct_49 rfl (v := .ref (ad (189))) rfl dX9_keepAct_84 ?_
      refine lv_iload_n B.1 B.2.1 dX9_keepAct_87 rfl (lv_at hl 2 rfl) ?_
      refine lv_bipush (v := nI 31) B.1 B.2.1 dX9_keepAct_88 (by decide) ?_
      refine lv_iadd B.1 B.2.1 dX9_keepAct_90 ?_
      refine r_tI (y := nI ((32 * nx) + 31)) (nI_add _ _) ?_
      refine lv_aload_n B.1 B.2.1 dX9_keepAct_91 rfl (lv_at hl 1 rfl) ?_
      refine r_cg B hC (i := 175) (by decide) hM_F31.1 (C := RX9) (T := TX9) (n := 35) rfl iwX9_keepAct_X9 23 (by decide) (index := 123) flX9_keepAct_123 rfl (v := .int (c 23)) rfl dX9_keepAct_92 ?_
      refine r_tI (y := bI (su (xw x))) (hsu) ?_
      refine lv_if_eq (tgt := 102) B.1 B.2.1 dX9_keepAct_95 (by decide) (fun c_95 => ?_) (fun c_95 => ?_)
      · have q_95 : (su (xw x)) = false := bI_f.mp c_95
        refine lv_iconst (v := nI 0) B.1 B.2.1 dX9_keepAct_102 (by decide) ?_
        refine r_cast B hC (i := 189) (by decide) hM_F31.c189 (j := ((32 * nx) + 31)) (by omega) (by decide) dX9_keepAct_103 ?_
        intro H locs hC
        obtain ⟨F32, eF32⟩ : ∃ f : Nat → va_E, f = va_up F31 189 (.inl (g.2.2 0, 768, .inl (upd (q31 189) (((32 * nx) + 31)) (nI 0)))) := ⟨_, rfl⟩
        have hC : Cu g lo 196 ad F32 ss ss.heap H locs := by rw [eF32]; exact hC
        obtain ⟨q32, eq32⟩ : ∃ f, f = va_up q31 189 (upd (q31 189) (((32 * nx) + 31)) (nI 0)) := ⟨_, rfl⟩
        have hM_F32 : MC g ad F32 c q32 sm := by rw [eq32]; exact hM_F31.arr (by decide) (by decide) (by decide) (by decide) (by decide) eF32
        have hS_F32 : Same 175 196 F F32 := by rw [eF32]; exact hS_F31.up (by decide) (by decide)
        refine lv_aload_n B.1 B.2.1 dX9_keepAct_104 rfl (lv_at hl 1 rfl) ?_
        refine lv_aload_n B.1 B.2.1 dX9_keepAct_105 rfl (lv_at hl 1 rfl) ?_
        refine r_cg B hC (i := 175) (by decide) hM_F32.1 (C := RX9) (T := TX9) (n := 35) rfl iwX9_keepAct_X9 25 (by decide) (index := 156) flX9_keepAct_156 rfl (v := .int (c 25)) rfl dX9_keepAct_106 ?_
        refine r_tI (y := nI nx) (ha25) ?_
        refine lv_iconst (v := nI 1) B.1 B.2.1 dX9_keepAct_109 (by decide) ?_
        refine lv_iadd B.1 B.2.1 dX9_keepAct_110 ?_
        refine r_tI (y := nI (nx + 1)) (nI_add _ _) ?_
        refine lv_bipush (v := nI 24) B.1 B.2.1 dX9_keepAct_111 (by decide) ?_
        refine lv_irem B.1 B.2.1 dX9_keepAct_113 (by decide) ?_
        refine r_tI (y := nI ((nx + 1) % 24)) (pk_rem (by omega) (by omega) (by omega)) ?_
        obtain ⟨c33, ec33⟩ : ∃ f, f = va_up c 25 (nI ((nx + 1) % 24)) := ⟨_, rfl⟩
        refine r_cp B hC (i := 175) (by decide) hM_F32.1 tyX9 tyX9_ok nmX9 (C := RX9) (T := TX9) rfl iwX9_keepAct_X9 25 (by decide) (index := 156) flX9_keepAct_156 rfl rfl (v := .int (nI ((nx + 1) % 24))) (rfl) (rfl) (Nat.le_of_ble_eq_true rfl) dX9_keepAct_114 ?_
        intro H locs hC
        obtain ⟨F33, eF33⟩ : ∃ f, f = va_up F32 175 (mObj ad c33) := ⟨_, rfl⟩
        have hC : Cu g lo 196 ad F33 ss ss.heap H locs := by rw [eF33, ec33]; exact hC
        have hM_F33 : MC g ad F33 c33 q32 sm := hM_F32.fld eF33
        have cv12_F33 : c33 12 = nI (hn (xh x)) := by rw [ec33, va_up_ne _ _ (by decide)]; exact hR.1
        have cv13_F33 : c33 13 = nI (hpu (xh x)) := by rw [ec33, va_up_ne _ _ (by decide)]; exact hR.2.1
        have cv14_F33 : c33 14 = nI (hho (xh x)) := by rw [ec33, va_up_ne _ _ (by decide)]; exact hR.2.2.1
        have cv16_F33 : c33 16 = nI (tn (xt x)) := by rw [ec33, va_up_ne _ _ (by decide)]; exact hTx.1
        have cv22_F33 : c33 22 = nI (wa (xw x)) := by rw [ec33, va_up_ne _ _ (by decide)]; exact hwa
        have cv23_F33 : c33 23 = bI (su (xw x)) := by rw [ec33, va_up_ne _ _ (by decide)]; exact hsu
        have cv24_F33 : c33 24 = nI (asz (xa x)) := by rw [ec33, va_up_ne _ _ (by decide)]; exact ha24
        have cv25_F33 : c33 25 = nI ((nx + 1) % 24) := by rw [ec33, va_up_self]
        have hS_F33 : Same 175 196 F F33 := by rw [eF33]; exact hS_F32.up (by decide) (by decide)
        refine lv_aload_n B.1 B.2.1 dX9_keepAct_117 rfl (lv_at hl 1 rfl) ?_
        refine lv_aload_n B.1 B.2.1 dX9_keepAct_118 rfl (lv_at hl 1 rfl) ?_
        refine r_cg B hC (i := 175) (by decide) hM_F33.1 (C := RX9) (T := TX9) (n := 35) rfl iwX9_keepAct_X9 24 (by decide) (index := 127) flX9_keepAct_127 rfl (v := .int (c33 24)) rfl dX9_keepAct_119 ?_
        refine r_tI (y := nI (asz (xa x))) (cv24_F33) ?_
        refine lv_bipush (v := nI 24) B.1 B.2.1 dX9_keepAct_122 (by decide) ?_
        refine lv_icmp_ge (tgt := 136) B.1 B.2.1 dX9_keepAct_124 (by decide) (fun c_124 => ?_) (fun c_124 => ?_)
        · have q_124 : 24 ≤ (asz (xa x)) := (nI_leI (by omega) (by omega)).mp c_124
          refine lv_bipush (v := nI 24) B.1 B.2.1 dX9_keepAct_136 (by decide) ?_
          obtain ⟨c34, ec34⟩ : ∃ f, f = va_up c33 24 (nI 24) := ⟨_, rfl⟩
          refine r_cp B hC (i := 175) (by decide) hM_F33.1 tyX9 tyX9_ok nmX9 (C := RX9) (T := TX9) rfl iwX9_keepAct_X9 24 (by decide) (index := 127) flX9_keepAct_127 rfl rfl (v := .int (nI 24)) (rfl) (rfl) (Nat.le_of_ble_eq_true rfl) dX9_keepAct_138 ?_
          intro H locs hC
          obtain ⟨F34, eF34⟩ : ∃ f, f = va_up F33 175 (mObj ad c34) := ⟨_, rfl⟩
          have hC : Cu g lo 196 ad F34 ss ss.heap H locs := by rw [eF34, ec34]; exact hC
          have hM_F34 : MC g ad F34 c34 q32 sm := hM_F33.fld eF34
          have cv12_F34 : c34 12 = nI (hn (xh x)) := by rw [ec34, va_up_ne _ _ (by decide)]; exact cv12_F33
          have cv13_F34 : c34 13 = nI (hpu (xh x)) := by rw [ec34, va_up_ne _ _ (by decide)]; exact cv13_F33
          have cv14_F34 : c34 14 = nI (hho (xh x)) := by rw [ec34, va_up_ne _ _ (by decide)]; exact cv14_F33
          have cv16_F34 : c34 16 = nI (tn (xt x)) := by rw [ec34, va_up_ne _ _ (by decide)]; exact cv16_F33
          have cv22_F34 : c34 22 = nI (wa (xw x)) := by rw [ec34, va_up_ne _ _ (by decide)]; exact cv22_F33
          have cv23_F34 : c34 23 = bI (su (xw x)) := by rw [ec34, va_up_ne _ _ (by decide)]; exact cv23_F33
          have cv25_F34 : c34 25 = nI ((nx + 1) % 24) := by rw [ec34, va_up_ne _ _ (by decide)]; exact cv25_F33
          have cv24_F34 : c34 24 = nI 24 := by rw [ec34, va_up_self]
          have hS_F34 : Same 175 196 F F34 := by rw [eF34]; exact hS_F33.up (by decide) (by decide)
          exact r_eV B hC (⟨_, _, hM_F34, hS_F34, (((((CQ.of (A := [24, 25]) (B := [189]) (c := c) (c' := c) (q := q) (q' := q1) (fun _ _ => rfl) (fun i hi => hK.1 i (fun z => hi (by rw [z]; decide)))).uq eq31 (by decide)).uq eq32 (by decide)).uc ec33 (by decide)).uc ec34 (by decide)), acts_rem okn okA hnx hac (row_in hB okn (show KR 189 (32 * nx) 10 q q1 from (show t = 10 by omega) ▸ hK) eq31 eq32 rfl (by rw [q_95]; rfl)).1 (row_in hB okn (show KR 189 (32 * nx) 10 q q1 from (show t = 10 by omega) ▸ hK) eq31 eq32 rfl (by rw [q_95]; rfl)).2 (by rw [cv24_F34]; rw [if_neg (by omega)]) (cv25_F34)⟩) dX9_keepAct_141
        · have q_124 : ¬ 24 ≤ (asz (xa x)) := fun z => c_124 ((nI_leI (by omega) (by omega)).mpr z)
          refine lv_aload_n B.1 B.2.1 dX9_keepAct_127 rfl (lv_at hl 1 rfl) ?_
          refine r_cg B hC (i := 175) (by decide) hM_F33.1 (C := RX9) (T := TX9) (n := 35) rfl iwX9_keepAct_X9 24 (by decide) (index := 127) flX9_keepAct_127 rfl (v := .int (c33 24)) rfl dX9_keepAct_128 ?_
          refine r_tI (y := nI (asz (xa x))) (cv24_F33) ?_
          refine lv_iconst (v := nI 1) B.1 B.2.1 dX9_keepAct_131 (by decide) ?_
          refine lv_iadd B.1 B.2.1 dX9_keepAct_132 ?_
          refine r_tI (y := nI ((asz (xa x)) + 1)) (nI_add _ _) ?_
          refine lv_goto (tgt := 138) B.1 B.2.1 dX9_keepAct_133 (by decide) ?_
          obtain ⟨c34, ec34⟩ : ∃ f, f = va_up c33 24 (nI ((asz (xa x)) + 1)) := ⟨_, rfl⟩
          refine r_cp B hC (i := 175) (by decide) hM_F33.1 tyX9 tyX9_ok nmX9 (C := RX9) (T := TX9) rfl iwX9_keepAct_X9 24 (by decide) (index := 127) flX9_keepAct_127 rfl rfl (v := .int (nI ((asz (xa x)) + 1))) (rfl) (rfl) (Nat.le_of_ble_eq_true rfl) dX9_keepAct_138 ?_
          intro H locs hC
          obtain ⟨F34, eF34⟩ : ∃ f, f = va_up F33 175 (mObj ad c34) := ⟨_, rfl⟩
          have hC : Cu g lo 196 ad F34 ss ss.heap H locs := by rw [eF34, ec34]; exact hC
          have hM_F34 : MC g ad F34 c34 q32 sm := hM_F33.fld eF34
          have cv12_F34 : c34 12 = nI (hn (xh x)) := by rw [ec34, va_up_ne _ _ (by decide)]; exact cv12_F33
          have cv13_F34 : c34 13 = nI (hpu (xh x)) := by rw [ec34, va_up_ne _ _ (by decide)]; exact cv13_F33
          have cv14_F34 : c34 14 = nI (hho (xh x)) := by rw [ec34, va_up_ne _ _ (by decide)]; exact cv14_F33
          have cv16_F34 : c34 16 = nI (tn (xt x)) := by rw [ec34, va_up_ne _ _ (by decide)]; exact cv16_F33
          have cv22_F34 : c34 22 = nI (wa (xw x)) := by rw [ec34, va_up_ne _ _ (by decide)]; exact cv22_F33
          have cv23_F34 : c34 23 = bI (su (xw x)) := by rw [ec34, va_up_ne _ _ (by decide)]; exact cv23_F33
          have cv25_F34 : c34 25 = nI ((nx + 1) % 24) := by rw [ec34, va_up_ne _ _ (by decide)]; exact cv25_F33
          have cv24_F34 : c34 24 = nI ((asz (xa x)) + 1) := by rw [ec34, va_up_self]
          have hS_F34 : Same 175 196 F F34 := by rw [eF34]; exact hS_F33.up (by decide) (by decide)
          exact r_eV B hC (⟨_, _, hM_F34, hS_F34, (((((CQ.of (A := [24, 25]) (B := [189]) (c := c) (c' := c) (q := q) (q' := q1) (fun _ _ => rfl) (fun i hi => hK.1 i (fun z => hi (by rw [z]; decide)))).uq eq31 (by decide)).uq eq32 (by decide)).uc ec33 (by decide)).uc ec34 (by decide)), acts_rem okn okA hnx hac (row_in hB okn (show KR 189 (32 * nx) 10 q q1 from (show t = 10 by omega) ▸ hK) eq31 eq32 rfl (by rw [q_95]; rfl)).1 (row_in hB okn (show KR 189 (32 * nx) 10 q q1 from (show t = 10 by omega) ▸ hK) eq31 eq32 rfl (by rw [q_95]; rfl)).2 (by rw [cv24_F34]; rw [if_pos (by omega)]) (cv25_F34)⟩) dX9_keepAct_141
      · have q_95 : (su (xw x)) = true := bI_t.mp c_95
        refine lv_iconst (v := nI 1) B.1 B.2.1 dX9_keepAct_98 (by decide) ?_
        refine lv_goto (tgt := 103) B.1 B.2.1 dX9_keepAct_99 (by decide) ?_
        refine r_cast B hC (i := 189) (by decide) hM_F31.c189 (j := ((32 * nx) + 31)) (by omega) (by decide) dX9_keepAct_103 ?_
        intro H locs hC
        obtain ⟨F32, eF32⟩ : ∃ f : Nat → va_E, f = va_up F31 189 (.inl (g.2.2 0, 768, .inl (upd (q31 189) (((32 * nx) + 31)) (nI 1)))) := ⟨_, rfl⟩
        have hC : Cu g lo 196 ad F32 ss ss.heap H locs := by rw [eF32]; exact hC
        obtain ⟨q32, eq32⟩ : ∃ f, f = va_up q31 189 (upd (q31 189) (((32 * nx) + 31)) (nI 1)) := ⟨_, rfl⟩
        have hM_F32 : MC g ad F32 c q32 sm := by rw [eq32]; exact hM_F31.arr (by decide) (by decide) (by decide) (by decide) (by decide) eF32
        have hS_F32 : Same 175 196 F F32 := by rw [eF32]; exact hS_F31.up (by decide) (by decide)
        refine lv_aload_n B.1 B.2.1 dX9_keepAct_104 rfl (lv_at hl 1 rfl) ?_
        refine lv_aload_n B.1 B.2.1 dX9_keepAct_105 rfl (lv_at hl 1 rfl) ?_
        refine r_cg B hC (i := 175) (by decide) hM_F32.1 (C := RX9) (T := TX9) (n := 35) rfl iwX9_keepAct_X9 25 (by decide) (index := 156) flX9_keepAct_156 rfl (v := .int (c 25)) rfl dX9_keepAct_106 ?_
        refine r_tI (y := nI nx) (ha25) ?_
        refine lv_iconst (v := nI 1) B.1 B.2.1 dX9_keepAct_109 (by decide) ?_
        refine lv_iadd B.1 B.2.1 dX9_keepAct_110 ?_
        refine r_tI (y := nI (nx + 1)) (nI_add _ _) ?_
        refine lv_bipush (v := nI 24) B.1 B.2.1 dX9_keepAct_111 (by decide) ?_
        refine lv_irem B.1 B.2.1 dX9_keepAct_113 (by decide) ?_
        refine r_tI (y := nI ((nx + 1) % 24)) (pk_rem (by omega) (by omega) (by omega)) ?_
        obtain ⟨c33, ec33⟩ : ∃ f, f = va_up c 25 (nI ((nx + 1) % 24)) := ⟨_, rfl⟩
        refine r_cp B hC (i := 175) (by decide) hM_F32.1 tyX9 tyX9_ok nmX9 (C := RX9) (T := TX9) rfl iwX9_keepAct_X9 25 (by decide) (index := 156) flX9_keepAct_156 rfl rfl (v := .int (nI ((nx + 1) % 24))) (rfl) (rfl) (Nat.le_of_ble_eq_true rfl) dX9_keepAct_114 ?_
        intro H locs hC
        obtain ⟨F33, eF33⟩ : ∃ f, f = va_up F32 175 (mObj ad c33) := ⟨_, rfl⟩
        have hC : Cu g lo 196 ad F33 ss ss.heap H locs := by rw [eF33, ec33]; exact hC
        have hM_F33 : MC g ad F33 c33 q32 sm := hM_F32.fld eF33
        have cv12_F33 : c33 12 = nI (hn (xh x)) := by rw [ec33, va_up_ne _ _ (by decide)]; exact hR.1
        have cv13_F33 : c33 13 = nI (hpu (xh x)) := by rw [ec33, va_up_ne _ _ (by decide)]; exact hR.2.1
        have cv14_F33 : c33 14 = nI (hho (xh x)) := by rw [ec33, va_up_ne _ _ (by decide)]; exact hR.2.2.1
        have cv16_F33 : c33 16 = nI (tn (xt x)) := by rw [ec33, va_up_ne _ _ (by decide)]; exact hTx.1
        have cv22_F33 : c33 22 = nI (wa (xw x)) := by rw [ec33, va_up_ne _ _ (by decide)]; exact hwa
        have cv23_F33 : c33 23 = bI (su (xw x)) := by rw [ec33, va_up_ne _ _ (by decide)]; exact hsu
        have cv24_F33 : c33 24 = nI (asz (xa x)) := by rw [ec33, va_up_ne _ _ (by decide)]; exact ha24
        have cv25_F33 : c33 25 = nI ((nx + 1) % 24) := by rw [ec33, va_up_self]
        have hS_F33 : Same 175 196 F F33 := by rw [eF33]; exact hS_F32.up (by decide) (by decide)
        refine lv_aload_n B.1 B.2.1 dX9_keepAct_117 rfl (lv_at hl 1 rfl) ?_
        refine lv_aload_n B.1 B.2.1 dX9_keepAct_118 rfl (lv_at hl 1 rfl) ?_
        refine r_cg B hC (i := 175) (by decide) hM_F33.1 (C := RX9) (T := TX9) (n := 35) rfl iwX9_keepAct_X9 24 (by decide) (index := 127) flX9_keepAct_127 rfl (v := .int (c33 24)) rfl dX9_keepAct_119 ?_
        refine r_tI (y := nI (asz (xa x))) (cv24_F33) ?_
        refine lv_bipush (v := nI 24) B.1 B.2.1 dX9_keepAct_122 (by decide) ?_
        refine lv_icmp_ge (tgt := 136) B.1 B.2.1 dX9_keepAct_124 (by decide) (fun c_124 => ?_) (fun c_124 => ?_)
        · have q_124 : 24 ≤ (asz (xa x)) := (nI_leI (by omega) (by omega)).mp c_124
          refine lv_bipush (v := nI 24) B.1 B.2.1 dX9_keepAct_136 (by decide) ?_
          obtain ⟨c34, ec34⟩ : ∃ f, f = va_up c33 24 (nI 24) := ⟨_, rfl⟩
          refine r_cp B hC (i := 175) (by decide) hM_F33.1 tyX9 tyX9_ok nmX9 (C := RX9) (T := TX9) rfl iwX9_keepAct_X9 24 (by decide) (index := 127) flX9_keepAct_127 rfl rfl (v := .int (nI 24)) (rfl) (rfl) (Nat.le_of_ble_eq_true rfl) dX9_keepAct_138 ?_
          intro H locs hC
          obtain ⟨F34, eF34⟩ : ∃ f, f = va_up F33 175 (mObj ad c34) := ⟨_, rfl⟩
          have hC : Cu g lo 196 ad F34 ss ss.heap H locs := by rw [eF34, ec34]; exact hC
          have hM_F34 : MC g ad F34 c34 q32 sm := hM_F33.fld eF34
          have cv12_F34 : c34 12 = nI (hn (xh x)) := by rw [ec34, va_up_ne _ _ (by decide)]; exact cv12_F33
          have cv13_F34 : c34 13 = nI (hpu (xh x)) := by rw [ec34, va_up_ne _ _ (by decide)]; exact cv13_F33
          have cv14_F34 : c34 14 = nI (hho (xh x)) := by rw [ec34, va_up_ne _ _ (by decide)]; exact cv14_F33
          have cv16_F34 : c34 16 = nI (tn (xt x)) := by rw [ec34, va_up_ne _ _ (by decide)]; exact cv16_F33
          have cv22_F34 : c34 22 = nI (wa (xw x)) := by rw [ec34, va_up_ne _ _ (by decide)]; exact cv22_F33
          have cv23_F34 : c34 23 = bI (su (xw x)) := by rw [ec34, va_up_ne _ _ (by decide)]; exact cv23_F33
          have cv25_F34 : c34 25 = nI ((nx + 1) % 24) := by rw [ec34, va_up_ne _ _ (by decide)]; exact cv25_F33
          have cv24_F34 : c34 24 = nI 24 := by rw [ec34, va_up_self]
          have hS_F34 : Same 175 196 F F34 := by rw [eF34]; exact hS_F33.up (by decide) (by decide)
          exact r_eV B hC (⟨_, _, hM_F34, hS_F34, (((((CQ.of (A := [24, 25]) (B := [189]) (c := c) (c' := c) (q := q) (q' := q1) (fun _ _ => rfl) (fun i hi => hK.1 i (fun z => hi (by rw [z]; decide)))).uq eq31 (by decide)).uq eq32 (by decide)).uc ec33 (by decide)).uc ec34 (by decide)), acts_rem okn okA hnx hac (row_in hB okn (show KR 189 (32 * nx) 10 q q1 from (show t = 10 by omega) ▸ hK) eq31 eq32 rfl (by rw [q_95]; rfl)).1 (row_in hB okn (show KR 189 (32 * nx) 10 q q1 from (show t = 10 by omega) ▸ hK) eq31 eq32 rfl (by rw [q_95]; rfl)).2 (by rw [cv24_F34]; rw [if_neg (by omega)]) (cv25_F34)⟩) dX9_keepAct_141
        · have q_124 : ¬ 24 ≤ (asz (xa x)) := fun z => c_124 ((nI_leI (by omega) (by omega)).mpr z)
          refine lv_aload_n B.1 B.2.1 dX9_keepAct_127 rfl (lv_at hl 1 rfl) ?_
          refine r_cg B hC (i := 175) (by decide) hM_F33.1 (C := RX9) (T := TX9) (n := 35) rfl iwX9_keepAct_X9 24 (by decide) (index := 127) flX9_keepAct_127 rfl (v := .int (c33 24)) rfl dX9_keepAct_128 ?_
          refine r_tI (y := nI (asz (xa x))) (cv24_F33) ?_
          refine lv_iconst (v := nI 1) B.1 B.2.1 dX9_keepAct_131 (by decide) ?_
          refine lv_iadd B.1 B.2.1 dX9_keepAct_132 ?_
          refine r_tI (y := nI ((asz (xa x)) + 1)) (nI_add _ _) ?_
          refine lv_goto (tgt := 138) B.1 B.2.1 dX9_keepAct_133 (by decide) ?_
          obtain ⟨c34, ec34⟩ : ∃ f, f = va_up c33 24 (nI ((asz (xa x)) + 1)) := ⟨_, rfl⟩
          refine r_cp B hC (i := 175) (by decide) hM_F33.1 tyX9 tyX9_ok nmX9 (C := RX9) (T := TX9) rfl iwX9_keepAct_X9 24 (by decide) (index := 127) flX9_keepAct_127 rfl rfl (v := .int (nI ((asz (xa x)) + 1))) (rfl) (rfl) (Nat.le_of_ble_eq_true rfl) dX9_keepAct_138 ?_
          intro H locs hC
          obtain ⟨F34, eF34⟩ : ∃ f, f = va_up F33 175 (mObj ad c34) := ⟨_, rfl⟩
          have hC : Cu g lo 196 ad F34 ss ss.heap H locs := by rw [eF34, ec34]; exact hC
          have hM_F34 : MC g ad F34 c34 q32 sm := hM_F33.fld eF34
          have cv12_F34 : c34 12 = nI (hn (xh x)) := by rw [ec34, va_up_ne _ _ (by decide)]; exact cv12_F33
          have cv13_F34 : c34 13 = nI (hpu (xh x)) := by rw [ec34, va_up_ne _ _ (by decide)]; exact cv13_F33
          have cv14_F34 : c34 14 = nI (hho (xh x)) := by rw [ec34, va_up_ne _ _ (by decide)]; exact cv14_F33
          have cv16_F34 : c34 16 = nI (tn (xt x)) := by rw [ec34, va_up_ne _ _ (by decide)]; exact cv16_F33
          have cv22_F34 : c34 22 = nI (wa (xw x)) := by rw [ec34, va_up_ne _ _ (by decide)]; exact cv22_F33
          have cv23_F34 : c34 23 = bI (su (xw x)) := by rw [ec34, va_up_ne _ _ (by decide)]; exact cv23_F33
          have cv25_F34 : c34 25 = nI ((nx + 1) % 24) := by rw [ec34, va_up_ne _ _ (by decide)]; exact cv25_F33
          have cv24_F34 : c34 24 = nI ((asz (xa x)) + 1) := by rw [ec34, va_up_self]
          have hS_F34 : Same 175 196 F F34 := by rw [eF34]; exact hS_F33.up (by decide) (by decide)
          exact r_eV B hC (⟨_, _, hM_F34, hS_F34, (((((CQ.of (A := [24, 25]) (B := [189]) (c := c) (c' := c) (q := q) (q' := q1) (fun _ _ => rfl) (fun i hi => hK.1 i (fun z => hi (by rw [z]; decide)))).uq eq31 (by decide)).uq eq32 (by decide)).uc ec33 (by decide)).uc ec34 (by decide)), acts_rem okn okA hnx hac (row_in hB okn (show KR 189 (32 * nx) 10 q q1 from (show t = 10 by omega) ▸ hK) eq31 eq32 rfl (by rw [q_95]; rfl)).1 (row_in hB okn (show KR 189 (32 * nx) 10 q q1 from (show t = 10 by omega) ▸ hK) eq31 eq32 rfl (by rw [q_95]; rfl)).2 (by rw [cv24_F34]; rw [if_pos (by omega)]) (cv25_F34)⟩) dX9_keepAct_141
    | succ k ih10 =>
      intro t q1 G htk hM1 hS1 hK H locs ls hC hl
      refine lv_iload_n B.1 B.2.1 dX9_keepAct_10 rfl (lv_at hl 0 rfl) ?_
      refine lv_bipush (v := nI 10) B.1 B.2.1 dX9_keepAct_11 (by decide) ?_
      refine lv_icmp_ge (tgt := 70) B.1 B.2.1 dX9_keepAct_13 (by decide) (fun z => absurd z (nI_ge (by omega) (by omega))) (fun _ => ?_)
      refine lv_aload_n B.1 B.2.1 dX9_keepAct_16 rfl (lv_at hl 1 rfl) ?_
      refine r_cg B hC (i := 175) (by decide) hM1.1 (C := RX9) (T := TX9) (n := 35) rfl iwX9_keepAct_X9 26 (by decide) (index := 49) flX9_keepAct_49 rfl (v := .ref (ad (189))) rfl dX9_keepAct_17 ?_
      refine lv_iload_n B.1 B.2.1 dX9_keepAct_20 rfl (lv_at hl 2 rfl) ?_
      refine lv_iload_n B.1 B.2.1 dX9_keepAct_21 rfl (lv_at hl 0 rfl) ?_
      refine lv_iadd B.1 B.2.1 dX9_keepAct_22 ?_
      refine r_tI (y := nI ((32 * nx) + t)) (nI_add _ _) ?_
      refine lv_aload_n B.1 B.2.1 dX9_keepAct_23 rfl (lv_at hl 1 rfl) ?_
      refine r_cg B hC (i := 175) (by decide) hM1.1 (C := RX9) (T := TX9) (n := 35) rfl iwX9_keepAct_X9 19 (by decide) (index := 40) flX9_keepAct_40 rfl (v := .ref (ad (186))) rfl dX9_keepAct_24 ?_
      refine lv_iload_n B.1 B.2.1 dX9_keepAct_27 rfl (lv_at hl 0 rfl) ?_
      refine r_cald B hC (i := 186) (by decide) hM1.c186 (j := t) (by omega) (by decide) dX9_keepAct_28 ?_
      refine r_tI (y := q1 186 t) rfl ?_
      refine r_cast B hC (i := 189) (by decide) hM1.c189 (j := ((32 * nx) + t)) (by omega) (by decide) dX9_keepAct_29 ?_
      intro H locs hC
      obtain ⟨F31, eF31⟩ : ∃ f : Nat → va_E, f = va_up G 189 (.inl (g.2.2 0, 768, .inl (upd (q1 189) (((32 * nx) + t)) (q1 186 t)))) := ⟨_, rfl⟩
      have hC : Cu g lo 196 ad F31 ss ss.heap H locs := by rw [eF31]; exact hC
      obtain ⟨q31, eq31⟩ : ∃ f, f = va_up q1 189 (upd (q1 189) (((32 * nx) + t)) (q1 186 t)) := ⟨_, rfl⟩
      have hM_F31 : MC g ad F31 c q31 sm := by rw [eq31]; exact hM1.arr (by decide) (by decide) (by decide) (by decide) (by decide) eF31
      have hS_F31 : Same 175 196 F F31 := by rw [eF31]; exact hS1.up (by decide) (by decide)
      refine lv_aload_n B.1 B.2.1 dX9_keepAct_30 rfl (lv_at hl 1 rfl) ?_
      refine r_cg B hC (i := 175) (by decide) hM_F31.1 (C := RX9) (T := TX9) (n := 35) rfl iwX9_keepAct_X9 26 (by decide) (index := 49) flX9_keepAct_49 rfl (v := .ref (ad (189))) rfl dX9_keepAct_31 ?_
      refine lv_iload_n B.1 B.2.1 dX9_keepAct_34 rfl (lv_at hl 2 rfl) ?_
      refine lv_bipush (v := nI 10) B.1 B.2.1 dX9_keepAct_35 (by decide) ?_
      refine lv_iadd B.1 B.2.1 dX9_keepAct_37 ?_
      refine r_tI (y := nI ((32 * nx) + 10)) (nI_add _ _) ?_
      refine lv_iload_n B.1 B.2.1 dX9_keepAct_38 rfl (lv_at hl 0 rfl) ?_
      refine lv_iadd B.1 B.2.1 dX9_keepAct_39 ?_
      refine r_tI (y := nI (((32 * nx) + 10) + t)) (nI_add _ _) ?_
      refine lv_aload_n B.1 B.2.1 dX9_keepAct_40 rfl (lv_at hl 1 rfl) ?_
      refine r_cg B hC (i := 175) (by decide) hM_F31.1 (C := RX9) (T := TX9) (n := 35) rfl iwX9_keepAct_X9 20 (by decide) (index := 43) flX9_keepAct_43 rfl (v := .ref (ad (187))) rfl dX9_keepAct_41 ?_
      refine lv_iload_n B.1 B.2.1 dX9_keepAct_44 rfl (lv_at hl 0 rfl) ?_
      refine r_cald B hC (i := 187) (by decide) hM_F31.c187 (j := t) (by omega) (by decide) dX9_keepAct_45 ?_
      refine r_tI (y := q31 187 t) rfl ?_
      refine r_cast B hC (i := 189) (by decide) hM_F31.c189 (j := (((32 * nx) + 10) + t)) (by omega) (by decide) dX9_keepAct_46 ?_
      intro H locs hC
      obtain ⟨F32, eF32⟩ : ∃ f : Nat → va_E, f = va_up F31 189 (.inl (g.2.2 0, 768, .inl (upd (q31 189) ((((32 * nx) + 10) + t)) (q31 187 t)))) := ⟨_, rfl⟩
      have hC : Cu g lo 196 ad F32 ss ss.heap H locs := by rw [eF32]; exact hC
      obtain ⟨q32, eq32⟩ : ∃ f, f = va_up q31 189 (upd (q31 189) ((((32 * nx) + 10) + t)) (q31 187 t)) := ⟨_, rfl⟩
      have hM_F32 : MC g ad F32 c q32 sm := by rw [eq32]; exact hM_F31.arr (by decide) (by decide) (by decide) (by decide) (by decide) eF32
      have hS_F32 : Same 175 196 F F32 := by rw [eF32]; exact hS_F31.up (by decide) (by decide)
      refine lv_aload_n B.1 B.2.1 dX9_keepAct_47 rfl (lv_at hl 1 rfl) ?_
      refine r_cg B hC (i := 175) (by decide) hM_F32.1 (C := RX9) (T := TX9) (n := 35) rfl iwX9_keepAct_X9 26 (by decide) (index := 49) flX9_keepAct_49 rfl (v := .ref (ad (189))) rfl dX9_keepAct_48 ?_
      refine lv_iload_n B.1 B.2.1 dX9_keepAct_51 rfl (lv_at hl 2 rfl) ?_
      refine lv_bipush (v := nI 20) B.1 B.2.1 dX9_keepAct_52 (by decide) ?_
      refine lv_iadd B.1 B.2.1 dX9_keepAct_54 ?_
      refine r_tI (y := nI ((32 * nx) + 20)) (nI_add _ _) ?_
      refine lv_iload_n B.1 B.2.1 dX9_keepAct_55 rfl (lv_at hl 0 rfl) ?_
      refine lv_iadd B.1 B.2.1 dX9_keepAct_56 ?_
      refine r_tI (y := nI (((32 * nx) + 20) + t)) (nI_add _ _) ?_
      refine lv_aload_n B.1 B.2.1 dX9_keepAct_57 rfl (lv_at hl 1 rfl) ?_
      refine r_cg B hC (i := 175) (by decide) hM_F32.1 (C := RX9) (T := TX9) (n := 35) rfl iwX9_keepAct_X9 21 (by decide) (index := 46) flX9_keepAct_46 rfl (v := .ref (ad (188))) rfl dX9_keepAct_58 ?_
      refine lv_iload_n B.1 B.2.1 dX9_keepAct_61 rfl (lv_at hl 0 rfl) ?_
      refine r_cald B hC (i := 188) (by decide) hM_F32.c188 (j := t) (by omega) (by decide) dX9_keepAct_62 ?_
      refine r_tI (y := q32 188 t) rfl ?_
      refine r_cast B hC (i := 189) (by decide) hM_F32.c189 (j := (((32 * nx) + 20) + t)) (by omega) (by decide) dX9_keepAct_63 ?_
      intro H locs hC
      obtain ⟨F33, eF33⟩ : ∃ f : Nat → va_E, f = va_up F32 189 (.inl (g.2.2 0, 768, .inl (upd (q32 189) ((((32 * nx) + 20) + t)) (q32 188 t)))) := ⟨_, rfl⟩
      have hC : Cu g lo 196 ad F33 ss ss.heap H locs := by rw [eF33]; exact hC
      obtain ⟨q33, eq33⟩ : ∃ f, f = va_up q32 189 (upd (q32 189) ((((32 * nx) + 20) + t)) (q32 188 t)) := ⟨_, rfl⟩
      have hM_F33 : MC g ad F33 c q33 sm := by rw [eq33]; exact hM_F32.arr (by decide) (by decide) (by decide) (by decide) (by decide) eF33
      have hS_F33 : Same 175 196 F F33 := by rw [eF33]; exact hS_F32.up (by decide) (by decide)
      refine lv_iinc (v := nI (t + 1)) (lv' := [(2, .int (nI (t + 1))), (0, .ref (ad (175))), (1, .int (nI (32 * nx)))]) B.1 B.2.1 dX9_keepAct_64 hl (k := 0) rfl (nI_1 _) (by decide) rfl (fun ls hl => ?_)
      refine lv_goto (tgt := 10) B.1 B.2.1 dX9_keepAct_67 (by decide) ?_
      exact ih10 (t + 1) q33 F33 (by omega) hM_F33 hS_F33 (kr_step hK (by omega) (by decide) eq31 eq32 eq33) _ _ ls hC (lv_sub hl [0, 1, 2] rfl)
  exact loop10 10 0 q F (by omega) hM hS KR.z _ _ ls hC (lv_sub hl [0, 2, 1] rfl)
theorem BankR.bring0 {h : HV} {q : Nat → Nat → Int32} {t x : Nat} {w : LV} (k : BankR h q 0 w) : BankR h (va_up q 186 (upd (q 186) t (nI x))) 0 (bringV w t x) := by
  have z := k.bring (t := t) (x := x)
  rwa [Nat.zero_add] at z
theorem BankR.cut0 {h : HV} {q : Nat → Nat → Int32} {t x : Nat} {w : LV} (k : BankR h q 0 w) : BankR h (va_up q 187 (upd (q 187) t (nI x))) 0 (cutV w t x) := by
  have z := k.cut (t := t) (x := x)
  rwa [Nat.zero_add] at z
theorem iwX9_take_X9 : ∀ w ∈ u_ws RX9 TX9 35, w ∈ wsX9_take := by decide +kernel
theorem flX9_take_40 : Cond.fieldLink RX9 40 RX9 (TX9 19).2.1 (TX9 19).2.2.1 ∈ wsX9_take := by decide +kernel
theorem flX9_take_123 : Cond.fieldLink RX9 123 RX9 (TX9 23).2.1 (TX9 23).2.2.1 ∈ wsX9_take := by decide +kernel
set_option maxHeartbeats 4000000 in
set_option maxRecDepth 100000 in
theorem ctX9_take (l : Launch) (g : Gx) (lo : Nat) (ad : Nat → Nat) {F : Nat → va_E} {c : Nat → Int32} {q : Nat → Nat → Int32} {sm : Nat → Int64} {x : XV} (hM : MC g ad F c q sm) (hX : XR x c q) (okx : XOK x) {p : Int32} : MI l g lo 196 ad yX9_take wsX9_take 3 69 [.ref (ad (175)), .int (p)] F (fun r F' => r = takeA x p ∧ MX g ad F' (takeN x p) ∧ Same 175 196 F F') := by
  obtain ⟨hTx, hR, ⟨hB, hwa, hsu⟩, hAx, hKx⟩ := id hX
  obtain ⟨okT, ok, hw, okA, okS, okAu, okSu⟩ := id okx
  have okn := ok.1
  have okp := ok.2.1
  have okh := ok.2.2.1
  have okt := okT.1
  have hS : Same 175 196 F F := Same.rf
  have hb : 0 ≤ 50 := by decide
  have hwa3 := hw.2.1
  obtain ⟨nx, hnx, ha24, ha25, hac⟩ := id hAx
  have oka := okA.2.1
  have okf := okA.1
  refine enter (cc := cX9_take) (maxL := 3) (ret := some .int) (own := RX9) (by decide +kernel) rfl rfl (Nat.le_of_ble_eq_true rfl) ?_
  intro pp ee ss mm below meth cc B hini hC ls hl
  have hl : lv_has ls 3 [(0, .ref (ad (175))), (1, .int (p))] := hl
  refine lv_aload_n B.1 B.2.1 dX9_take_0 rfl (lv_at hl 0 rfl) ?_
  refine lv_iload_n B.1 B.2.1 dX9_take_1 rfl (lv_at hl 1 rfl) ?_
  refine r_calli B hC hl.1 (175) 9 rfl rfl (by decide) hM.1 (As := [.int (p)]) (ctX9_isPlace l g lo ad hM ok hR (x := p)) gX9_take_X9_isPlace rfl (n := 1) rfl (by decide +kernel) ⟨Nat.le_of_ble_eq_true rfl, Nat.le_of_ble_eq_true rfl⟩ ⟨Nat.zero_le _, Nat.zero_le _⟩ rfl (Nat.le_of_ble_eq_true rfl) dX9_take_2 (fun r2 F1 H locs hp2 hC => ?_)
  obtain ⟨er, eF⟩ := hp2
  subst er
  rw [eF] at hC
  refine lv_if_ne (tgt := 10) B.1 B.2.1 dX9_take_5 (by decide) (fun c_5 => ?_) (fun c_5 => ?_)
  · have q_5 := bI_t.mp c_5
    obtain ⟨j, hj, ej⟩ := isP_t ok q_5
    have hj31 : j < 2 ^ 31 := by omega
    refine lv_aload_n B.1 B.2.1 dX9_take_10 rfl (lv_at hl 0 rfl) ?_
    refine r_cg B hC (i := 175) (by decide) hM.1 (C := RX9) (T := TX9) (n := 35) rfl iwX9_take_X9 23 (by decide) (index := 123) flX9_take_123 rfl (v := .int (c 23)) rfl dX9_take_11 ?_
    refine r_tI (y := bI (su (xw x))) (hsu) ?_
    refine lv_if_ne (tgt := 26) B.1 B.2.1 dX9_take_14 (by decide) (fun c_14 => ?_) (fun c_14 => ?_)
    · have q_14 : (su (xw x)) = true := bI_t.mp c_14
      refine lv_bipush (v := (-3)) B.1 B.2.1 dX9_take_26 (by decide) ?_
      exact r_eI B hC (v := (-3)) (⟨by rw [takeA, if_pos q_5, if_pos q_14], by rw [takeN, if_neg (fun z => by rw [q_14] at z; cases z.2.1)]; exact ⟨_, _, _, hM, hX⟩, hS⟩) dX9_take_28
    · have q_14 : (su (xw x)) = false := bI_f.mp c_14
      refine lv_aload_n B.1 B.2.1 dX9_take_17 rfl (lv_at hl 0 rfl) ?_
      refine lv_iconst (v := nI 0) B.1 B.2.1 dX9_take_18 (by decide) ?_
      refine lv_iload_n B.1 B.2.1 dX9_take_19 rfl (lv_at hl 1 rfl) ?_
      refine r_tI (y := nI j) (ej) ?_
      refine r_calli B hC hl.1 (175) 9 rfl rfl (by decide) hM.1 (As := [.int (nI 0), .int (nI j)]) (ctX9_canTake l g lo ad hM ok hR (b := 0) hb hB hw (p := j) (by omega)) gX9_take_X9_canTake rfl (n := 2) rfl (by decide +kernel) ⟨Nat.le_of_ble_eq_true rfl, Nat.le_of_ble_eq_true rfl⟩ ⟨Nat.zero_le _, Nat.zero_le _⟩ rfl (Nat.le_of_ble_eq_true rfl) dX9_take_20 (fun r20 F1 H locs hp20 hC => ?_)
      obtain ⟨er, eF⟩ := hp20
      subst er
      rw [eF] at hC
      refine lv_if_ne (tgt := 29) B.1 B.2.1 dX9_take_23 (by decide) (fun c_23 => ?_) (fun c_23 => ?_)
      · have q_23 := bI_t.mp c_23
        obtain ⟨t, ht⟩ : ∃ t, ti (xw x) j = some t := by have z := q_23; unfold takeV at z; cases hh : ti (xw x) j with | none => rw [hh] at z; cases z | some t => exact ⟨t, rfl⟩
        have htn := hw.in_ ok (by omega) ht
        refine lv_aload_n B.1 B.2.1 dX9_take_29 rfl (lv_at hl 0 rfl) ?_
        refine r_callv B hC hl.1 (175) 9 rfl rfl (by decide) hM.1 (As := []) (ctX9_keepAct l g lo ad hM hX okx) gX9_take_X9_keepAct rfl (n := 0) rfl (by decide +kernel) ⟨Nat.le_of_ble_eq_true rfl, Nat.le_of_ble_eq_true rfl⟩ ⟨Nat.zero_le _, Nat.zero_le _⟩ rfl (Nat.le_of_ble_eq_true rfl) dX9_take_30 (fun F1 H locs hp30 hC => ?_)
        obtain ⟨c1, q1, hM_F1, hT_F1, hk, hact⟩ := hp30
        have hS_F1 : Same 175 196 F F1 := Same.tr2 hS hT_F1 (by decide) (by decide)
        have hR_F1 : HullR (xh x) c1 q1 := hR.cq hk (by decide) (by decide) (by decide) (by decide) (by decide) (by decide) (by decide)
        have hBk : BankR (xh x) q1 0 (xw x) := hB.cq hk (by decide) (by decide) (by decide)
        refine lv_aload_n B.1 B.2.1 dX9_take_33 rfl (lv_at hl 0 rfl) ?_
        refine lv_iconst (v := nI 0) B.1 B.2.1 dX9_take_34 (by decide) ?_
        refine lv_iload_n B.1 B.2.1 dX9_take_35 rfl (lv_at hl 1 rfl) ?_
        refine r_tI (y := nI j) (ej) ?_
        refine r_calli B hC hl.1 (175) 9 rfl rfl (by decide) hM_F1.1 (As := [.int (nI 0), .int (nI j)]) (ctX9_inside l g lo ad hM_F1 ok hR_F1 (b := 0) hb hBk hw (p := j) (by omega)) gX9_take_X9_inside rfl (n := 2) rfl (by decide +kernel) ⟨Nat.le_of_ble_eq_true rfl, Nat.le_of_ble_eq_true rfl⟩ ⟨Nat.zero_le _, Nat.zero_le _⟩ rfl (Nat.le_of_ble_eq_true rfl) dX9_take_36 (fun r36 F2 H locs hp36 hC => ?_)
        obtain ⟨er, eF⟩ := hp36
        subst er
        rw [eF] at hC
        refine r_tI (y := nI t) (by rw [ht]; rfl) ?_
        refine lv_istore_n (lv' := [(2, .int (nI t)), (0, .ref (ad (175))), (1, .int (p))]) B.1 B.2.1 dX9_take_39 rfl hl (by decide) rfl (fun ls hl => ?_)
        refine lv_aload_n B.1 B.2.1 dX9_take_40 rfl (lv_at hl 1 rfl) ?_
        refine r_cg B hC (i := 175) (by decide) hM_F1.1 (C := RX9) (T := TX9) (n := 35) rfl iwX9_take_X9 19 (by decide) (index := 40) flX9_take_40 rfl (v := .ref (ad (186))) rfl dX9_take_41 ?_
        refine lv_iload_n B.1 B.2.1 dX9_take_44 rfl (lv_at hl 0 rfl) ?_
        refine lv_bipush (v := nI 100) B.1 B.2.1 dX9_take_45 (by decide) ?_
        refine r_cast B hC (i := 186) (by decide) hM_F1.c186 (j := t) (by omega) (by decide) dX9_take_47 ?_
        intro H locs hC
        obtain ⟨F2, eF2⟩ : ∃ f : Nat → va_E, f = va_up F1 186 (.inl (g.2.2 0, 60, .inl (upd (q1 186) (t) (nI 100)))) := ⟨_, rfl⟩
        have hC : Cu g lo 196 ad F2 ss ss.heap H locs := by rw [eF2]; exact hC
        obtain ⟨q2, eq2⟩ : ∃ f, f = va_up q1 186 (upd (q1 186) (t) (nI 100)) := ⟨_, rfl⟩
        have hM_F2 : MC g ad F2 c1 q2 sm := by rw [eq2]; exact hM_F1.arr (by decide) (by decide) (by decide) (by decide) (by decide) eF2
        have hR_F2 : HullR (xh x) c1 q2 := by rw [eq2]; exact hR_F1.upq (by decide)
        have hS_F2 : Same 175 196 F F2 := by rw [eF2]; exact hS_F1.up (by decide) (by decide)
        refine lv_iload_n B.1 B.2.1 dX9_take_48 rfl (lv_at hl 0 rfl) ?_
        exact r_eI B hC (v := nI t) (⟨by rw [takeA, if_pos q_5, if_neg (by rw [q_14]; decide), ej, ix_n hj31, if_pos q_23, ht]; rfl, by rw [takeN, if_pos ⟨q_5, q_14, by rw [ej, ix_n hj31]; exact q_23⟩, ej, ix_n hj31, ht]; exact ⟨_, _, _, hM_F2, hX.act hk hact ((CQ.rf (A := [22, 23]) (B := [186, 187, 188])).uq eq2 (by decide)) ⟨by rw [eq2]; exact BankR.bring0 hBk, ((hk.1 22 (by decide)).trans hwa), ((hk.1 23 (by decide)).trans hsu)⟩⟩, hS_F2⟩) dX9_take_49
      · have q_23 := bI_f.mp c_23
        refine lv_bipush (v := (-3)) B.1 B.2.1 dX9_take_26 (by decide) ?_
        exact r_eI B hC (v := (-3)) (⟨by rw [takeA, if_pos q_5, if_neg (by rw [q_14]; decide), ej, ix_n hj31, if_neg (by rw [q_23]; decide)], by rw [takeN, if_neg (fun z => by rw [ej, ix_n hj31, q_23] at z; cases z.2.2)]; exact ⟨_, _, _, hM, hX⟩, hS⟩) dX9_take_28
  · have q_5 := bI_f.mp c_5
    refine lv_iconst (v := (-1)) B.1 B.2.1 dX9_take_8 (by decide) ?_
    exact r_eI B hC (v := (-1)) (⟨by rw [takeA, if_neg (by rw [q_5]; decide)], by rw [takeN, if_neg (fun z => by rw [q_5] at z; cases z.1)]; exact ⟨_, _, _, hM, hX⟩, hS⟩) dX9_take_9
theorem iwX9_put_X9 : ∀ w ∈ u_ws RX9 TX9 35, w ∈ wsX9_put := by decide +kernel
theorem flX9_put_25 : Cond.fieldLink RX9 25 RX9 (TX9 8).2.1 (TX9 8).2.2.1 ∈ wsX9_put := by decide +kernel
theorem flX9_put_40 : Cond.fieldLink RX9 40 RX9 (TX9 19).2.1 (TX9 19).2.2.1 ∈ wsX9_put := by decide +kernel
theorem flX9_put_43 : Cond.fieldLink RX9 43 RX9 (TX9 20).2.1 (TX9 20).2.2.1 ∈ wsX9_put := by decide +kernel
theorem flX9_put_123 : Cond.fieldLink RX9 123 RX9 (TX9 23).2.1 (TX9 23).2.2.1 ∈ wsX9_put := by decide +kernel
set_option maxHeartbeats 4000000 in
set_option maxRecDepth 100000 in
theorem ctX9_put (l : Launch) (g : Gx) (lo : Nat) (ad : Nat → Nat) {F : Nat → va_E} {c : Nat → Int32} {q : Nat → Nat → Int32} {sm : Nat → Int64} {x : XV} (hM : MC g ad F c q sm) (hX : XR x c q) (okx : XOK x) {t p : Int32} : MI l g lo 196 ad yX9_put wsX9_put 2 46 [.ref (ad (175)), .int (t), .int (p)] F (fun r F' => r = intoA putB x t p ∧ MX g ad F' (intoN putB x t p) ∧ Same 175 196 F F') := by
  obtain ⟨hTx, hR, ⟨hB, hwa, hsu⟩, hAx, hKx⟩ := id hX
  obtain ⟨okT, ok, hw, okA, okS, okAu, okSu⟩ := id okx
  have okn := ok.1
  have okp := ok.2.1
  have okh := ok.2.2.1
  have okt := okT.1
  have hS : Same 175 196 F F := Same.rf
  have hb : 0 ≤ 50 := by decide
  have hwa3 := hw.2.1
  obtain ⟨nx, hnx, ha24, ha25, hac⟩ := id hAx
  have oka := okA.2.1
  have okf := okA.1
  refine enter (cc := cX9_put) (maxL := 3) (ret := some .int) (own := RX9) (by decide +kernel) rfl rfl (Nat.le_of_ble_eq_true rfl) ?_
  intro pp ee ss mm below meth cc B hini hC ls hl
  have hl : lv_has ls 3 [(0, .ref (ad (175))), (1, .int (t)), (2, .int (p))] := hl
  refine lv_aload_n B.1 B.2.1 dX9_put_0 rfl (lv_at hl 0 rfl) ?_
  refine lv_iload_n B.1 B.2.1 dX9_put_1 rfl (lv_at hl 1 rfl) ?_
  refine r_calli B hC hl.1 (175) 9 rfl rfl (by decide) hM.1 (As := [.int (t)]) (ctX9_isPlace l g lo ad hM ok hR (x := t)) gX9_put_X9_isPlace rfl (n := 1) rfl (by decide +kernel) ⟨Nat.le_of_ble_eq_true rfl, Nat.le_of_ble_eq_true rfl⟩ ⟨Nat.zero_le _, Nat.zero_le _⟩ rfl (Nat.le_of_ble_eq_true rfl) dX9_put_2 (fun r2 F1 H locs hp2 hC => ?_)
  obtain ⟨er, eF⟩ := hp2
  subst er
  rw [eF] at hC
  refine lv_if_eq (tgt := 16) B.1 B.2.1 dX9_put_5 (by decide) (fun c_5 => ?_) (fun c_5 => ?_)
  · have q_5 : isP (xh x) t = false := bI_f.mp c_5
    refine lv_iconst (v := (-1)) B.1 B.2.1 dX9_put_16 (by decide) ?_
    exact r_eI B hC (v := (-1)) (⟨by rw [intoA, if_neg (fun z => by first | (rw [q_5] at z; exact absurd z.1 (by decide)) | (rw [q_13] at z; exact absurd z.2 (by decide)))], by rw [intoN, if_neg (fun z => by first | (rw [q_5] at z; exact absurd z.1.1 (by decide)) | (rw [q_13] at z; exact absurd z.1.2 (by decide)))]; exact ⟨_, _, _, hM, hX⟩, hS⟩) dX9_put_17
  · have q_5 : isP (xh x) t = true := bI_t.mp c_5
    refine lv_aload_n B.1 B.2.1 dX9_put_8 rfl (lv_at hl 0 rfl) ?_
    refine lv_iload_n B.1 B.2.1 dX9_put_9 rfl (lv_at hl 2 rfl) ?_
    refine r_calli B hC hl.1 (175) 9 rfl rfl (by decide) hM.1 (As := [.int (p)]) (ctX9_isPlace l g lo ad hM ok hR (x := p)) gX9_put_X9_isPlace rfl (n := 1) rfl (by decide +kernel) ⟨Nat.le_of_ble_eq_true rfl, Nat.le_of_ble_eq_true rfl⟩ ⟨Nat.zero_le _, Nat.zero_le _⟩ rfl (Nat.le_of_ble_eq_true rfl) dX9_put_10 (fun r10 F1 H locs hp10 hC => ?_)
    obtain ⟨er, eF⟩ := hp10
    subst er
    rw [eF] at hC
    refine lv_if_ne (tgt := 18) B.1 B.2.1 dX9_put_13 (by decide) (fun c_13 => ?_) (fun c_13 => ?_)
    · have q_13 : isP (xh x) p = true := bI_t.mp c_13
      obtain ⟨j, hj, ej⟩ := isP_t ok q_5
      obtain ⟨i, hi, ei⟩ := isP_t ok q_13
      have hj31 : j < 2 ^ 31 := by omega
      have hi31 : i < 2 ^ 31 := by omega
      refine lv_aload_n B.1 B.2.1 dX9_put_18 rfl (lv_at hl 0 rfl) ?_
      refine r_cg B hC (i := 175) (by decide) hM.1 (C := RX9) (T := TX9) (n := 35) rfl iwX9_put_X9 23 (by decide) (index := 123) flX9_put_123 rfl (v := .int (c 23)) rfl dX9_put_19 ?_
      refine r_tI (y := bI (su (xw x))) (hsu) ?_
      refine lv_if_ne (tgt := 35) B.1 B.2.1 dX9_put_22 (by decide) (fun c_22 => ?_) (fun c_22 => ?_)
      · have q_22 : (su (xw x)) = true := bI_t.mp c_22
        refine lv_bipush (v := (-3)) B.1 B.2.1 dX9_put_35 (by decide) ?_
        exact r_eI B hC (v := (-3)) (⟨by rw [intoA, if_pos ⟨q_5, q_13⟩, ej, ei, ix_n hj31, ix_n hi31, if_neg (by rw [show putB x j i = false from (by rw [putB, q_22]; rfl)]; decide)], by rw [intoN, if_neg (fun z => by rw [ej, ei, ix_n hj31, ix_n hi31, show putB x j i = false from (by rw [putB, q_22]; rfl)] at z; cases z.2)]; exact ⟨_, _, _, hM, hX⟩, hS⟩) dX9_put_37
      · have q_22 : (su (xw x)) = false := bI_f.mp c_22
        refine lv_aload_n B.1 B.2.1 dX9_put_25 rfl (lv_at hl 0 rfl) ?_
        refine lv_iconst (v := nI 0) B.1 B.2.1 dX9_put_26 (by decide) ?_
        refine lv_iload_n B.1 B.2.1 dX9_put_27 rfl (lv_at hl 1 rfl) ?_
        refine r_tI (y := nI j) (ej) ?_
        refine lv_iload_n B.1 B.2.1 dX9_put_28 rfl (lv_at hl 2 rfl) ?_
        refine r_tI (y := nI i) (ei) ?_
        refine r_calli B hC hl.1 (175) 9 rfl rfl (by decide) hM.1 (As := [.int (nI 0), .int (nI j), .int (nI i)]) (ctX9_canPut l g lo ad hM ok hR (b := 0) hb hB hw (t := j) (p := i) hj hi) gX9_put_X9_canPut rfl (n := 3) rfl (by decide +kernel) ⟨Nat.le_of_ble_eq_true rfl, Nat.le_of_ble_eq_true rfl⟩ ⟨Nat.zero_le _, Nat.zero_le _⟩ rfl (Nat.le_of_ble_eq_true rfl) dX9_put_29 (fun r29 F1 H locs hp29 hC => ?_)
        obtain ⟨er, eF⟩ := hp29
        subst er
        rw [eF] at hC
        refine lv_if_ne (tgt := 38) B.1 B.2.1 dX9_put_32 (by decide) (fun c_32 => ?_) (fun c_32 => ?_)
        · have q_32 := bI_t.mp c_32
          refine lv_aload_n B.1 B.2.1 dX9_put_38 rfl (lv_at hl 0 rfl) ?_
          refine r_callv B hC hl.1 (175) 9 rfl rfl (by decide) hM.1 (As := []) (ctX9_keepAct l g lo ad hM hX okx) gX9_put_X9_keepAct rfl (n := 0) rfl (by decide +kernel) ⟨Nat.le_of_ble_eq_true rfl, Nat.le_of_ble_eq_true rfl⟩ ⟨Nat.zero_le _, Nat.zero_le _⟩ rfl (Nat.le_of_ble_eq_true rfl) dX9_put_39 (fun F1 H locs hp39 hC => ?_)
          obtain ⟨c1, q1, hM_F1, hT_F1, hk, hact⟩ := hp39
          have hS_F1 : Same 175 196 F F1 := Same.tr2 hS hT_F1 (by decide) (by decide)
          have hR_F1 : HullR (xh x) c1 q1 := hR.cq hk (by decide) (by decide) (by decide) (by decide) (by decide) (by decide) (by decide)
          have hBk : BankR (xh x) q1 0 (xw x) := hB.cq hk (by decide) (by decide) (by decide)
          refine lv_aload_n B.1 B.2.1 dX9_put_42 rfl (lv_at hl 0 rfl) ?_
          refine r_cg B hC (i := 175) (by decide) hM_F1.1 (C := RX9) (T := TX9) (n := 35) rfl iwX9_put_X9 19 (by decide) (index := 40) flX9_put_40 rfl (v := .ref (ad (186))) rfl dX9_put_43 ?_
          refine lv_iload_n B.1 B.2.1 dX9_put_46 rfl (lv_at hl 1 rfl) ?_
          refine r_tI (y := nI j) (ej) ?_
          refine lv_iload_n B.1 B.2.1 dX9_put_47 rfl (lv_at hl 2 rfl) ?_
          refine r_tI (y := nI i) (ei) ?_
          refine r_cast B hC (i := 186) (by decide) hM_F1.c186 (j := j) (by omega) (by decide) dX9_put_48 ?_
          intro H locs hC
          obtain ⟨F2, eF2⟩ : ∃ f : Nat → va_E, f = va_up F1 186 (.inl (g.2.2 0, 60, .inl (upd (q1 186) (j) (nI i)))) := ⟨_, rfl⟩
          have hC : Cu g lo 196 ad F2 ss ss.heap H locs := by rw [eF2]; exact hC
          obtain ⟨q2, eq2⟩ : ∃ f, f = va_up q1 186 (upd (q1 186) (j) (nI i)) := ⟨_, rfl⟩
          have hM_F2 : MC g ad F2 c1 q2 sm := by rw [eq2]; exact hM_F1.arr (by decide) (by decide) (by decide) (by decide) (by decide) eF2
          have hR_F2 : HullR (xh x) c1 q2 := by rw [eq2]; exact hR_F1.upq (by decide)
          have hS_F2 : Same 175 196 F F2 := by rw [eF2]; exact hS_F1.up (by decide) (by decide)
          refine lv_aload_n B.1 B.2.1 dX9_put_49 rfl (lv_at hl 0 rfl) ?_
          refine r_cg B hC (i := 175) (by decide) hM_F2.1 (C := RX9) (T := TX9) (n := 35) rfl iwX9_put_X9 20 (by decide) (index := 43) flX9_put_43 rfl (v := .ref (ad (187))) rfl dX9_put_50 ?_
          refine lv_iload_n B.1 B.2.1 dX9_put_53 rfl (lv_at hl 1 rfl) ?_
          refine r_tI (y := nI j) (ej) ?_
          refine lv_aload_n B.1 B.2.1 dX9_put_54 rfl (lv_at hl 0 rfl) ?_
          refine r_cg B hC (i := 175) (by decide) hM_F2.1 (C := RX9) (T := TX9) (n := 35) rfl iwX9_put_X9 8 (by decide) (index := 25) flX9_put_25 rfl (v := .ref (ad (181))) rfl dX9_put_55 ?_
          refine lv_iload_n B.1 B.2.1 dX9_put_58 rfl (lv_at hl 2 rfl) ?_
          refine r_tI (y := nI i) (ei) ?_
          refine r_cald B hC (i := 181) (by decide) hM_F2.c181 (j := i) (by omega) (by decide) dX9_put_59 ?_
          refine r_tI (y := q2 181 i) rfl ?_
          refine r_tI (y := nI (hle (xh x) i)) ((hR_F2.2.2.2 i hi).1) ?_
          refine r_cast B hC (i := 187) (by decide) hM_F2.c187 (j := j) (by omega) (by decide) dX9_put_60 ?_
          intro H locs hC
          obtain ⟨F3, eF3⟩ : ∃ f : Nat → va_E, f = va_up F2 187 (.inl (g.2.2 0, 60, .inl (upd (q2 187) (j) (nI (hle (xh x) i))))) := ⟨_, rfl⟩
          have hC : Cu g lo 196 ad F3 ss ss.heap H locs := by rw [eF3]; exact hC
          obtain ⟨q3, eq3⟩ : ∃ f, f = va_up q2 187 (upd (q2 187) (j) (nI (hle (xh x) i))) := ⟨_, rfl⟩
          have hM_F3 : MC g ad F3 c1 q3 sm := by rw [eq3]; exact hM_F2.arr (by decide) (by decide) (by decide) (by decide) (by decide) eF3
          have hR_F3 : HullR (xh x) c1 q3 := by rw [eq3]; exact hR_F2.upq (by decide)
          have hS_F3 : Same 175 196 F F3 := by rw [eF3]; exact hS_F2.up (by decide) (by decide)
          refine lv_aload_n B.1 B.2.1 dX9_put_61 rfl (lv_at hl 0 rfl) ?_
          refine r_cg B hC (i := 175) (by decide) hM_F3.1 (C := RX9) (T := TX9) (n := 35) rfl iwX9_put_X9 20 (by decide) (index := 43) flX9_put_43 rfl (v := .ref (ad (187))) rfl dX9_put_62 ?_
          refine lv_iload_n B.1 B.2.1 dX9_put_65 rfl (lv_at hl 1 rfl) ?_
          refine r_tI (y := nI j) (ej) ?_
          refine r_cald B hC (i := 187) (by decide) hM_F3.c187 (j := j) (by omega) (by decide) dX9_put_66 ?_
          refine r_tI (y := q3 187 j) rfl ?_
          refine r_tI (y := nI (hle (xh x) i)) (by rw [eq3, fn_up, if_pos rfl]) ?_
          exact r_eI B hC (v := nI (hle (xh x) i)) (⟨by rw [intoA, if_pos ⟨q_5, q_13⟩, ej, ei, ix_n hj31, ix_n hi31, if_pos (show putB x j i = true from by rw [putB, q_22, q_32]; rfl)], by rw [intoN, if_pos ⟨⟨q_5, q_13⟩, by rw [ej, ei, ix_n hj31, ix_n hi31]; exact (show putB x j i = true from by rw [putB, q_22, q_32]; rfl)⟩, ej, ei, ix_n hj31, ix_n hi31]; exact ⟨_, _, _, hM_F3, hX.act hk hact (((CQ.rf (A := [22, 23]) (B := [186, 187, 188])).uq eq2 (by decide)).uq eq3 (by decide)) ⟨by rw [eq3]; exact BankR.cut0 (by rw [eq2]; exact BankR.bring0 hBk), ((hk.1 22 (by decide)).trans hwa), ((hk.1 23 (by decide)).trans hsu)⟩⟩, hS_F3⟩) dX9_put_67
        · have q_32 := bI_f.mp c_32
          refine lv_bipush (v := (-3)) B.1 B.2.1 dX9_put_35 (by decide) ?_
          exact r_eI B hC (v := (-3)) (⟨by rw [intoA, if_pos ⟨q_5, q_13⟩, ej, ei, ix_n hj31, ix_n hi31, if_neg (by rw [show putB x j i = false from (by rw [putB, q_32]; simp)]; decide)], by rw [intoN, if_neg (fun z => by rw [ej, ei, ix_n hj31, ix_n hi31, show putB x j i = false from (by rw [putB, q_32]; simp)] at z; cases z.2)]; exact ⟨_, _, _, hM, hX⟩, hS⟩) dX9_put_37
    · have q_13 : isP (xh x) p = false := bI_f.mp c_13
      refine lv_iconst (v := (-1)) B.1 B.2.1 dX9_put_16 (by decide) ?_
      exact r_eI B hC (v := (-1)) (⟨by rw [intoA, if_neg (fun z => by first | (rw [q_5] at z; exact absurd z.1 (by decide)) | (rw [q_13] at z; exact absurd z.2 (by decide)))], by rw [intoN, if_neg (fun z => by first | (rw [q_5] at z; exact absurd z.1.1 (by decide)) | (rw [q_13] at z; exact absurd z.1.2 (by decide)))]; exact ⟨_, _, _, hM, hX⟩, hS⟩) dX9_put_17
theorem iwX9_move_X9 : ∀ w ∈ u_ws RX9 TX9 35, w ∈ wsX9_move := by decide +kernel
theorem flX9_move_43 : Cond.fieldLink RX9 43 RX9 (TX9 20).2.1 (TX9 20).2.2.1 ∈ wsX9_move := by decide +kernel
theorem flX9_move_123 : Cond.fieldLink RX9 123 RX9 (TX9 23).2.1 (TX9 23).2.2.1 ∈ wsX9_move := by decide +kernel
set_option maxHeartbeats 4000000 in
set_option maxRecDepth 100000 in
theorem ctX9_move (l : Launch) (g : Gx) (lo : Nat) (ad : Nat → Nat) {F : Nat → va_E} {c : Nat → Int32} {q : Nat → Nat → Int32} {sm : Nat → Int64} {x : XV} (hM : MC g ad F c q sm) (hX : XR x c q) (okx : XOK x) {t p : Int32} : MI l g lo 196 ad yX9_move wsX9_move 4 93 [.ref (ad (175)), .int (t), .int (p)] F (fun r F' => r = intoA moveB x t p ∧ MX g ad F' (intoN moveB x t p) ∧ Same 175 196 F F') := by
  obtain ⟨hTx, hR, ⟨hB, hwa, hsu⟩, hAx, hKx⟩ := id hX
  obtain ⟨okT, ok, hw, okA, okS, okAu, okSu⟩ := id okx
  have okn := ok.1
  have okp := ok.2.1
  have okh := ok.2.2.1
  have okt := okT.1
  have hS : Same 175 196 F F := Same.rf
  have hb : 0 ≤ 50 := by decide
  have hwa3 := hw.2.1
  obtain ⟨nx, hnx, ha24, ha25, hac⟩ := id hAx
  have oka := okA.2.1
  have okf := okA.1
  refine enter (cc := cX9_move) (maxL := 3) (ret := some .int) (own := RX9) (by decide +kernel) rfl rfl (Nat.le_of_ble_eq_true rfl) ?_
  intro pp ee ss mm below meth cc B hini hC ls hl
  have hl : lv_has ls 3 [(0, .ref (ad (175))), (1, .int (t)), (2, .int (p))] := hl
  refine lv_aload_n B.1 B.2.1 dX9_move_0 rfl (lv_at hl 0 rfl) ?_
  refine lv_iload_n B.1 B.2.1 dX9_move_1 rfl (lv_at hl 1 rfl) ?_
  refine r_calli B hC hl.1 (175) 9 rfl rfl (by decide) hM.1 (As := [.int (t)]) (ctX9_isPlace l g lo ad hM ok hR (x := t)) gX9_move_X9_isPlace rfl (n := 1) rfl (by decide +kernel) ⟨Nat.le_of_ble_eq_true rfl, Nat.le_of_ble_eq_true rfl⟩ ⟨Nat.zero_le _, Nat.zero_le _⟩ rfl (Nat.le_of_ble_eq_true rfl) dX9_move_2 (fun r2 F1 H locs hp2 hC => ?_)
  obtain ⟨er, eF⟩ := hp2
  subst er
  rw [eF] at hC
  refine lv_if_eq (tgt := 16) B.1 B.2.1 dX9_move_5 (by decide) (fun c_5 => ?_) (fun c_5 => ?_)
  · have q_5 : isP (xh x) t = false := bI_f.mp c_5
    refine lv_iconst (v := (-1)) B.1 B.2.1 dX9_move_16 (by decide) ?_
    exact r_eI B hC (v := (-1)) (⟨by rw [intoA, if_neg (fun z => by first | (rw [q_5] at z; exact absurd z.1 (by decide)) | (rw [q_13] at z; exact absurd z.2 (by decide)))], by rw [intoN, if_neg (fun z => by first | (rw [q_5] at z; exact absurd z.1.1 (by decide)) | (rw [q_13] at z; exact absurd z.1.2 (by decide)))]; exact ⟨_, _, _, hM, hX⟩, hS⟩) dX9_move_17
  · have q_5 : isP (xh x) t = true := bI_t.mp c_5
    refine lv_aload_n B.1 B.2.1 dX9_move_8 rfl (lv_at hl 0 rfl) ?_
    refine lv_iload_n B.1 B.2.1 dX9_move_9 rfl (lv_at hl 2 rfl) ?_
    refine r_calli B hC hl.1 (175) 9 rfl rfl (by decide) hM.1 (As := [.int (p)]) (ctX9_isPlace l g lo ad hM ok hR (x := p)) gX9_move_X9_isPlace rfl (n := 1) rfl (by decide +kernel) ⟨Nat.le_of_ble_eq_true rfl, Nat.le_of_ble_eq_true rfl⟩ ⟨Nat.zero_le _, Nat.zero_le _⟩ rfl (Nat.le_of_ble_eq_true rfl) dX9_move_10 (fun r10 F1 H locs hp10 hC => ?_)
    obtain ⟨er, eF⟩ := hp10
    subst er
    rw [eF] at hC
    refine lv_if_ne (tgt := 18) B.1 B.2.1 dX9_move_13 (by decide) (fun c_13 => ?_) (fun c_13 => ?_)
    · have q_13 : isP (xh x) p = true := bI_t.mp c_13
      obtain ⟨j, hj, ej⟩ := isP_t ok q_5
      obtain ⟨i, hi, ei⟩ := isP_t ok q_13
      have hj31 : j < 2 ^ 31 := by omega
      have hi31 : i < 2 ^ 31 := by omega
      refine lv_aload_n B.1 B.2.1 dX9_move_18 rfl (lv_at hl 0 rfl) ?_
      refine lv_iconst (v := nI 0) B.1 B.2.1 dX9_move_19 (by decide) ?_
      refine lv_bipush (v := nI 10) B.1 B.2.1 dX9_move_20 (by decide) ?_
      refine r_callv B hC hl.1 (175) 9 rfl rfl (by decide) hM.1 (As := [.int (nI 0), .int (nI 10)]) (ctX9_copy l g lo ad hM (a := 0) (b := 10) (by decide) (by decide) (Or.inl (by decide))) gX9_move_X9_copy rfl (n := 2) rfl (by decide +kernel) ⟨Nat.le_of_ble_eq_true rfl, Nat.le_of_ble_eq_true rfl⟩ ⟨Nat.zero_le _, Nat.zero_le _⟩ rfl (Nat.le_of_ble_eq_true rfl) dX9_move_22 (fun F1 H locs hp22 hC => ?_)
      obtain ⟨q1, hM_F1, hT_F1, hq22⟩ := hp22
      have hS_F1 : Same 175 196 F F1 := Same.tr2 hS hT_F1 (by decide) (by decide)
      refine lv_aload_n B.1 B.2.1 dX9_move_25 rfl (lv_at hl 0 rfl) ?_
      refine r_cg B hC (i := 175) (by decide) hM_F1.1 (C := RX9) (T := TX9) (n := 35) rfl iwX9_move_X9 23 (by decide) (index := 123) flX9_move_123 rfl (v := .int (c 23)) rfl dX9_move_26 ?_
      refine r_tI (y := bI (su (xw x))) (hsu) ?_
      refine lv_if_ne (tgt := 43) B.1 B.2.1 dX9_move_29 (by decide) (fun c_29 => ?_) (fun c_29 => ?_)
      · have q_29 : (su (xw x)) = true := bI_t.mp c_29
        refine lv_bipush (v := (-3)) B.1 B.2.1 dX9_move_43 (by decide) ?_
        exact r_eI B hC (v := (-3)) (⟨by rw [intoA, if_pos ⟨q_5, q_13⟩, ej, ei, ix_n hj31, ix_n hi31, if_neg (by rw [show moveB x j i = false from (by rw [moveB, q_29]; rfl)]; decide)], by rw [intoN, if_neg (fun z => by rw [ej, ei, ix_n hj31, ix_n hi31, show moveB x j i = false from (by rw [moveB, q_29]; rfl)] at z; cases z.2)]; exact ⟨_, _, _, hM_F1, hX.scr (Scr.rf.qs hq22.1 (by decide)) okn⟩, hS_F1⟩) dX9_move_45
      · have q_29 : (su (xw x)) = false := bI_f.mp c_29
        refine lv_aload_n B.1 B.2.1 dX9_move_32 rfl (lv_at hl 0 rfl) ?_
        refine lv_bipush (v := nI 10) B.1 B.2.1 dX9_move_33 (by decide) ?_
        refine lv_iload_n B.1 B.2.1 dX9_move_35 rfl (lv_at hl 1 rfl) ?_
        refine r_tI (y := nI j) (ej) ?_
        refine lv_iload_n B.1 B.2.1 dX9_move_36 rfl (lv_at hl 2 rfl) ?_
        refine r_tI (y := nI i) (ei) ?_
        refine r_calli B hC hl.1 (175) 9 rfl rfl (by decide) hM_F1.1 (As := [.int (nI 10), .int (nI j), .int (nI i)]) (ctX9_goes l g lo ad hM_F1 ok (hR.qs (hq22.1)) (b := 10) (by decide) (hq22.bank okn hB) hw (t := j) (p := i) hj hi) gX9_move_X9_goes rfl (n := 3) rfl (by decide +kernel) ⟨Nat.le_of_ble_eq_true rfl, Nat.le_of_ble_eq_true rfl⟩ ⟨Nat.zero_le _, Nat.zero_le _⟩ rfl (Nat.le_of_ble_eq_true rfl) dX9_move_37 (fun r37 F2 H locs hp37 hC => ?_)
        obtain ⟨q2, hM_F2, hT_F2, hq37, hr37, hbk37⟩ := hp37
        have hS_F2 : Same 175 196 F F2 := Same.tr2 hS_F1 hT_F2 (by decide) (by decide)
        refine r_tI (y := bI (mayV (xh x) (xw x) j i)) (hr37) ?_
        refine lv_if_ne (tgt := 46) B.1 B.2.1 dX9_move_40 (by decide) (fun c_40 => ?_) (fun c_40 => ?_)
        · have q_40 := bI_t.mp c_40
          refine lv_aload_n B.1 B.2.1 dX9_move_46 rfl (lv_at hl 0 rfl) ?_
          have hsc : Scr c c q q2 := (Scr.rf.qs hq22.1 (by decide)).qs hq37 (by decide)
          have hX2 : XR x c q2 := hX.scr hsc okn
          have hB2 : BankR (xh x) q2 0 (xw x) := hB.scr hsc okn
          have hb10 : BankR (xh x) q2 10 (cutV' (xh x) (xw x) j i) := by have z := hbk37; rw [q_40, if_pos rfl] at z; exact z
          refine r_callv B hC hl.1 (175) 9 rfl rfl (by decide) hM_F2.1 (As := []) (ctX9_keepAct l g lo ad hM_F2 hX2 okx) gX9_move_X9_keepAct rfl (n := 0) rfl (by decide +kernel) ⟨Nat.le_of_ble_eq_true rfl, Nat.le_of_ble_eq_true rfl⟩ ⟨Nat.zero_le _, Nat.zero_le _⟩ rfl (Nat.le_of_ble_eq_true rfl) dX9_move_47 (fun F3 H locs hp47 hC => ?_)
          obtain ⟨c3, q3, hM_F3, hT_F3, hk, hact⟩ := hp47
          have hS_F3 : Same 175 196 F F3 := Same.tr2 hS_F2 hT_F3 (by decide) (by decide)
          have hR_F3 : HullR (xh x) c3 q3 := (hR.scr hsc).cq hk (by decide) (by decide) (by decide) (by decide) (by decide) (by decide) (by decide)
          have hBk : BankR (xh x) q3 0 (xw x) := hB2.cq hk (by decide) (by decide) (by decide)
          have hb10k : BankR (xh x) q3 10 (cutV' (xh x) (xw x) j i) := hb10.cq hk (by decide) (by decide) (by decide)
          refine lv_aload_n B.1 B.2.1 dX9_move_50 rfl (lv_at hl 0 rfl) ?_
          refine lv_bipush (v := nI 10) B.1 B.2.1 dX9_move_51 (by decide) ?_
          refine lv_iconst (v := nI 0) B.1 B.2.1 dX9_move_53 (by decide) ?_
          refine r_callv B hC hl.1 (175) 9 rfl rfl (by decide) hM_F3.1 (As := [.int (nI 10), .int (nI 0)]) (ctX9_copy l g lo ad hM_F3 (a := 10) (b := 0) (by decide) (by decide) (Or.inr (by decide))) gX9_move_X9_copy rfl (n := 2) rfl (by decide +kernel) ⟨Nat.le_of_ble_eq_true rfl, Nat.le_of_ble_eq_true rfl⟩ ⟨Nat.zero_le _, Nat.zero_le _⟩ rfl (Nat.le_of_ble_eq_true rfl) dX9_move_54 (fun F4 H locs hp54 hC => ?_)
          obtain ⟨q4, hM_F4, hT_F4, hq54⟩ := hp54
          have hS_F4 : Same 175 196 F F4 := Same.tr2 hS_F3 hT_F4 (by decide) (by decide)
          refine lv_aload_n B.1 B.2.1 dX9_move_57 rfl (lv_at hl 0 rfl) ?_
          refine r_cg B hC (i := 175) (by decide) hM_F4.1 (C := RX9) (T := TX9) (n := 35) rfl iwX9_move_X9 20 (by decide) (index := 43) flX9_move_43 rfl (v := .ref (ad (187))) rfl dX9_move_58 ?_
          refine lv_iload_n B.1 B.2.1 dX9_move_61 rfl (lv_at hl 1 rfl) ?_
          refine r_tI (y := nI j) (ej) ?_
          refine r_cald B hC (i := 187) (by decide) hM_F4.c187 (j := j) (by omega) (by decide) dX9_move_62 ?_
          refine r_tI (y := q4 187 j) rfl ?_
          refine r_tI (y := nI (hle (xh x) i)) (by rw [(BankR.z (hq54.bank okn hb10k) hj).2.1]; show nI (va_up (ln (bringV (xw x) j i)) j (hle (xh x) i) j) = _; rw [va_up_self]) ?_
          exact r_eI B hC (v := nI (hle (xh x) i)) (⟨by rw [intoA, if_pos ⟨q_5, q_13⟩, ej, ei, ix_n hj31, ix_n hi31, if_pos (show moveB x j i = true from by rw [moveB, q_29, q_40]; rfl)], by rw [intoN, if_pos ⟨⟨q_5, q_13⟩, by rw [ej, ei, ix_n hj31, ix_n hi31]; exact (show moveB x j i = true from by rw [moveB, q_29, q_40]; rfl)⟩, ej, ei, ix_n hj31, ix_n hi31]; exact ⟨_, _, _, hM_F4, hX2.act hk hact (CQ.rf.us hq54.1 (by decide) (by decide) (by decide)) ⟨hq54.bank okn hb10k, ((hk.1 22 (by decide)).trans hwa), ((hk.1 23 (by decide)).trans hsu)⟩⟩, hS_F4⟩) dX9_move_63
        · have q_40 := bI_f.mp c_40
          refine lv_bipush (v := (-3)) B.1 B.2.1 dX9_move_43 (by decide) ?_
          exact r_eI B hC (v := (-3)) (⟨by rw [intoA, if_pos ⟨q_5, q_13⟩, ej, ei, ix_n hj31, ix_n hi31, if_neg (by rw [show moveB x j i = false from (by rw [moveB, q_40]; simp)]; decide)], by rw [intoN, if_neg (fun z => by rw [ej, ei, ix_n hj31, ix_n hi31, show moveB x j i = false from (by rw [moveB, q_40]; simp)] at z; cases z.2)]; exact ⟨_, _, _, hM_F2, hX.scr ((Scr.rf.qs hq22.1 (by decide)).qs hq37 (by decide)) okn⟩, hS_F2⟩) dX9_move_45
    · have q_13 : isP (xh x) p = false := bI_f.mp c_13
      refine lv_iconst (v := (-1)) B.1 B.2.1 dX9_move_16 (by decide) ?_
      exact r_eI B hC (v := (-1)) (⟨by rw [intoA, if_neg (fun z => by first | (rw [q_5] at z; exact absurd z.1 (by decide)) | (rw [q_13] at z; exact absurd z.2 (by decide)))], by rw [intoN, if_neg (fun z => by first | (rw [q_5] at z; exact absurd z.1.1 (by decide)) | (rw [q_13] at z; exact absurd z.1.2 (by decide)))]; exact ⟨_, _, _, hM, hX⟩, hS⟩) dX9_move_17
theorem iwX9_watch_X9 : ∀ w ∈ u_ws RX9 TX9 35, w ∈ wsX9_watch := by decide +kernel
theorem flX9_watch_72 : Cond.fieldLink RX9 72 RX9 (TX9 14).2.1 (TX9 14).2.2.1 ∈ wsX9_watch := by decide +kernel
theorem flX9_watch_117 : Cond.fieldLink RX9 117 RX9 (TX9 13).2.1 (TX9 13).2.2.1 ∈ wsX9_watch := by decide +kernel
theorem flX9_watch_120 : Cond.fieldLink RX9 120 RX9 (TX9 22).2.1 (TX9 22).2.2.1 ∈ wsX9_watch := by decide +kernel
theorem flX9_watch_123 : Cond.fieldLink RX9 123 RX9 (TX9 23).2.1 (TX9 23).2.2.1 ∈ wsX9_watch := by decide +kernel
set_option maxHeartbeats 4000000 in
set_option maxRecDepth 100000 in
theorem ctX9_watch (l : Launch) (g : Gx) (lo : Nat) (ad : Nat → Nat) {F : Nat → va_E} {c : Nat → Int32} {q : Nat → Nat → Int32} {sm : Nat → Int64} {x : XV} (hM : MC g ad F c q sm) (hX : XR x c q) (okx : XOK x) : MI l g lo 196 ad yX9_watch wsX9_watch 3 70 [.ref (ad (175))] F (fun r F' => r = watchA x ∧ MX g ad F' (watchN x) ∧ Same 175 196 F F') := by
  obtain ⟨hTx, hR, ⟨hB, hwa, hsu⟩, hAx, hKx⟩ := id hX
  obtain ⟨okT, ok, hw, okA, okS, okAu, okSu⟩ := id okx
  have okn := ok.1
  have okp := ok.2.1
  have okh := ok.2.2.1
  have okt := okT.1
  have hS : Same 175 196 F F := Same.rf
  have hb : 0 ≤ 50 := by decide
  have hwa3 := hw.2.1
  obtain ⟨nx, hnx, ha24, ha25, hac⟩ := id hAx
  have oka := okA.2.1
  have okf := okA.1
  refine enter (cc := cX9_watch) (maxL := 1) (ret := some .int) (own := RX9) (by decide +kernel) rfl rfl (Nat.le_of_ble_eq_true rfl) ?_
  intro pp ee ss mm below meth cc B hini hC ls hl
  have hl : lv_has ls 1 [(0, .ref (ad (175)))] := hl
  refine lv_aload_n B.1 B.2.1 dX9_watch_0 rfl (lv_at hl 0 rfl) ?_
  refine r_cg B hC (i := 175) (by decide) hM.1 (C := RX9) (T := TX9) (n := 35) rfl iwX9_watch_X9 23 (by decide) (index := 123) flX9_watch_123 rfl (v := .int (c 23)) rfl dX9_watch_1 ?_
  refine r_tI (y := bI (su (xw x))) (hsu) ?_
  refine lv_if_eq (tgt := 10) B.1 B.2.1 dX9_watch_4 (by decide) (fun c_4 => ?_) (fun c_4 => ?_)
  · have q_4 : (su (xw x)) = false := bI_f.mp c_4
    have hl90 := leakV_le (w := xw x) ok
    have hW3 := waterN_le ok hw q_4
    have hWn : waterN (xh x) (xw x) = wa (xw x) + leakV (xh x) (xw x) - hpu (xh x) := rfl
    refine lv_aload_n B.1 B.2.1 dX9_watch_10 rfl (lv_at hl 0 rfl) ?_
    refine r_callv B hC hl.1 (175) 9 rfl rfl (by decide) hM.1 (As := []) (ctX9_keepAct l g lo ad hM hX okx) gX9_watch_X9_keepAct rfl (n := 0) rfl (by decide +kernel) ⟨Nat.le_of_ble_eq_true rfl, Nat.le_of_ble_eq_true rfl⟩ ⟨Nat.zero_le _, Nat.zero_le _⟩ rfl (Nat.le_of_ble_eq_true rfl) dX9_watch_11 (fun F1 H locs hp11 hC => ?_)
    obtain ⟨c1, q1, hM_F1, hT_F1, hk, hact⟩ := hp11
    have hS_F1 : Same 175 196 F F1 := Same.tr2 hS hT_F1 (by decide) (by decide)
    have hR_F1 : HullR (xh x) c1 q1 := hR.cq hk (by decide) (by decide) (by decide) (by decide) (by decide) (by decide) (by decide)
    have hBk : BankR (xh x) q1 0 (xw x) := hB.cq hk (by decide) (by decide) (by decide)
    refine lv_aload_n B.1 B.2.1 dX9_watch_14 rfl (lv_at hl 0 rfl) ?_
    refine lv_dup B.1 B.2.1 dX9_watch_15 rfl ?_
    refine r_cg B hC (i := 175) (by decide) hM_F1.1 (C := RX9) (T := TX9) (n := 35) rfl iwX9_watch_X9 22 (by decide) (index := 120) flX9_watch_120 rfl (v := .int (c1 22)) rfl dX9_watch_16 ?_
    refine r_tI (y := nI (wa (xw x))) (((hk.1 22 (by decide)).trans hwa)) ?_
    refine lv_aload_n B.1 B.2.1 dX9_watch_19 rfl (lv_at hl 0 rfl) ?_
    refine lv_iconst (v := nI 0) B.1 B.2.1 dX9_watch_20 (by decide) ?_
    refine r_calli B hC hl.1 (175) 9 rfl rfl (by decide) hM_F1.1 (As := [.int (nI 0)]) (ctX9_leakOf l g lo ad hM_F1 ok hR_F1 (b := 0) hb hBk hw) gX9_watch_X9_leakOf rfl (n := 1) rfl (by decide +kernel) ⟨Nat.le_of_ble_eq_true rfl, Nat.le_of_ble_eq_true rfl⟩ ⟨Nat.zero_le _, Nat.zero_le _⟩ rfl (Nat.le_of_ble_eq_true rfl) dX9_watch_21 (fun r21 F2 H locs hp21 hC => ?_)
    obtain ⟨er, eF⟩ := hp21
    subst er
    rw [eF] at hC
    refine lv_aload_n B.1 B.2.1 dX9_watch_24 rfl (lv_at hl 0 rfl) ?_
    refine r_cg B hC (i := 175) (by decide) hM_F1.1 (C := RX9) (T := TX9) (n := 35) rfl iwX9_watch_X9 13 (by decide) (index := 117) flX9_watch_117 rfl (v := .int (c1 13)) rfl dX9_watch_25 ?_
    refine r_tI (y := nI (hpu (xh x))) (hR_F1.2.1) ?_
    refine lv_isub B.1 B.2.1 dX9_watch_28 ?_
    refine r_tI (y := (nI (leakV (xh x) (xw x))) - (nI (hpu (xh x)))) (rfl) ?_
    refine lv_iadd B.1 B.2.1 dX9_watch_29 ?_
    refine r_tI (y := nI (wa (xw x) + leakV (xh x) (xw x)) - nI (hpu (xh x))) (wat_i) ?_
    obtain ⟨c2, ec2⟩ : ∃ f, f = va_up c1 22 (nI (wa (xw x) + leakV (xh x) (xw x)) - nI (hpu (xh x))) := ⟨_, rfl⟩
    refine r_cp B hC (i := 175) (by decide) hM_F1.1 tyX9 tyX9_ok nmX9 (C := RX9) (T := TX9) rfl iwX9_watch_X9 22 (by decide) (index := 120) flX9_watch_120 rfl rfl (v := .int (nI (wa (xw x) + leakV (xh x) (xw x)) - nI (hpu (xh x)))) (rfl) (rfl) (Nat.le_of_ble_eq_true rfl) dX9_watch_30 ?_
    intro H locs hC
    obtain ⟨F2, eF2⟩ : ∃ f, f = va_up F1 175 (mObj ad c2) := ⟨_, rfl⟩
    have hC : Cu g lo 196 ad F2 ss ss.heap H locs := by rw [eF2, ec2]; exact hC
    have hM_F2 : MC g ad F2 c2 q1 sm := hM_F1.fld eF2
    have cv12_F2 : c2 12 = nI (hn (xh x)) := by rw [ec2, va_up_ne _ _ (by decide)]; exact hR_F1.1
    have cv13_F2 : c2 13 = nI (hpu (xh x)) := by rw [ec2, va_up_ne _ _ (by decide)]; exact hR_F1.2.1
    have cv14_F2 : c2 14 = nI (hho (xh x)) := by rw [ec2, va_up_ne _ _ (by decide)]; exact hR_F1.2.2.1
    have cv23_F2 : c2 23 = bI (su (xw x)) := by rw [ec2, va_up_ne _ _ (by decide)]; exact ((hk.1 23 (by decide)).trans hsu)
    have cv22_F2 : c2 22 = nI (wa (xw x) + leakV (xh x) (xw x)) - nI (hpu (xh x)) := by rw [ec2, va_up_self]
    have hR_F2 : HullR (xh x) c2 q1 := by rw [ec2]; exact hR_F1.upc (by decide) (by decide) (by decide)
    have hS_F2 : Same 175 196 F F2 := by rw [eF2]; exact hS_F1.up (by decide) (by decide)
    refine lv_aload_n B.1 B.2.1 dX9_watch_33 rfl (lv_at hl 0 rfl) ?_
    refine lv_aload_n B.1 B.2.1 dX9_watch_34 rfl (lv_at hl 0 rfl) ?_
    refine r_cg B hC (i := 175) (by decide) hM_F2.1 (C := RX9) (T := TX9) (n := 35) rfl iwX9_watch_X9 22 (by decide) (index := 120) flX9_watch_120 rfl (v := .int (c2 22)) rfl dX9_watch_35 ?_
    refine r_tI (y := nI (wa (xw x) + leakV (xh x) (xw x)) - nI (hpu (xh x))) (cv22_F2) ?_
    refine lv_if_ge (tgt := 45) B.1 B.2.1 dX9_watch_38 (by decide) (fun c_38 => ?_) (fun c_38 => ?_)
    · have q_38 := wat_ge (by omega) (by omega) c_38
      refine lv_aload_n B.1 B.2.1 dX9_watch_45 rfl (lv_at hl 0 rfl) ?_
      refine r_cg B hC (i := 175) (by decide) hM_F2.1 (C := RX9) (T := TX9) (n := 35) rfl iwX9_watch_X9 22 (by decide) (index := 120) flX9_watch_120 rfl (v := .int (c2 22)) rfl dX9_watch_46 ?_
      refine r_tI (y := nI (wa (xw x) + leakV (xh x) (xw x)) - nI (hpu (xh x))) (cv22_F2) ?_
      refine r_tI (y := nI (waterN (xh x) (xw x))) (q_38) ?_
      obtain ⟨c3, ec3⟩ : ∃ f, f = va_up c2 22 (nI (waterN (xh x) (xw x))) := ⟨_, rfl⟩
      refine r_cp B hC (i := 175) (by decide) hM_F2.1 tyX9 tyX9_ok nmX9 (C := RX9) (T := TX9) rfl iwX9_watch_X9 22 (by decide) (index := 120) flX9_watch_120 rfl rfl (v := .int (nI (waterN (xh x) (xw x)))) (rfl) (rfl) (Nat.le_of_ble_eq_true rfl) dX9_watch_49 ?_
      intro H locs hC
      obtain ⟨F3, eF3⟩ : ∃ f, f = va_up F2 175 (mObj ad c3) := ⟨_, rfl⟩
      have hC : Cu g lo 196 ad F3 ss ss.heap H locs := by rw [eF3, ec3]; exact hC
      have hM_F3 : MC g ad F3 c3 q1 sm := hM_F2.fld eF3
      have cv12_F3 : c3 12 = nI (hn (xh x)) := by rw [ec3, va_up_ne _ _ (by decide)]; exact cv12_F2
      have cv13_F3 : c3 13 = nI (hpu (xh x)) := by rw [ec3, va_up_ne _ _ (by decide)]; exact cv13_F2
      have cv14_F3 : c3 14 = nI (hho (xh x)) := by rw [ec3, va_up_ne _ _ (by decide)]; exact cv14_F2
      have cv23_F3 : c3 23 = bI (su (xw x)) := by rw [ec3, va_up_ne _ _ (by decide)]; exact cv23_F2
      have cv22_F3 : c3 22 = nI (waterN (xh x) (xw x)) := by rw [ec3, va_up_self]
      have hR_F3 : HullR (xh x) c3 q1 := by rw [ec3]; exact hR_F2.upc (by decide) (by decide) (by decide)
      have hS_F3 : Same 175 196 F F3 := by rw [eF3]; exact hS_F2.up (by decide) (by decide)
      refine lv_aload_n B.1 B.2.1 dX9_watch_52 rfl (lv_at hl 0 rfl) ?_
      refine r_cg B hC (i := 175) (by decide) hM_F3.1 (C := RX9) (T := TX9) (n := 35) rfl iwX9_watch_X9 22 (by decide) (index := 120) flX9_watch_120 rfl (v := .int (c3 22)) rfl dX9_watch_53 ?_
      refine r_tI (y := nI (waterN (xh x) (xw x))) (cv22_F3) ?_
      refine lv_aload_n B.1 B.2.1 dX9_watch_56 rfl (lv_at hl 0 rfl) ?_
      refine r_cg B hC (i := 175) (by decide) hM_F3.1 (C := RX9) (T := TX9) (n := 35) rfl iwX9_watch_X9 14 (by decide) (index := 72) flX9_watch_72 rfl (v := .int (c3 14)) rfl dX9_watch_57 ?_
      refine r_tI (y := nI (hho (xh x))) (cv14_F3) ?_
      refine lv_icmp_le (tgt := 71) B.1 B.2.1 dX9_watch_60 (by decide) (fun c_60 => ?_) (fun c_60 => ?_)
      · have q_60 : waterN (xh x) (xw x) ≤ hho (xh x) := (nI_leI (by omega) (by omega)).mp c_60
        refine lv_aload_n B.1 B.2.1 dX9_watch_71 rfl (lv_at hl 0 rfl) ?_
        refine lv_iconst (v := nI 0) B.1 B.2.1 dX9_watch_72 (by decide) ?_
        refine r_callv B hC hl.1 (175) 9 rfl rfl (by decide) hM_F3.1 (As := [.int (nI 0)]) (ctX9_gnaw l g lo ad hM_F3 ok hR_F3 (b := 0) hb hBk hw) gX9_watch_X9_gnaw rfl (n := 1) rfl (by decide +kernel) ⟨Nat.le_of_ble_eq_true rfl, Nat.le_of_ble_eq_true rfl⟩ ⟨Nat.zero_le _, Nat.zero_le _⟩ rfl (Nat.le_of_ble_eq_true rfl) dX9_watch_73 (fun F4 H locs hp73 hC => ?_)
        obtain ⟨q4, hM_F4, hT_F4, hq73, hb73⟩ := hp73
        have hS_F4 : Same 175 196 F F4 := Same.tr2 hS_F3 hT_F4 (by decide) (by decide)
        refine lv_aload_n B.1 B.2.1 dX9_watch_76 rfl (lv_at hl 0 rfl) ?_
        refine r_cg B hC (i := 175) (by decide) hM_F4.1 (C := RX9) (T := TX9) (n := 35) rfl iwX9_watch_X9 22 (by decide) (index := 120) flX9_watch_120 rfl (v := .int (c3 22)) rfl dX9_watch_77 ?_
        refine r_tI (y := nI (waterN (xh x) (xw x))) (cv22_F3) ?_
        exact r_eI B hC (v := nI (waterN (xh x) (xw x))) (⟨by rw [watchA, if_neg (by rw [q_4]; decide), watch_ns (Nat.not_lt.mpr q_60)]; rfl, by rw [watchN, if_neg (by rw [q_4]; decide), watch_ns (Nat.not_lt.mpr q_60)]; exact ⟨_, _, _, hM_F4, hX.act hk hact ((((CQ.rf (A := [22, 23]) (B := [186, 187, 188])).uc ec2 (by decide)).uc ec3 (by decide)).us hq73 (by decide) (by decide) (by decide)) ⟨hb73.cong (fun t ht => ⟨rfl, rfl, rfl⟩), cv22_F3, (cv23_F3).trans (by show _ = bI (su (downTo (xh x) (wormTo (xw x) (hn (xh x))) (hn (xh x)))); rw [su_downTo, su_wormTo])⟩⟩, hS_F4⟩) dX9_watch_80
      · have q_60 : hho (xh x) < waterN (xh x) (xw x) := by rcases Nat.lt_or_ge (hho (xh x)) (waterN (xh x) (xw x)) with z | z; exact z; exact absurd ((nI_leI (by omega) (by omega)).mpr z) c_60
        refine lv_aload_n B.1 B.2.1 dX9_watch_63 rfl (lv_at hl 0 rfl) ?_
        refine lv_iconst (v := nI 1) B.1 B.2.1 dX9_watch_64 (by decide) ?_
        obtain ⟨c4, ec4⟩ : ∃ f, f = va_up c3 23 (nI 1) := ⟨_, rfl⟩
        refine r_cp B hC (i := 175) (by decide) hM_F3.1 tyX9 tyX9_ok nmX9 (C := RX9) (T := TX9) rfl iwX9_watch_X9 23 (by decide) (index := 123) flX9_watch_123 rfl rfl (v := .int (nI 1)) (rfl) (rfl) (Nat.le_of_ble_eq_true rfl) dX9_watch_65 ?_
        intro H locs hC
        obtain ⟨F4, eF4⟩ : ∃ f, f = va_up F3 175 (mObj ad c4) := ⟨_, rfl⟩
        have hC : Cu g lo 196 ad F4 ss ss.heap H locs := by rw [eF4, ec4]; exact hC
        have hM_F4 : MC g ad F4 c4 q1 sm := hM_F3.fld eF4
        have cv12_F4 : c4 12 = nI (hn (xh x)) := by rw [ec4, va_up_ne _ _ (by decide)]; exact cv12_F3
        have cv13_F4 : c4 13 = nI (hpu (xh x)) := by rw [ec4, va_up_ne _ _ (by decide)]; exact cv13_F3
        have cv14_F4 : c4 14 = nI (hho (xh x)) := by rw [ec4, va_up_ne _ _ (by decide)]; exact cv14_F3
        have cv22_F4 : c4 22 = nI (waterN (xh x) (xw x)) := by rw [ec4, va_up_ne _ _ (by decide)]; exact cv22_F3
        have cv23_F4 : c4 23 = nI 1 := by rw [ec4, va_up_self]
        have hR_F4 : HullR (xh x) c4 q1 := by rw [ec4]; exact hR_F3.upc (by decide) (by decide) (by decide)
        have hS_F4 : Same 175 196 F F4 := by rw [eF4]; exact hS_F3.up (by decide) (by decide)
        refine lv_goto (tgt := 76) B.1 B.2.1 dX9_watch_68 (by decide) ?_
        refine lv_aload_n B.1 B.2.1 dX9_watch_76 rfl (lv_at hl 0 rfl) ?_
        refine r_cg B hC (i := 175) (by decide) hM_F4.1 (C := RX9) (T := TX9) (n := 35) rfl iwX9_watch_X9 22 (by decide) (index := 120) flX9_watch_120 rfl (v := .int (c4 22)) rfl dX9_watch_77 ?_
        refine r_tI (y := nI (waterN (xh x) (xw x))) (cv22_F4) ?_
        exact r_eI B hC (v := nI (waterN (xh x) (xw x))) (⟨by rw [watchA, if_neg (by rw [q_4]; decide), watch_s q_60]; rfl, by rw [watchN, if_neg (by rw [q_4]; decide), watch_s q_60]; exact ⟨_, _, _, hM_F4, hX.act hk hact ((((CQ.rf (A := [22, 23]) (B := [186, 187, 188])).uc ec2 (by decide)).uc ec3 (by decide)).uc ec4 (by decide)) ⟨hBk.cong (fun t ht => ⟨rfl, rfl, rfl⟩), cv22_F4, (cv23_F4).trans rfl⟩⟩, hS_F4⟩) dX9_watch_80
    · have q_38 := wat_lt (by omega) (by omega) c_38
      refine lv_iconst (v := nI 0) B.1 B.2.1 dX9_watch_41 (by decide) ?_
      refine lv_goto (tgt := 49) B.1 B.2.1 dX9_watch_42 (by decide) ?_
      refine r_tI (y := nI (waterN (xh x) (xw x))) (q_38) ?_
      obtain ⟨c3, ec3⟩ : ∃ f, f = va_up c2 22 (nI (waterN (xh x) (xw x))) := ⟨_, rfl⟩
      refine r_cp B hC (i := 175) (by decide) hM_F2.1 tyX9 tyX9_ok nmX9 (C := RX9) (T := TX9) rfl iwX9_watch_X9 22 (by decide) (index := 120) flX9_watch_120 rfl rfl (v := .int (nI (waterN (xh x) (xw x)))) (rfl) (rfl) (Nat.le_of_ble_eq_true rfl) dX9_watch_49 ?_
      intro H locs hC
      obtain ⟨F3, eF3⟩ : ∃ f, f = va_up F2 175 (mObj ad c3) := ⟨_, rfl⟩
      have hC : Cu g lo 196 ad F3 ss ss.heap H locs := by rw [eF3, ec3]; exact hC
      have hM_F3 : MC g ad F3 c3 q1 sm := hM_F2.fld eF3
      have cv12_F3 : c3 12 = nI (hn (xh x)) := by rw [ec3, va_up_ne _ _ (by decide)]; exact cv12_F2
      have cv13_F3 : c3 13 = nI (hpu (xh x)) := by rw [ec3, va_up_ne _ _ (by decide)]; exact cv13_F2
      have cv14_F3 : c3 14 = nI (hho (xh x)) := by rw [ec3, va_up_ne _ _ (by decide)]; exact cv14_F2
      have cv23_F3 : c3 23 = bI (su (xw x)) := by rw [ec3, va_up_ne _ _ (by decide)]; exact cv23_F2
      have cv22_F3 : c3 22 = nI (waterN (xh x) (xw x)) := by rw [ec3, va_up_self]
      have hR_F3 : HullR (xh x) c3 q1 := by rw [ec3]; exact hR_F2.upc (by decide) (by decide) (by decide)
      have hS_F3 : Same 175 196 F F3 := by rw [eF3]; exact hS_F2.up (by decide) (by decide)
      refine lv_aload_n B.1 B.2.1 dX9_watch_52 rfl (lv_at hl 0 rfl) ?_
      refine r_cg B hC (i := 175) (by decide) hM_F3.1 (C := RX9) (T := TX9) (n := 35) rfl iwX9_watch_X9 22 (by decide) (index := 120) flX9_watch_120 rfl (v := .int (c3 22)) rfl dX9_watch_53 ?_
      refine r_tI (y := nI (waterN (xh x) (xw x))) (cv22_F3) ?_
      refine lv_aload_n B.1 B.2.1 dX9_watch_56 rfl (lv_at hl 0 rfl) ?_
      refine r_cg B hC (i := 175) (by decide) hM_F3.1 (C := RX9) (T := TX9) (n := 35) rfl iwX9_watch_X9 14 (by decide) (index := 72) flX9_watch_72 rfl (v := .int (c3 14)) rfl dX9_watch_57 ?_
      refine r_tI (y := nI (hho (xh x))) (cv14_F3) ?_
      refine lv_icmp_le (tgt := 71) B.1 B.2.1 dX9_watch_60 (by decide) (fun c_60 => ?_) (fun c_60 => ?_)
      · have q_60 : waterN (xh x) (xw x) ≤ hho (xh x) := (nI_leI (by omega) (by omega)).mp c_60
        refine lv_aload_n B.1 B.2.1 dX9_watch_71 rfl (lv_at hl 0 rfl) ?_
        refine lv_iconst (v := nI 0) B.1 B.2.1 dX9_watch_72 (by decide) ?_
        refine r_callv B hC hl.1 (175) 9 rfl rfl (by decide) hM_F3.1 (As := [.int (nI 0)]) (ctX9_gnaw l g lo ad hM_F3 ok hR_F3 (b := 0) hb hBk hw) gX9_watch_X9_gnaw rfl (n := 1) rfl (by decide +kernel) ⟨Nat.le_of_ble_eq_true rfl, Nat.le_of_ble_eq_true rfl⟩ ⟨Nat.zero_le _, Nat.zero_le _⟩ rfl (Nat.le_of_ble_eq_true rfl) dX9_watch_73 (fun F4 H locs hp73 hC => ?_)
        obtain ⟨q4, hM_F4, hT_F4, hq73, hb73⟩ := hp73
        have hS_F4 : Same 175 196 F F4 := Same.tr2 hS_F3 hT_F4 (by decide) (by decide)
        refine lv_aload_n B.1 B.2.1 dX9_watch_76 rfl (lv_at hl 0 rfl) ?_
        refine r_cg B hC (i := 175) (by decide) hM_F4.1 (C := RX9) (T := TX9) (n := 35) rfl iwX9_watch_X9 22 (by decide) (index := 120) flX9_watch_120 rfl (v := .int (c3 22)) rfl dX9_watch_77 ?_
        refine r_tI (y := nI (waterN (xh x) (xw x))) (cv22_F3) ?_
        exact r_eI B hC (v := nI (waterN (xh x) (xw x))) (⟨by rw [watchA, if_neg (by rw [q_4]; decide), watch_ns (Nat.not_lt.mpr q_60)]; rfl, by rw [watchN, if_neg (by rw [q_4]; decide), watch_ns (Nat.not_lt.mpr q_60)]; exact ⟨_, _, _, hM_F4, hX.act hk hact ((((CQ.rf (A := [22, 23]) (B := [186, 187, 188])).uc ec2 (by decide)).uc ec3 (by decide)).us hq73 (by decide) (by decide) (by decide)) ⟨hb73.cong (fun t ht => ⟨rfl, rfl, rfl⟩), cv22_F3, (cv23_F3).trans (by show _ = bI (su (downTo (xh x) (wormTo (xw x) (hn (xh x))) (hn (xh x)))); rw [su_downTo, su_wormTo])⟩⟩, hS_F4⟩) dX9_watch_80
      · have q_60 : hho (xh x) < waterN (xh x) (xw x) := by rcases Nat.lt_or_ge (hho (xh x)) (waterN (xh x) (xw x)) with z | z; exact z; exact absurd ((nI_leI (by omega) (by omega)).mpr z) c_60
        refine lv_aload_n B.1 B.2.1 dX9_watch_63 rfl (lv_at hl 0 rfl) ?_
        refine lv_iconst (v := nI 1) B.1 B.2.1 dX9_watch_64 (by decide) ?_
        obtain ⟨c4, ec4⟩ : ∃ f, f = va_up c3 23 (nI 1) := ⟨_, rfl⟩
        refine r_cp B hC (i := 175) (by decide) hM_F3.1 tyX9 tyX9_ok nmX9 (C := RX9) (T := TX9) rfl iwX9_watch_X9 23 (by decide) (index := 123) flX9_watch_123 rfl rfl (v := .int (nI 1)) (rfl) (rfl) (Nat.le_of_ble_eq_true rfl) dX9_watch_65 ?_
        intro H locs hC
        obtain ⟨F4, eF4⟩ : ∃ f, f = va_up F3 175 (mObj ad c4) := ⟨_, rfl⟩
        have hC : Cu g lo 196 ad F4 ss ss.heap H locs := by rw [eF4, ec4]; exact hC
        have hM_F4 : MC g ad F4 c4 q1 sm := hM_F3.fld eF4
        have cv12_F4 : c4 12 = nI (hn (xh x)) := by rw [ec4, va_up_ne _ _ (by decide)]; exact cv12_F3
        have cv13_F4 : c4 13 = nI (hpu (xh x)) := by rw [ec4, va_up_ne _ _ (by decide)]; exact cv13_F3
        have cv14_F4 : c4 14 = nI (hho (xh x)) := by rw [ec4, va_up_ne _ _ (by decide)]; exact cv14_F3
        have cv22_F4 : c4 22 = nI (waterN (xh x) (xw x)) := by rw [ec4, va_up_ne _ _ (by decide)]; exact cv22_F3
        have cv23_F4 : c4 23 = nI 1 := by rw [ec4, va_up_self]
        have hR_F4 : HullR (xh x) c4 q1 := by rw [ec4]; exact hR_F3.upc (by decide) (by decide) (by decide)
        have hS_F4 : Same 175 196 F F4 := by rw [eF4]; exact hS_F3.up (by decide) (by decide)
        refine lv_goto (tgt := 76) B.1 B.2.1 dX9_watch_68 (by decide) ?_
        refine lv_aload_n B.1 B.2.1 dX9_watch_76 rfl (lv_at hl 0 rfl) ?_
        refine r_cg B hC (i := 175) (by decide) hM_F4.1 (C := RX9) (T := TX9) (n := 35) rfl iwX9_watch_X9 22 (by decide) (index := 120) flX9_watch_120 rfl (v := .int (c4 22)) rfl dX9_watch_77 ?_
        refine r_tI (y := nI (waterN (xh x) (xw x))) (cv22_F4) ?_
        exact r_eI B hC (v := nI (waterN (xh x) (xw x))) (⟨by rw [watchA, if_neg (by rw [q_4]; decide), watch_s q_60]; rfl, by rw [watchN, if_neg (by rw [q_4]; decide), watch_s q_60]; exact ⟨_, _, _, hM_F4, hX.act hk hact ((((CQ.rf (A := [22, 23]) (B := [186, 187, 188])).uc ec2 (by decide)).uc ec3 (by decide)).uc ec4 (by decide)) ⟨hBk.cong (fun t ht => ⟨rfl, rfl, rfl⟩), cv22_F4, (cv23_F4).trans rfl⟩⟩, hS_F4⟩) dX9_watch_80
  · have q_4 : (su (xw x)) = true := bI_t.mp c_4
    refine lv_bipush (v := (-3)) B.1 B.2.1 dX9_watch_7 (by decide) ?_
    exact r_eI B hC (v := (-3)) (⟨by rw [watchA, if_pos q_4], by rw [watchN, if_pos q_4]; exact ⟨_, _, _, hM, hX⟩, hS⟩) dX9_watch_9
theorem cr_bank {h : HV} {w : LV} {q q1 : Nat → Nat → Int32} {r : Nat} (hn10 : hn h ≤ 10) (k : CR 189 (32 * r) 10 q q1) (hr : RowR h q r w) : BankR h q1 0 w := fun t ht => by
  rw [Nat.zero_add, (k.2 t (by omega)).1, (k.2 t (by omega)).2.1, (k.2 t (by omega)).2.2]
  exact hr.1 t ht
theorem acts_back {h : HV} {a : AV} {c' : Nat → Int32} {q q' : Nat → Nat → Int32} {nx : Nat} (hn10 : hn h ≤ 10) (ok : AOK a) (hnx : nx < 24) (hpos : 0 < asz a) (ha : ∀ k, k < asz a → RowR h q ((nx + 24 - asz a + k) % 24) (alo a ((afi a + k) % 24))) (hq : ∀ i, i < 186 ∨ 188 < i → q' i = q i) (e24 : c' 24 = nI (asz a - 1)) (e25 : c' 25 = nI ((nx + 23) % 24)) : ActsR h (afi a, asz a - 1, alo a) c' q' := by
  obtain ⟨o1, o2, -⟩ := ok
  refine ⟨(nx + 23) % 24, Nat.mod_lt _ (by decide), e24, e25, fun k hk => ?_⟩
  have hk2 : k < asz a - 1 := hk
  show RowR h q' (((nx + 23) % 24 + 24 - (asz a - 1) + k) % 24) (alo a ((afi a + k) % 24))
  rw [show ((nx + 23) % 24 + 24 - (asz a - 1) + k) % 24 = (nx + 24 - asz a + k) % 24 by omega]
  have z := ha k (by omega)
  unfold RowR at z ⊢
  rw [hq 189 (by decide)]; exact z
theorem iwX9_back_X9 : ∀ w ∈ u_ws RX9 TX9 35, w ∈ wsX9_back := by decide +kernel
theorem flX9_back_40 : Cond.fieldLink RX9 40 RX9 (TX9 19).2.1 (TX9 19).2.2.1 ∈ wsX9_back := by decide +kernel
theorem flX9_back_43 : Cond.fieldLink RX9 43 RX9 (TX9 20).2.1 (TX9 20).2.2.1 ∈ wsX9_back := by decide +kernel
theorem flX9_back_46 : Cond.fieldLink RX9 46 RX9 (TX9 21).2.1 (TX9 21).2.2.1 ∈ wsX9_back := by decide +kernel
theorem flX9_back_49 : Cond.fieldLink RX9 49 RX9 (TX9 26).2.1 (TX9 26).2.2.1 ∈ wsX9_back := by decide +kernel
theorem flX9_back_120 : Cond.fieldLink RX9 120 RX9 (TX9 22).2.1 (TX9 22).2.2.1 ∈ wsX9_back := by decide +kernel
theorem flX9_back_123 : Cond.fieldLink RX9 123 RX9 (TX9 23).2.1 (TX9 23).2.2.1 ∈ wsX9_back := by decide +kernel
theorem flX9_back_127 : Cond.fieldLink RX9 127 RX9 (TX9 24).2.1 (TX9 24).2.2.1 ∈ wsX9_back := by decide +kernel
theorem flX9_back_156 : Cond.fieldLink RX9 156 RX9 (TX9 25).2.1 (TX9 25).2.2.1 ∈ wsX9_back := by decide +kernel
set_option maxHeartbeats 4000000 in
set_option maxRecDepth 100000 in
theorem ctX9_back (l : Launch) (g : Gx) (lo : Nat) (ad : Nat → Nat) {F : Nat → va_E} {c : Nat → Int32} {q : Nat → Nat → Int32} {sm : Nat → Int64} {x : XV} (hM : MC g ad F c q sm) (hX : XR x c q) (okx : XOK x) : MI l g lo 196 ad yX9_back wsX9_back 0 0 [.ref (ad (175))] F (fun r F' => r = backA x ∧ MX g ad F' (backN x) ∧ Same 175 196 F F') := by
  obtain ⟨hTx, hR, ⟨hB, hwa, hsu⟩, hAx, hKx⟩ := id hX
  obtain ⟨okT, ok, hw, okA, okS, okAu, okSu⟩ := id okx
  have okn := ok.1
  have okp := ok.2.1
  have okh := ok.2.2.1
  have okt := okT.1
  have hS : Same 175 196 F F := Same.rf
  have hb : 0 ≤ 50 := by decide
  have hwa3 := hw.2.1
  obtain ⟨nx, hnx, ha24, ha25, hac⟩ := id hAx
  have oka := okA.2.1
  have okf := okA.1
  refine enter (cc := cX9_back) (maxL := 3) (ret := some .int) (own := RX9) (by decide +kernel) rfl rfl (Nat.le_of_ble_eq_true rfl) ?_
  intro pp ee ss mm below meth cc B hini hC ls hl
  have hl : lv_has ls 3 [(0, .ref (ad (175)))] := hl
  refine lv_aload_n B.1 B.2.1 dX9_back_0 rfl (lv_at hl 0 rfl) ?_
  refine r_cg B hC (i := 175) (by decide) hM.1 (C := RX9) (T := TX9) (n := 35) rfl iwX9_back_X9 24 (by decide) (index := 127) flX9_back_127 rfl (v := .int (c 24)) rfl dX9_back_1 ?_
  refine r_tI (y := nI (asz (xa x))) (ha24) ?_
  refine lv_if_ne (tgt := 10) B.1 B.2.1 dX9_back_4 (by decide) (fun c_4 => ?_) (fun c_4 => ?_)
  · have q_4 : ¬ asz (xa x) = 0 := fun z => c_4 (nI_eq0 z)
    refine lv_aload_n B.1 B.2.1 dX9_back_10 rfl (lv_at hl 0 rfl) ?_
    refine lv_dup B.1 B.2.1 dX9_back_11 rfl ?_
    refine r_cg B hC (i := 175) (by decide) hM.1 (C := RX9) (T := TX9) (n := 35) rfl iwX9_back_X9 24 (by decide) (index := 127) flX9_back_127 rfl (v := .int (c 24)) rfl dX9_back_12 ?_
    refine r_tI (y := nI (asz (xa x))) (ha24) ?_
    refine lv_iconst (v := nI 1) B.1 B.2.1 dX9_back_15 (by decide) ?_
    refine lv_isub B.1 B.2.1 dX9_back_16 ?_
    refine r_tI (y := nI ((asz (xa x)) - 1)) (pk_sub (by omega)) ?_
    obtain ⟨c1, ec1⟩ : ∃ f, f = va_up c 24 (nI ((asz (xa x)) - 1)) := ⟨_, rfl⟩
    refine r_cp B hC (i := 175) (by decide) hM.1 tyX9 tyX9_ok nmX9 (C := RX9) (T := TX9) rfl iwX9_back_X9 24 (by decide) (index := 127) flX9_back_127 rfl rfl (v := .int (nI ((asz (xa x)) - 1))) (rfl) (rfl) (Nat.le_of_ble_eq_true rfl) dX9_back_17 ?_
    intro H locs hC
    obtain ⟨F1, eF1⟩ : ∃ f, f = va_up F 175 (mObj ad c1) := ⟨_, rfl⟩
    have hC : Cu g lo 196 ad F1 ss ss.heap H locs := by rw [eF1, ec1]; exact hC
    have hM_F1 : MC g ad F1 c1 q sm := hM.fld eF1
    have cv12_F1 : c1 12 = nI (hn (xh x)) := by rw [ec1, va_up_ne _ _ (by decide)]; exact hR.1
    have cv13_F1 : c1 13 = nI (hpu (xh x)) := by rw [ec1, va_up_ne _ _ (by decide)]; exact hR.2.1
    have cv14_F1 : c1 14 = nI (hho (xh x)) := by rw [ec1, va_up_ne _ _ (by decide)]; exact hR.2.2.1
    have cv16_F1 : c1 16 = nI (tn (xt x)) := by rw [ec1, va_up_ne _ _ (by decide)]; exact hTx.1
    have cv22_F1 : c1 22 = nI (wa (xw x)) := by rw [ec1, va_up_ne _ _ (by decide)]; exact hwa
    have cv23_F1 : c1 23 = bI (su (xw x)) := by rw [ec1, va_up_ne _ _ (by decide)]; exact hsu
    have cv25_F1 : c1 25 = nI nx := by rw [ec1, va_up_ne _ _ (by decide)]; exact ha25
    have cv24_F1 : c1 24 = nI ((asz (xa x)) - 1) := by rw [ec1, va_up_self]
    have hR_F1 : HullR (xh x) c1 q := by rw [ec1]; exact hR.upc (by decide) (by decide) (by decide)
    have hS_F1 : Same 175 196 F F1 := by rw [eF1]; exact hS.up (by decide) (by decide)
    refine lv_aload_n B.1 B.2.1 dX9_back_20 rfl (lv_at hl 0 rfl) ?_
    refine lv_aload_n B.1 B.2.1 dX9_back_21 rfl (lv_at hl 0 rfl) ?_
    refine r_cg B hC (i := 175) (by decide) hM_F1.1 (C := RX9) (T := TX9) (n := 35) rfl iwX9_back_X9 25 (by decide) (index := 156) flX9_back_156 rfl (v := .int (c1 25)) rfl dX9_back_22 ?_
    refine r_tI (y := nI nx) (cv25_F1) ?_
    refine lv_bipush (v := nI 23) B.1 B.2.1 dX9_back_25 (by decide) ?_
    refine lv_iadd B.1 B.2.1 dX9_back_27 ?_
    refine r_tI (y := nI (nx + 23)) (nI_add _ _) ?_
    refine lv_bipush (v := nI 24) B.1 B.2.1 dX9_back_28 (by decide) ?_
    refine lv_irem B.1 B.2.1 dX9_back_30 (by decide) ?_
    refine r_tI (y := nI ((nx + 23) % 24)) (pk_rem (by omega) (by omega) (by omega)) ?_
    obtain ⟨c2, ec2⟩ : ∃ f, f = va_up c1 25 (nI ((nx + 23) % 24)) := ⟨_, rfl⟩
    refine r_cp B hC (i := 175) (by decide) hM_F1.1 tyX9 tyX9_ok nmX9 (C := RX9) (T := TX9) rfl iwX9_back_X9 25 (by decide) (index := 156) flX9_back_156 rfl rfl (v := .int (nI ((nx + 23) % 24))) (rfl) (rfl) (Nat.le_of_ble_eq_true rfl) dX9_back_31 ?_
    intro H locs hC
    obtain ⟨F2, eF2⟩ : ∃ f, f = va_up F1 175 (mObj ad c2) := ⟨_, rfl⟩
    have hC : Cu g lo 196 ad F2 ss ss.heap H locs := by rw [eF2, ec2]; exact hC
    have hM_F2 : MC g ad F2 c2 q sm := hM_F1.fld eF2
    have cv12_F2 : c2 12 = nI (hn (xh x)) := by rw [ec2, va_up_ne _ _ (by decide)]; exact cv12_F1
    have cv13_F2 : c2 13 = nI (hpu (xh x)) := by rw [ec2, va_up_ne _ _ (by decide)]; exact cv13_F1
    have cv14_F2 : c2 14 = nI (hho (xh x)) := by rw [ec2, va_up_ne _ _ (by decide)]; exact cv14_F1
    have cv16_F2 : c2 16 = nI (tn (xt x)) := by rw [ec2, va_up_ne _ _ (by decide)]; exact cv16_F1
    have cv22_F2 : c2 22 = nI (wa (xw x)) := by rw [ec2, va_up_ne _ _ (by decide)]; exact cv22_F1
    have cv23_F2 : c2 23 = bI (su (xw x)) := by rw [ec2, va_up_ne _ _ (by decide)]; exact cv23_F1
    have cv24_F2 : c2 24 = nI ((asz (xa x)) - 1) := by rw [ec2, va_up_ne _ _ (by decide)]; exact cv24_F1
    have cv25_F2 : c2 25 = nI ((nx + 23) % 24) := by rw [ec2, va_up_self]
    have hR_F2 : HullR (xh x) c2 q := by rw [ec2]; exact hR_F1.upc (by decide) (by decide) (by decide)
    have hS_F2 : Same 175 196 F F2 := by rw [eF2]; exact hS_F1.up (by decide) (by decide)
    refine lv_bipush (v := nI 32) B.1 B.2.1 dX9_back_34 (by decide) ?_
    refine lv_aload_n B.1 B.2.1 dX9_back_36 rfl (lv_at hl 0 rfl) ?_
    refine r_cg B hC (i := 175) (by decide) hM_F2.1 (C := RX9) (T := TX9) (n := 35) rfl iwX9_back_X9 25 (by decide) (index := 156) flX9_back_156 rfl (v := .int (c2 25)) rfl dX9_back_37 ?_
    refine r_tI (y := nI ((nx + 23) % 24)) (cv25_F2) ?_
    refine lv_imul B.1 B.2.1 dX9_back_40 ?_
    refine r_tI (y := nI (32 * ((nx + 23) % 24))) (pk_mul _ _) ?_
    refine lv_istore_n (lv' := [(1, .int (nI (32 * ((nx + 23) % 24)))), (0, .ref (ad (175)))]) B.1 B.2.1 dX9_back_41 rfl hl (by decide) rfl (fun ls hl => ?_)
    refine lv_iconst (v := nI 0) B.1 B.2.1 dX9_back_42 (by decide) ?_
    refine lv_istore_n (lv' := [(2, .int (nI 0)), (1, .int (nI (32 * ((nx + 23) % 24)))), (0, .ref (ad (175)))]) B.1 B.2.1 dX9_back_43 rfl hl (by decide) rfl (fun ls hl => ?_)
    have hc24 : c2 24 = nI (asz (xa x) - 1) := cv24_F2
    have hc25 : c2 25 = nI ((nx + 23) % 24) := cv25_F2
    have hc22 : c2 22 = nI (wa (xw x)) := cv22_F2
    have hK0 : CQ [22, 23, 24, 25] [186, 187, 188] c c2 q q := (((CQ.rf (A := [22, 23, 24, 25]) (B := [186, 187, 188])).uc ec1 (by decide)).uc ec2 (by decide))
    have hrow := (show RowR (xh x) q ((nx + 23) % 24) (undV (xa x)) from by have z := hac (asz (xa x) - 1) (by omega); rwa [show (nx + 24 - asz (xa x) + (asz (xa x) - 1)) % 24 = (nx + 23) % 24 by omega] at z)
    have hnb : (nx + 23) % 24 < 24 := Nat.mod_lt _ (by decide)
    have loop44 : ∀ (k : Nat) (t : Nat) (q1 : Nat → Nat → Int32) (G : Nat → va_E), (t + k = 10) → (MC g ad G c2 q1 sm) → (Same 175 196 F G) → (CR 189 (32 * ((nx + 23) % 24)) t q q1) → ∀ (H : Heap) (locs : List Loc) (ls : Array Slot), Cu g lo 196 ad G ss ss.heap H locs → lv_has ls 3 [(2, .int (nI t)), (0, .ref (ad (175))), (1, .int (nI (32 * ((nx + 23) % 24))))] → W pp l ee { frames := 0, cells := 0, slots := 0, locals := 0 } ss mm ([.ref (ad (175))] : List Value).toArray below meth cc H locs 0 0 (MQ below (va_Qi (fun r F' => r = backA x ∧ MX g ad F' (backN x) ∧ Same 175 196 F F') (fun F' t => Wd g lo 196 ad F' t) (fun q => lo ≤ q)) ([.ref (ad (175))] : List Value).toArray ss 0 0 (fun q => lo ≤ q)) (F0 mm 44 ls []) := by
      intro k
      induction k with
      | zero =>
        intro t q1 G htk hM1 hS1 hC1 H locs ls hC hl
        refine lv_iload_n B.1 B.2.1 dX9_back_44 rfl (lv_at hl 0 rfl) ?_
        refine lv_bipush (v := nI 10) B.1 B.2.1 dX9_back_45 (by decide) ?_
        refine lv_icmp_ge (tgt := 104) B.1 B.2.1 dX9_back_47 (by decide) (fun _ => ?_) (fun z => absurd (nI_le (by omega) (by omega)) z)
        have et : t = 10 := by omega
        refine lv_aload_n B.1 B.2.1 dX9_back_104 rfl (lv_at hl 1 rfl) ?_
        refine lv_aload_n B.1 B.2.1 dX9_back_105 rfl (lv_at hl 1 rfl) ?_
        refine r_cg B hC (i := 175) (by decide) hM1.1 (C := RX9) (T := TX9) (n := 35) rfl iwX9_back_X9 26 (by decide) (index := 49) flX9_back_49 rfl (v := .ref (ad (189))) rfl dX9_back_106 ?_
        refine lv_iload_n B.1 B.2.1 dX9_back_109 rfl (lv_at hl 2 rfl) ?_
        refine lv_bipush (v := nI 30) B.1 B.2.1 dX9_back_110 (by decide) ?_
        refine lv_iadd B.1 B.2.1 dX9_back_112 ?_
        refine r_tI (y := nI ((32 * ((nx + 23) % 24)) + 30)) (nI_add _ _) ?_
        refine r_cald B hC (i := 189) (by decide) hM1.c189 (j := ((32 * ((nx + 23) % 24)) + 30)) (by omega) (by decide) dX9_back_113 ?_
        refine r_tI (y := q1 189 ((32 * ((nx + 23) % 24)) + 30)) rfl ?_
        refine r_tI (y := nI (wa (undV (xa x)))) (by rw [(hC1.1 189 (by decide))]; exact hrow.2.1) ?_
        obtain ⟨c31, ec31⟩ : ∃ f, f = va_up c2 22 (nI (wa (undV (xa x)))) := ⟨_, rfl⟩
        refine r_cp B hC (i := 175) (by decide) hM1.1 tyX9 tyX9_ok nmX9 (C := RX9) (T := TX9) rfl iwX9_back_X9 22 (by decide) (index := 120) flX9_back_120 rfl rfl (v := .int (nI (wa (undV (xa x))))) (rfl) (rfl) (Nat.le_of_ble_eq_true rfl) dX9_back_114 ?_
        intro H locs hC
        obtain ⟨F31, eF31⟩ : ∃ f, f = va_up G 175 (mObj ad c31) := ⟨_, rfl⟩
        have hC : Cu g lo 196 ad F31 ss ss.heap H locs := by rw [eF31, ec31]; exact hC
        have hM_F31 : MC g ad F31 c31 q1 sm := hM1.fld eF31
        have cv24_F31 : c31 24 = nI (asz (xa x) - 1) := by rw [ec31, va_up_ne _ _ (by decide)]; exact hc24
        have cv25_F31 : c31 25 = nI ((nx + 23) % 24) := by rw [ec31, va_up_ne _ _ (by decide)]; exact hc25
        have cv22_F31 : c31 22 = nI (wa (undV (xa x))) := by rw [ec31, va_up_self]
        have hS_F31 : Same 175 196 F F31 := by rw [eF31]; exact hS1.up (by decide) (by decide)
        refine lv_aload_n B.1 B.2.1 dX9_back_117 rfl (lv_at hl 1 rfl) ?_
        refine lv_aload_n B.1 B.2.1 dX9_back_118 rfl (lv_at hl 1 rfl) ?_
        refine r_cg B hC (i := 175) (by decide) hM_F31.1 (C := RX9) (T := TX9) (n := 35) rfl iwX9_back_X9 26 (by decide) (index := 49) flX9_back_49 rfl (v := .ref (ad (189))) rfl dX9_back_119 ?_
        refine lv_iload_n B.1 B.2.1 dX9_back_122 rfl (lv_at hl 2 rfl) ?_
        refine lv_bipush (v := nI 31) B.1 B.2.1 dX9_back_123 (by decide) ?_
        refine lv_iadd B.1 B.2.1 dX9_back_125 ?_
        refine r_tI (y := nI ((32 * ((nx + 23) % 24)) + 31)) (nI_add _ _) ?_
        refine r_cald B hC (i := 189) (by decide) hM_F31.c189 (j := ((32 * ((nx + 23) % 24)) + 31)) (by omega) (by decide) dX9_back_126 ?_
        refine r_tI (y := q1 189 ((32 * ((nx + 23) % 24)) + 31)) rfl ?_
        refine r_tI (y := bI (su (undV (xa x)))) (by rw [(hC1.1 189 (by decide))]; exact hrow.2.2) ?_
        refine lv_iconst (v := nI 1) B.1 B.2.1 dX9_back_127 (by decide) ?_
        refine lv_icmp_ne (tgt := 135) B.1 B.2.1 dX9_back_128 (by decide) (fun c_128 => ?_) (fun c_128 => ?_)
        · have q_128 : su (undV (xa x)) = false := by have z := fun y => c_128 ((bI1 _).mpr y); simpa using z
          refine lv_iconst (v := nI 0) B.1 B.2.1 dX9_back_135 (by decide) ?_
          obtain ⟨c32, ec32⟩ : ∃ f, f = va_up c31 23 (nI 0) := ⟨_, rfl⟩
          refine r_cp B hC (i := 175) (by decide) hM_F31.1 tyX9 tyX9_ok nmX9 (C := RX9) (T := TX9) rfl iwX9_back_X9 23 (by decide) (index := 123) flX9_back_123 rfl rfl (v := .int (nI 0)) (rfl) (rfl) (Nat.le_of_ble_eq_true rfl) dX9_back_136 ?_
          intro H locs hC
          obtain ⟨F32, eF32⟩ : ∃ f, f = va_up F31 175 (mObj ad c32) := ⟨_, rfl⟩
          have hC : Cu g lo 196 ad F32 ss ss.heap H locs := by rw [eF32, ec32]; exact hC
          have hM_F32 : MC g ad F32 c32 q1 sm := hM_F31.fld eF32
          have cv24_F32 : c32 24 = nI (asz (xa x) - 1) := by rw [ec32, va_up_ne _ _ (by decide)]; exact cv24_F31
          have cv25_F32 : c32 25 = nI ((nx + 23) % 24) := by rw [ec32, va_up_ne _ _ (by decide)]; exact cv25_F31
          have cv22_F32 : c32 22 = nI (wa (undV (xa x))) := by rw [ec32, va_up_ne _ _ (by decide)]; exact cv22_F31
          have cv23_F32 : c32 23 = nI 0 := by rw [ec32, va_up_self]
          have hS_F32 : Same 175 196 F F32 := by rw [eF32]; exact hS_F31.up (by decide) (by decide)
          refine lv_aload_n B.1 B.2.1 dX9_back_139 rfl (lv_at hl 1 rfl) ?_
          refine r_cg B hC (i := 175) (by decide) hM_F32.1 (C := RX9) (T := TX9) (n := 35) rfl iwX9_back_X9 24 (by decide) (index := 127) flX9_back_127 rfl (v := .int (c32 24)) rfl dX9_back_140 ?_
          refine r_tI (y := nI (asz (xa x) - 1)) (cv24_F32) ?_
          exact r_eI B hC (v := nI (asz (xa x) - 1)) (⟨by rw [backA, if_neg q_4], by rw [backN, if_neg q_4]; exact ⟨_, _, _, hM_F32, hTx.cq (((CQ.of (A := [22, 23, 24, 25]) (B := [186, 187, 188]) (c := c) (c' := c2) (q := q) (q' := q1) hK0.1 (fun i hi => hC1.1 i (out_3 hi))).uc ec31 (by decide)).uc ec32 (by decide)) (by decide) (by decide), hR.cq (((CQ.of (A := [22, 23, 24, 25]) (B := [186, 187, 188]) (c := c) (c' := c2) (q := q) (q' := q1) hK0.1 (fun i hi => hC1.1 i (out_3 hi))).uc ec31 (by decide)).uc ec32 (by decide)) (by decide) (by decide) (by decide) (by decide) (by decide) (by decide) (by decide), ⟨cr_bank okn (et ▸ hC1) hrow, cv22_F32, (cv23_F32).trans (by rw [show su (xw (backX x)) = su (undV (xa x)) from rfl, q_128]; rfl)⟩, acts_back okn okA hnx (by omega) hac hC1.1 (cv24_F32) (cv25_F32), hKx.cq (((CQ.of (A := [22, 23, 24, 25]) (B := [186, 187, 188]) (c := c) (c' := c2) (q := q) (q' := q1) hK0.1 (fun i hi => hC1.1 i (out_3 hi))).uc ec31 (by decide)).uc ec32 (by decide)) (by decide) (by decide) (by decide) (by decide)⟩, hS_F32⟩) dX9_back_143
        · have q_128 := (bI1 _).mp c_128
          refine lv_iconst (v := nI 1) B.1 B.2.1 dX9_back_131 (by decide) ?_
          refine lv_goto (tgt := 136) B.1 B.2.1 dX9_back_132 (by decide) ?_
          obtain ⟨c32, ec32⟩ : ∃ f, f = va_up c31 23 (nI 1) := ⟨_, rfl⟩
          refine r_cp B hC (i := 175) (by decide) hM_F31.1 tyX9 tyX9_ok nmX9 (C := RX9) (T := TX9) rfl iwX9_back_X9 23 (by decide) (index := 123) flX9_back_123 rfl rfl (v := .int (nI 1)) (rfl) (rfl) (Nat.le_of_ble_eq_true rfl) dX9_back_136 ?_
          intro H locs hC
          obtain ⟨F32, eF32⟩ : ∃ f, f = va_up F31 175 (mObj ad c32) := ⟨_, rfl⟩
          have hC : Cu g lo 196 ad F32 ss ss.heap H locs := by rw [eF32, ec32]; exact hC
          have hM_F32 : MC g ad F32 c32 q1 sm := hM_F31.fld eF32
          have cv24_F32 : c32 24 = nI (asz (xa x) - 1) := by rw [ec32, va_up_ne _ _ (by decide)]; exact cv24_F31
          have cv25_F32 : c32 25 = nI ((nx + 23) % 24) := by rw [ec32, va_up_ne _ _ (by decide)]; exact cv25_F31
          have cv22_F32 : c32 22 = nI (wa (undV (xa x))) := by rw [ec32, va_up_ne _ _ (by decide)]; exact cv22_F31
          have cv23_F32 : c32 23 = nI 1 := by rw [ec32, va_up_self]
          have hS_F32 : Same 175 196 F F32 := by rw [eF32]; exact hS_F31.up (by decide) (by decide)
          refine lv_aload_n B.1 B.2.1 dX9_back_139 rfl (lv_at hl 1 rfl) ?_
          refine r_cg B hC (i := 175) (by decide) hM_F32.1 (C := RX9) (T := TX9) (n := 35) rfl iwX9_back_X9 24 (by decide) (index := 127) flX9_back_127 rfl (v := .int (c32 24)) rfl dX9_back_140 ?_
          refine r_tI (y := nI (asz (xa x) - 1)) (cv24_F32) ?_
          exact r_eI B hC (v := nI (asz (xa x) - 1)) (⟨by rw [backA, if_neg q_4], by rw [backN, if_neg q_4]; exact ⟨_, _, _, hM_F32, hTx.cq (((CQ.of (A := [22, 23, 24, 25]) (B := [186, 187, 188]) (c := c) (c' := c2) (q := q) (q' := q1) hK0.1 (fun i hi => hC1.1 i (out_3 hi))).uc ec31 (by decide)).uc ec32 (by decide)) (by decide) (by decide), hR.cq (((CQ.of (A := [22, 23, 24, 25]) (B := [186, 187, 188]) (c := c) (c' := c2) (q := q) (q' := q1) hK0.1 (fun i hi => hC1.1 i (out_3 hi))).uc ec31 (by decide)).uc ec32 (by decide)) (by decide) (by decide) (by decide) (by decide) (by decide) (by decide) (by decide), ⟨cr_bank okn (et ▸ hC1) hrow, cv22_F32, (cv23_F32).trans (by rw [show su (xw (backX x)) = su (undV (xa x)) from rfl, q_128]; rfl)⟩, acts_back okn okA hnx (by omega) hac hC1.1 (cv24_F32) (cv25_F32), hKx.cq (((CQ.of (A := [22, 23, 24, 25]) (B := [186, 187, 188]) (c := c) (c' := c2) (q := q) (q' := q1) hK0.1 (fun i hi => hC1.1 i (out_3 hi))).uc ec31 (by decide)).uc ec32 (by decide)) (by decide) (by decide) (by decide) (by decide)⟩, hS_F32⟩) dX9_back_143
      | succ k ih44 =>
        intro t q1 G htk hM1 hS1 hC1 H locs ls hC hl
        refine lv_iload_n B.1 B.2.1 dX9_back_44 rfl (lv_at hl 0 rfl) ?_
        refine lv_bipush (v := nI 10) B.1 B.2.1 dX9_back_45 (by decide) ?_
        refine lv_icmp_ge (tgt := 104) B.1 B.2.1 dX9_back_47 (by decide) (fun z => absurd z (nI_ge (by omega) (by omega))) (fun _ => ?_)
        refine lv_aload_n B.1 B.2.1 dX9_back_50 rfl (lv_at hl 1 rfl) ?_
        refine r_cg B hC (i := 175) (by decide) hM1.1 (C := RX9) (T := TX9) (n := 35) rfl iwX9_back_X9 19 (by decide) (index := 40) flX9_back_40 rfl (v := .ref (ad (186))) rfl dX9_back_51 ?_
        refine lv_iload_n B.1 B.2.1 dX9_back_54 rfl (lv_at hl 0 rfl) ?_
        refine lv_aload_n B.1 B.2.1 dX9_back_55 rfl (lv_at hl 1 rfl) ?_
        refine r_cg B hC (i := 175) (by decide) hM1.1 (C := RX9) (T := TX9) (n := 35) rfl iwX9_back_X9 26 (by decide) (index := 49) flX9_back_49 rfl (v := .ref (ad (189))) rfl dX9_back_56 ?_
        refine lv_iload_n B.1 B.2.1 dX9_back_59 rfl (lv_at hl 2 rfl) ?_
        refine lv_iload_n B.1 B.2.1 dX9_back_60 rfl (lv_at hl 0 rfl) ?_
        refine lv_iadd B.1 B.2.1 dX9_back_61 ?_
        refine r_tI (y := nI ((32 * ((nx + 23) % 24)) + t)) (nI_add _ _) ?_
        refine r_cald B hC (i := 189) (by decide) hM1.c189 (j := ((32 * ((nx + 23) % 24)) + t)) (by omega) (by decide) dX9_back_62 ?_
        refine r_tI (y := q1 189 ((32 * ((nx + 23) % 24)) + t)) rfl ?_
        refine r_cast B hC (i := 186) (by decide) hM1.c186 (j := t) (by omega) (by decide) dX9_back_63 ?_
        intro H locs hC
        obtain ⟨F31, eF31⟩ : ∃ f : Nat → va_E, f = va_up G 186 (.inl (g.2.2 0, 60, .inl (upd (q1 186) (t) (q1 189 ((32 * ((nx + 23) % 24)) + t))))) := ⟨_, rfl⟩
        have hC : Cu g lo 196 ad F31 ss ss.heap H locs := by rw [eF31]; exact hC
        obtain ⟨q31, eq31⟩ : ∃ f, f = va_up q1 186 (upd (q1 186) (t) (q1 189 ((32 * ((nx + 23) % 24)) + t))) := ⟨_, rfl⟩
        have hM_F31 : MC g ad F31 c2 q31 sm := by rw [eq31]; exact hM1.arr (by decide) (by decide) (by decide) (by decide) (by decide) eF31
        have hS_F31 : Same 175 196 F F31 := by rw [eF31]; exact hS1.up (by decide) (by decide)
        refine lv_aload_n B.1 B.2.1 dX9_back_64 rfl (lv_at hl 1 rfl) ?_
        refine r_cg B hC (i := 175) (by decide) hM_F31.1 (C := RX9) (T := TX9) (n := 35) rfl iwX9_back_X9 20 (by decide) (index := 43) flX9_back_43 rfl (v := .ref (ad (187))) rfl dX9_back_65 ?_
        refine lv_iload_n B.1 B.2.1 dX9_back_68 rfl (lv_at hl 0 rfl) ?_
        refine lv_aload_n B.1 B.2.1 dX9_back_69 rfl (lv_at hl 1 rfl) ?_
        refine r_cg B hC (i := 175) (by decide) hM_F31.1 (C := RX9) (T := TX9) (n := 35) rfl iwX9_back_X9 26 (by decide) (index := 49) flX9_back_49 rfl (v := .ref (ad (189))) rfl dX9_back_70 ?_
        refine lv_iload_n B.1 B.2.1 dX9_back_73 rfl (lv_at hl 2 rfl) ?_
        refine lv_bipush (v := nI 10) B.1 B.2.1 dX9_back_74 (by decide) ?_
        refine lv_iadd B.1 B.2.1 dX9_back_76 ?_
        refine r_tI (y := nI ((32 * ((nx + 23) % 24)) + 10)) (nI_add _ _) ?_
        refine lv_iload_n B.1 B.2.1 dX9_back_77 rfl (lv_at hl 0 rfl) ?_
        refine lv_iadd B.1 B.2.1 dX9_back_78 ?_
        refine r_tI (y := nI (((32 * ((nx + 23) % 24)) + 10) + t)) (nI_add _ _) ?_
        refine r_cald B hC (i := 189) (by decide) hM_F31.c189 (j := (((32 * ((nx + 23) % 24)) + 10) + t)) (by omega) (by decide) dX9_back_79 ?_
        refine r_tI (y := q31 189 (((32 * ((nx + 23) % 24)) + 10) + t)) rfl ?_
        refine r_cast B hC (i := 187) (by decide) hM_F31.c187 (j := t) (by omega) (by decide) dX9_back_80 ?_
        intro H locs hC
        obtain ⟨F32, eF32⟩ : ∃ f : Nat → va_E, f = va_up F31 187 (.inl (g.2.2 0, 60, .inl (upd (q31 187) (t) (q31 189 (((32 * ((nx + 23) % 24)) + 10) + t))))) := ⟨_, rfl⟩
        have hC : Cu g lo 196 ad F32 ss ss.heap H locs := by rw [eF32]; exact hC
        obtain ⟨q32, eq32⟩ : ∃ f, f = va_up q31 187 (upd (q31 187) (t) (q31 189 (((32 * ((nx + 23) % 24)) + 10) + t))) := ⟨_, rfl⟩
        have hM_F32 : MC g ad F32 c2 q32 sm := by rw [eq32]; exact hM_F31.arr (by decide) (by decide) (by decide) (by decide) (by decide) eF32
        have hS_F32 : Same 175 196 F F32 := by rw [eF32]; exact hS_F31.up (by decide) (by decide)
        refine lv_aload_n B.1 B.2.1 dX9_back_81 rfl (lv_at hl 1 rfl) ?_
        refine r_cg B hC (i := 175) (by decide) hM_F32.1 (C := RX9) (T := TX9) (n := 35) rfl iwX9_back_X9 21 (by decide) (index := 46) flX9_back_46 rfl (v := .ref (ad (188))) rfl dX9_back_82 ?_
        refine lv_iload_n B.1 B.2.1 dX9_back_85 rfl (lv_at hl 0 rfl) ?_
        refine lv_aload_n B.1 B.2.1 dX9_back_86 rfl (lv_at hl 1 rfl) ?_
        refine r_cg B hC (i := 175) (by decide) hM_F32.1 (C := RX9) (T := TX9) (n := 35) rfl iwX9_back_X9 26 (by decide) (index := 49) flX9_back_49 rfl (v := .ref (ad (189))) rfl dX9_back_87 ?_
        refine lv_iload_n B.1 B.2.1 dX9_back_90 rfl (lv_at hl 2 rfl) ?_
        refine lv_bipush (v := nI 20) B.1 B.2.1 dX9_back_91 (by decide) ?_
        refine lv_iadd B.1 B.2.1 dX9_back_93 ?_
        refine r_tI (y := nI ((32 * ((nx + 23) % 24)) + 20)) (nI_add _ _) ?_
        refine lv_iload_n B.1 B.2.1 dX9_back_94 rfl (lv_at hl 0 rfl) ?_
        refine lv_iadd B.1 B.2.1 dX9_back_95 ?_
        refine r_tI (y := nI (((32 * ((nx + 23) % 24)) + 20) + t)) (nI_add _ _) ?_
        refine r_cald B hC (i := 189) (by decide) hM_F32.c189 (j := (((32 * ((nx + 23) % 24)) + 20) + t)) (by omega) (by decide) dX9_back_96 ?_
        refine r_tI (y := q32 189 (((32 * ((nx + 23) % 24)) + 20) + t)) rfl ?_
        refine r_cast B hC (i := 188) (by decide) hM_F32.c188 (j := t) (by omega) (by decide) dX9_back_97 ?_
        intro H locs hC
        obtain ⟨F33, eF33⟩ : ∃ f : Nat → va_E, f = va_up F32 188 (.inl (g.2.2 0, 60, .inl (upd (q32 188) (t) (q32 189 (((32 * ((nx + 23) % 24)) + 20) + t))))) := ⟨_, rfl⟩
        have hC : Cu g lo 196 ad F33 ss ss.heap H locs := by rw [eF33]; exact hC
        obtain ⟨q33, eq33⟩ : ∃ f, f = va_up q32 188 (upd (q32 188) (t) (q32 189 (((32 * ((nx + 23) % 24)) + 20) + t))) := ⟨_, rfl⟩
        have hM_F33 : MC g ad F33 c2 q33 sm := by rw [eq33]; exact hM_F32.arr (by decide) (by decide) (by decide) (by decide) (by decide) eF33
        have hS_F33 : Same 175 196 F F33 := by rw [eF33]; exact hS_F32.up (by decide) (by decide)
        refine lv_iinc (v := nI (t + 1)) (lv' := [(2, .int (nI (t + 1))), (0, .ref (ad (175))), (1, .int (nI (32 * ((nx + 23) % 24))))]) B.1 B.2.1 dX9_back_98 hl (k := 0) rfl (nI_1 _) (by decide) rfl (fun ls hl => ?_)
        refine lv_goto (tgt := 44) B.1 B.2.1 dX9_back_101 (by decide) ?_
        exact ih44 (t + 1) q33 F33 (by omega) hM_F33 hS_F33 (cr_step hC1 (by decide) eq31 eq32 eq33) _ _ ls hC (lv_sub hl [0, 1, 2] rfl)
    exact loop44 10 0 q F2 (by omega) hM_F2 hS_F2 CR.z _ _ ls hC (lv_sub hl [0, 2, 1] rfl)
  · have q_4 : asz (xa x) = 0 := Classical.byContradiction (fun z => nI_ne0 (by omega) (by omega) c_4)
    refine lv_bipush (v := (-3)) B.1 B.2.1 dX9_back_7 (by decide) ?_
    exact r_eI B hC (v := (-3)) (⟨by rw [backA, if_pos q_4], by rw [backN, if_pos q_4]; exact ⟨_, _, _, hM, hX⟩, hS⟩) dX9_back_9
