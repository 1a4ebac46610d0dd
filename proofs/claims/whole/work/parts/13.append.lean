/-! TEXT.append: the bytes come one by one -/
def addB (v : TV) (c : Nat) : TV := (va_up (tb v) (tn v) c, tn v + 1)
def appTo (x : Int64) : Nat → TV → TV
  | 0, v => v
  | k + 1, v => appTo x k (addB v (byteOf x k))
theorem addB_ok {v : TV} (ok : TOK v) (h : tn v < 72) {c : Nat} (hc : c < 256) : TOK (addB v c) := by
  refine ⟨show tn v + 1 ≤ 72 by omega, fun j => ?_⟩
  show va_up (tb v) (tn v) c j < 256
  by_cases hj : j = tn v
  · rw [hj, va_up_self]; exact hc
  · rw [va_up_ne _ _ hj]; exact ok.2 j
theorem appTo_ok {x : Int64} : ∀ {k : Nat} {v : TV}, TOK v → tn v + k ≤ 72 → TOK (appTo x k v) ∧ tn (appTo x k v) = tn v + k
  | 0, v, ok, _ => ⟨ok, rfl⟩
  | k + 1, v, ok, h => by
    have q := appTo_ok (x := x) (k := k) (addB_ok ok (by omega) (byteOf_lt x k)) (show tn v + 1 + k ≤ 72 by omega)
    refine ⟨q.1, q.2.trans ?_⟩
    show tn v + 1 + k = tn v + (k + 1)
    omega
theorem upd_sB (f : Nat → Nat) (k x : Nat) {z : Int32} (h : z = sB x) : upd (fun j => sB (f j)) k z = fun j => sB (va_up f k x j) := by
  subst h
  funext j
  by_cases h : j = k
  · subst h; simp [upd, va_up]
  · simp [upd, va_up, h]
theorem nI_dec (k : Nat) : nI k + Int32.ofInt (-1) = nI k - nI 1 := by
  rw [Int32.sub_eq_add_neg]; rfl
theorem nI_p1 (k : Nat) : nI (k + 1) - nI 1 = nI k := pk_sub (by omega)
theorem iwX7_append_X7 : ∀ w ∈ u_ws RX7 TX7 2, w ∈ wsX7_append := by decide +kernel
theorem flX7_append_9 : Cond.fieldLink RX7 9 RX7 (TX7 0).2.1 (TX7 0).2.2.1 ∈ wsX7_append := by decide +kernel
theorem flX7_append_15 : Cond.fieldLink RX7 15 RX7 (TX7 1).2.1 (TX7 1).2.2.1 ∈ wsX7_append := by decide +kernel
set_option maxHeartbeats 4000000 in
set_option maxRecDepth 100000 in
theorem ctX7_append (l : Launch) (g : Gx) (lo : Nat) (ad : Nat → Nat) {F : Nat → va_E} {v : TV} (hT : TextC g ad F v) (ok : TOK v) {n : Nat} {x : Int64} (hn : n ≤ 8) (hr : tn v + n ≤ 72) : MV l g lo 196 ad yX7_append wsX7_append 0 0 [.ref (ad (1)), .int (nI n), .long (x)] F (fun F' => TextC g ad F' (appTo x n v) ∧ Same 1 3 F F') := by
  obtain ⟨h0, h1⟩ := id hT
  have okn := ok.1
  refine enter (cc := cX7_append) (maxL := 5) (ret := none) (own := RX7) (by decide +kernel) rfl rfl (Nat.le_of_ble_eq_true rfl) ?_
  intro pp ee ss mm below meth cc B hini hC ls hl
  have hl : lv_has ls 5 [(0, .ref (ad (1))), (1, .int (nI n)), (2, .long (x))] := hl
  refine lv_iload_n B.1 B.2.1 dX7_append_0 rfl (lv_at hl 1 rfl) ?_
  refine lv_iconst (v := nI 1) B.1 B.2.1 dX7_append_1 (by decide) ?_
  refine lv_isub B.1 B.2.1 dX7_append_2 ?_
  refine r_tI (y := nI n - nI 1) (rfl) ?_
  refine lv_istore (lv' := [(4, .int (nI n - nI 1)), (0, .ref (ad (1))), (1, .int (nI n)), (2, .long (x))]) B.1 B.2.1 dX7_append_3 hl (by decide) rfl (fun ls hl => ?_)
  have loop5 : ∀ (k : Nat) (u : TV) (G : Nat → va_E), (TextC g ad G u) → (TOK u) → (tn u + k ≤ 72) → (k ≤ 8) → (appTo x n v = appTo x k u) → (Same 1 3 F G) → ∀ (H : Heap) (locs : List Loc) (ls : Array Slot), Cu g lo 196 ad G ss ss.heap H locs → lv_has ls 5 [(4, .int (nI k - nI 1)), (0, .ref (ad (1))), (2, .long (x))] → W pp l ee { frames := 0, cells := 0, slots := 0, locals := 0 } ss mm ([.ref (ad (1)), .int (nI n), .long (x)] : List Value).toArray below meth cc H locs 0 0 (MQ below (va_Qv (fun F' => TextC g ad F' (appTo x n v) ∧ Same 1 3 F F') (fun F' t => Wd g lo 196 ad F' t) (fun q => lo ≤ q)) ([.ref (ad (1)), .int (nI n), .long (x)] : List Value).toArray ss 0 0 (fun q => lo ≤ q)) (F0 mm 5 ls []) := by
    intro k
    induction k with
    | zero =>
      intro u G hG hu hr hk8 he hs H locs ls hC hl
      obtain ⟨h0, h1⟩ := hG
      have hl : lv_has ls 5 [(4, .int (-1)), (0, .ref (ad (1))), (2, .long (x))] := by rw [show nI 0 - nI 1 = -1 from by decide] at hl; exact hl
      refine lv_iload B.1 B.2.1 dX7_append_5 (lv_at hl 0 rfl) ?_
      refine lv_if_lt (tgt := 56) B.1 B.2.1 dX7_append_7 (by decide) (fun _ => ?_) (fun z => absurd (by decide) z)
      exact r_eV B hC (⟨by rw [he]; exact ⟨h0, h1⟩, hs⟩) dX7_append_56
    | succ k ih5 =>
      intro u G hG hu hr hk8 he hs H locs ls hC hl
      obtain ⟨h0, h1⟩ := hG
      have hl : lv_has ls 5 [(4, .int (nI k)), (0, .ref (ad (1))), (2, .long (x))] := by rw [nI_p1 k] at hl; exact hl
      refine lv_iload B.1 B.2.1 dX7_append_5 (lv_at hl 0 rfl) ?_
      refine lv_if_lt (tgt := 56) B.1 B.2.1 dX7_append_7 (by decide) (fun z => absurd z (nI_pos (by omega))) (fun _ => ?_)
      refine lv_aload_n B.1 B.2.1 dX7_append_10 rfl (lv_at hl 1 rfl) ?_
      refine r_cg B hC (i := 1) (by decide) h0 (C := RX7) (T := TX7) (n := 2) rfl iwX7_append_X7 1 (by decide) (index := 15) flX7_append_15 rfl (v := .int (nI (tn u))) rfl dX7_append_11 ?_
      refine lv_aload_n B.1 B.2.1 dX7_append_14 rfl (lv_at hl 1 rfl) ?_
      refine r_cg B hC (i := 1) (by decide) h0 (C := RX7) (T := TX7) (n := 2) rfl iwX7_append_X7 0 (by decide) (index := 9) flX7_append_9 rfl (v := .ref (ad (2))) rfl dX7_append_15 ?_
      refine r_calen B hC (i := 2) (by decide) h1 1 rfl (n := 72) rfl dX7_append_18 ?_
      refine lv_icmp_ge (tgt := 56) B.1 B.2.1 dX7_append_19 (by decide) (fun z => absurd z (nI_ge (by omega) (by omega))) (fun _ => ?_)
      refine lv_aload_n B.1 B.2.1 dX7_append_22 rfl (lv_at hl 1 rfl) ?_
      refine r_cg B hC (i := 1) (by decide) h0 (C := RX7) (T := TX7) (n := 2) rfl iwX7_append_X7 0 (by decide) (index := 9) flX7_append_9 rfl (v := .ref (ad (2))) rfl dX7_append_23 ?_
      refine lv_aload_n B.1 B.2.1 dX7_append_26 rfl (lv_at hl 1 rfl) ?_
      refine r_cg B hC (i := 1) (by decide) h0 (C := RX7) (T := TX7) (n := 2) rfl iwX7_append_X7 1 (by decide) (index := 15) flX7_append_15 rfl (v := .int (nI (tn u))) rfl dX7_append_27 ?_
      refine lv_lload_n B.1 B.2.1 dX7_append_30 rfl (lv_at hl 2 rfl) ?_
      refine lv_bipush (v := nI 8) B.1 B.2.1 dX7_append_31 (by decide) ?_
      refine lv_iload B.1 B.2.1 dX7_append_33 (lv_at hl 0 rfl) ?_
      refine lv_imul B.1 B.2.1 dX7_append_35 ?_
      refine r_tI (y := nI (8 * k)) (pk_mul _ _) ?_
      refine lv_lshr (v := x >>> (Int32.toInt64 (nI (8 * k)) &&& 63)) B.1 B.2.1 dX7_append_36 (rfl) ?_
      refine lv_l2i (v := Int64.toInt32 (x >>> (Int32.toInt64 (nI (8 * k)) &&& 63))) B.1 B.2.1 dX7_append_37 (rfl) ?_
      refine lv_i2b (v := Int8.toInt32 (Int32.toInt8 (Int64.toInt32 (x >>> (Int32.toInt64 (nI (8 * k)) &&& 63))))) B.1 B.2.1 dX7_append_38 (rfl) ?_
      refine r_cbast B hC (i := 2) (by decide) h1 (j := (tn u)) (by omega) (by decide) dX7_append_39 ?_
      intro H locs hC
      obtain ⟨F21, eF21⟩ : ∃ f : Nat → va_E, f = va_up G (2) (.inl (g.2.2 1, 72, .inl (fun j => sB (va_up (tb u) (tn u) (byteOf x k) j)))) := ⟨_, rfl⟩
      have hC : Cu g lo 196 ad F21 ss ss.heap H locs := by rw [eF21]; exact (by rw [← upd_sB (tb u) (tn u) (byteOf x k) (bo_nar x (by omega))]; exact hC)
      have k2_F21 : F21 2 = .inl (g.2.2 1, 72, .inl (fun j => sB (va_up (tb u) (tn u) (byteOf x k) j))) := by rw [eF21]; exact va_up_self _ _ _
      have h0_F21 : F21 1 = .inr (7, [.ref (ad (2)), .int (nI (tn u))]) := by rw [eF21, va_up_ne _ _ (by decide)]; exact h0
      refine lv_aload_n B.1 B.2.1 dX7_append_40 rfl (lv_at hl 1 rfl) ?_
      refine lv_dup B.1 B.2.1 dX7_append_41 rfl ?_
      refine r_cg B hC (i := 1) (by decide) h0_F21 (C := RX7) (T := TX7) (n := 2) rfl iwX7_append_X7 1 (by decide) (index := 15) flX7_append_15 rfl (v := .int (nI (tn u))) rfl dX7_append_42 ?_
      refine lv_iconst (v := nI 1) B.1 B.2.1 dX7_append_45 (by decide) ?_
      refine lv_iadd B.1 B.2.1 dX7_append_46 ?_
      refine r_tI (y := nI ((tn u) + 1)) (nI_add _ _) ?_
      refine r_cp B hC (i := 1) (by decide) h0_F21 tyX7 tyX7_ok nmX7 (C := RX7) (T := TX7) rfl iwX7_append_X7 1 (by decide) (index := 15) flX7_append_15 rfl rfl (v := .int (nI ((tn u) + 1))) (rfl) (rfl) (Nat.le_of_ble_eq_true rfl) dX7_append_47 ?_
      intro H locs hC
      obtain ⟨F22, eF22⟩ : ∃ f : Nat → va_E, f = va_up F21 (1) (.inr (7, [.ref (ad (2)), .int (nI ((tn u) + 1))])) := ⟨_, rfl⟩
      have hC : Cu g lo 196 ad F22 ss ss.heap H locs := by rw [eF22]; exact hC
      have k1_F22 : F22 1 = .inr (7, [.ref (ad (2)), .int (nI ((tn u) + 1))]) := by rw [eF22]; exact va_up_self _ _ _
      have k2_F22 : F22 2 = .inl (g.2.2 1, 72, .inl (fun j => sB (va_up (tb u) (tn u) (byteOf x k) j))) := by rw [eF22, va_up_ne _ _ (by decide)]; exact k2_F21
      refine lv_iinc (v := nI k - nI 1) (lv' := [(4, .int (nI k - nI 1)), (0, .ref (ad (1))), (2, .long (x))]) B.1 B.2.1 dX7_append_50 hl (k := 0) rfl (nI_dec k) (by decide) rfl (fun ls hl => ?_)
      refine lv_goto (tgt := 5) B.1 B.2.1 dX7_append_53 (by decide) ?_
      exact ih5 (addB u (byteOf x k)) F22 ⟨k1_F22, k2_F22⟩ (addB_ok hu (by omega) (byteOf_lt x k)) (show tn u + 1 + k ≤ 72 by omega) (by omega) he (by rw [eF22]; exact Same.up (by rw [eF21]; exact Same.up (Same.wide hs (by omega) (by omega)) (by omega) (by omega)) (by omega) (by omega)) _ _ ls hC (lv_sub hl [0, 1, 2] rfl)
  exact loop5 n v F hT ok hr hn rfl Same.rf _ _ ls hC (lv_sub hl [0, 1, 3] rfl)
