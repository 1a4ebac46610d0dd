/-! THE REFERENCE: part, share, count, storm -/
set_option maxHeartbeats 4000000 in
set_option maxRecDepth 100000 in
theorem ctX9_part (l : Launch) (g : Gx) (lo : Nat) (ad : Nat → Nat) {F : Nat → va_E} {a b : Nat} {u : Bool} (ha : a < 2 ^ 62) (hb : b < 2 ^ 62) (hb1 : 1 ≤ b) : ML l g lo 196 ad yX9_part wsX9_part 0 0 [.long (lN a), .long (lN b), .int (bI u)] F (fun r F' => r = lN (partA a b u) ∧ F' = F) := by
  refine enter (cc := cX9_part) (maxL := 11) (ret := some .long) (own := RX9) (by decide +kernel) rfl rfl (Nat.le_of_ble_eq_true rfl) ?_
  intro pp ee ss mm below meth cc B hini hC ls hl
  have hl : lv_has ls 11 [(0, .long (lN a)), (2, .long (lN b)), (4, .int (bI u))] := hl
  refine lv_lload_n B.1 B.2.1 dX9_part_0 rfl (lv_at hl 0 rfl) ?_
  refine lv_lstore (lv' := [(5, .long (lN a)), (0, .long (lN a)), (2, .long (lN b)), (4, .int (bI u))]) B.1 B.2.1 dX9_part_1 hl (by decide) rfl (fun ls hl => ?_)
  refine lv_lload_n B.1 B.2.1 dX9_part_3 rfl (lv_at hl 2 rfl) ?_
  refine lv_lstore (lv' := [(7, .long (lN b)), (5, .long (lN a)), (0, .long (lN a)), (2, .long (lN b)), (4, .int (bI u))]) B.1 B.2.1 dX9_part_4 hl (by decide) rfl (fun ls hl => ?_)
  have loop6 : ∀ (k : Nat) (x y : Nat), (y ≤ k) → (x < 2 ^ 62) → (y < 2 ^ 62) → (Nat.gcd x y = Nat.gcd a b) → ∀ (H : Heap) (locs : List Loc) (ls : Array Slot), Cu g lo 196 ad F ss ss.heap H locs → lv_has ls 11 [(7, .long (lN y)), (5, .long (lN x)), (0, .long (lN a)), (2, .long (lN b)), (4, .int (bI u))] → W pp l ee { frames := 0, cells := 0, slots := 0, locals := 0 } ss mm ([.long (lN a), .long (lN b), .int (bI u)] : List Value).toArray below meth cc H locs 0 0 (MQ below (va_Ql (fun r F' => r = lN (partA a b u) ∧ F' = F) (fun F' t => Wd g lo 196 ad F' t) (fun q => lo ≤ q)) ([.long (lN a), .long (lN b), .int (bI u)] : List Value).toArray ss 0 0 (fun q => lo ≤ q)) (F0 mm 6 ls []) := by
    intro k
    induction k with
    | zero =>
      intro x y hyk hx hy hg H locs ls hC hl
      refine lv_lload B.1 B.2.1 dX9_part_6 (lv_at hl 0 rfl) ?_
      refine lv_lconst (v := lN 0) B.1 B.2.1 dX9_part_8 (by decide) ?_
      refine W.lcmp B.1 B.2.1 dX9_part_9 ?_
      refine lv_if_eq (tgt := 31) B.1 B.2.1 dX9_part_10 (by decide) (fun _ => ?_) (fun z => absurd ((cmp_eq (by omega) (by decide)).mpr (by omega)) z)
      have ey : y = 0 := by omega
      have ex : x = Nat.gcd a b := by rw [ey, Nat.gcd_zero_right] at hg; exact hg
      have hx1 : 0 < x := by rw [ex]; exact Nat.gcd_pos_of_pos_right a (by omega)
      refine lv_iload B.1 B.2.1 dX9_part_31 (lv_at hl 4 rfl) ?_
      refine lv_if_eq (tgt := 43) B.1 B.2.1 dX9_part_33 (by decide) (fun c_33 => ?_) (fun c_33 => ?_)
      · have q_33 : u = false := bI_f.mp c_33
        refine lv_lload_n B.1 B.2.1 dX9_part_43 rfl (lv_at hl 3 rfl) ?_
        refine lv_lload B.1 B.2.1 dX9_part_44 (lv_at hl 1 rfl) ?_
        refine lv_ldiv B.1 B.2.1 dX9_part_46 (fun z => absurd ((pk_lEQ (b := 0) (by omega) (by decide)).mp z) (by omega)) ?_
        refine r_tL (y := lN (b / x)) (pk_lDiv (by omega) (by omega) (by omega)) ?_
        exact r_eL B hC (v := lN (b / x)) (⟨by rw [partA, if_neg (by rw [q_33]; decide), ← ex], rfl⟩) dX9_part_47
      · have q_33 : u = true := bI_t.mp c_33
        refine lv_lload_n B.1 B.2.1 dX9_part_36 rfl (lv_at hl 2 rfl) ?_
        refine lv_lload B.1 B.2.1 dX9_part_37 (lv_at hl 1 rfl) ?_
        refine lv_ldiv B.1 B.2.1 dX9_part_39 (fun z => absurd ((pk_lEQ (b := 0) (by omega) (by decide)).mp z) (by omega)) ?_
        refine r_tL (y := lN (a / x)) (pk_lDiv (by omega) (by omega) (by omega)) ?_
        refine lv_goto (tgt := 47) B.1 B.2.1 dX9_part_40 (by decide) ?_
        exact r_eL B hC (v := lN (a / x)) (⟨by rw [partA, if_pos q_33, ← ex], rfl⟩) dX9_part_47
    | succ k ih6 =>
      intro x y hyk hx hy hg H locs ls hC hl
      refine lv_lload B.1 B.2.1 dX9_part_6 (lv_at hl 0 rfl) ?_
      refine lv_lconst (v := lN 0) B.1 B.2.1 dX9_part_8 (by decide) ?_
      refine W.lcmp B.1 B.2.1 dX9_part_9 ?_
      refine lv_if_eq (tgt := 31) B.1 B.2.1 dX9_part_10 (by decide) (fun c_10 => ?_) (fun c_10 => ?_)
      · have q_10 := (cmp_eq (by omega) (by decide)).mp c_10
        have ey : y = 0 := by omega
        have ex : x = Nat.gcd a b := by rw [ey, Nat.gcd_zero_right] at hg; exact hg
        have hx1 : 0 < x := by rw [ex]; exact Nat.gcd_pos_of_pos_right a (by omega)
        refine lv_iload B.1 B.2.1 dX9_part_31 (lv_at hl 4 rfl) ?_
        refine lv_if_eq (tgt := 43) B.1 B.2.1 dX9_part_33 (by decide) (fun c_33 => ?_) (fun c_33 => ?_)
        · have q_33 : u = false := bI_f.mp c_33
          refine lv_lload_n B.1 B.2.1 dX9_part_43 rfl (lv_at hl 3 rfl) ?_
          refine lv_lload B.1 B.2.1 dX9_part_44 (lv_at hl 1 rfl) ?_
          refine lv_ldiv B.1 B.2.1 dX9_part_46 (fun z => absurd ((pk_lEQ (b := 0) (by omega) (by decide)).mp z) (by omega)) ?_
          refine r_tL (y := lN (b / x)) (pk_lDiv (by omega) (by omega) (by omega)) ?_
          exact r_eL B hC (v := lN (b / x)) (⟨by rw [partA, if_neg (by rw [q_33]; decide), ← ex], rfl⟩) dX9_part_47
        · have q_33 : u = true := bI_t.mp c_33
          refine lv_lload_n B.1 B.2.1 dX9_part_36 rfl (lv_at hl 2 rfl) ?_
          refine lv_lload B.1 B.2.1 dX9_part_37 (lv_at hl 1 rfl) ?_
          refine lv_ldiv B.1 B.2.1 dX9_part_39 (fun z => absurd ((pk_lEQ (b := 0) (by omega) (by decide)).mp z) (by omega)) ?_
          refine r_tL (y := lN (a / x)) (pk_lDiv (by omega) (by omega) (by omega)) ?_
          refine lv_goto (tgt := 47) B.1 B.2.1 dX9_part_40 (by decide) ?_
          exact r_eL B hC (v := lN (a / x)) (⟨by rw [partA, if_pos q_33, ← ex], rfl⟩) dX9_part_47
      · have q_10 : ¬ y = 0 := fun z => c_10 ((cmp_eq (by omega) (by decide)).mpr z)
        refine lv_lload B.1 B.2.1 dX9_part_13 (lv_at hl 1 rfl) ?_
        refine lv_lload B.1 B.2.1 dX9_part_15 (lv_at hl 0 rfl) ?_
        refine lv_lrem B.1 B.2.1 dX9_part_17 (fun z => q_10 ((pk_lEQ (b := 0) (by omega) (by decide)).mp z)) ?_
        refine r_tL (y := lN (x % y)) (pk_lRem (by omega) (by omega) (by omega)) ?_
        refine lv_lstore (lv' := [(9, .long (lN (x % y))), (7, .long (lN y)), (5, .long (lN x)), (0, .long (lN a)), (2, .long (lN b)), (4, .int (bI u))]) B.1 B.2.1 dX9_part_18 hl (by decide) rfl (fun ls hl => ?_)
        refine lv_lload B.1 B.2.1 dX9_part_20 (lv_at hl 1 rfl) ?_
        refine lv_lstore (lv' := [(5, .long (lN y)), (9, .long (lN (x % y))), (7, .long (lN y)), (0, .long (lN a)), (2, .long (lN b)), (4, .int (bI u))]) B.1 B.2.1 dX9_part_22 hl (by decide) rfl (fun ls hl => ?_)
        refine lv_lload B.1 B.2.1 dX9_part_24 (lv_at hl 1 rfl) ?_
        refine lv_lstore (lv' := [(7, .long (lN (x % y))), (5, .long (lN y)), (9, .long (lN (x % y))), (0, .long (lN a)), (2, .long (lN b)), (4, .int (bI u))]) B.1 B.2.1 dX9_part_26 hl (by decide) rfl (fun ls hl => ?_)
        refine lv_goto (tgt := 6) B.1 B.2.1 dX9_part_28 (by decide) ?_
        exact ih6 y (x % y) (by have := Nat.mod_lt x (show 0 < y by omega); omega) hy (Nat.lt_trans (Nat.mod_lt _ (by omega)) hy) (by rw [← hg, Nat.gcd_comm x y, Nat.gcd_rec y x, Nat.gcd_comm]) _ _ ls hC (lv_sub hl [0, 1, 3, 4, 5] rfl)
  exact loop6 b a b (Nat.le_refl _) ha hb rfl _ _ ls hC (lv_sub hl [0, 1, 2, 3, 4] rfl)
theorem isSh_02 (s : Int32) : isSh s = is02 s := rfl
theorem isSh_j {s : Int32} (q : isSh s = true) : ∃ j, j < 3 ∧ s = nI j := by
  simp only [isSh, Bool.or_eq_true, decide_eq_true_eq] at q
  rcases q with e | e | e
  · exact ⟨0, by decide, e⟩
  · exact ⟨1, by decide, e⟩
  · exact ⟨2, by decide, e⟩
theorem iwX9_share_X9 : ∀ w ∈ u_ws RX9 TX9 35, w ∈ wsX9_share := by decide +kernel
theorem flX9_share_34 : Cond.fieldLink RX9 34 RX9 (TX9 11).2.1 (TX9 11).2.2.1 ∈ wsX9_share := by decide +kernel
theorem flX9_share_40 : Cond.fieldLink RX9 40 RX9 (TX9 19).2.1 (TX9 19).2.2.1 ∈ wsX9_share := by decide +kernel
theorem flX9_share_43 : Cond.fieldLink RX9 43 RX9 (TX9 20).2.1 (TX9 20).2.2.1 ∈ wsX9_share := by decide +kernel
theorem flX9_share_114 : Cond.fieldLink RX9 114 RX9 (TX9 12).2.1 (TX9 12).2.2.1 ∈ wsX9_share := by decide +kernel
set_option maxHeartbeats 4000000 in
set_option maxRecDepth 100000 in
theorem ctX9_share (l : Launch) (g : Gx) (lo : Nat) (ad : Nat → Nat) {F : Nat → va_E} {c : Nat → Int32} {q : Nat → Nat → Int32} {sm : Nat → Int64} {x : XV} (hM : MC g ad F c q sm) (hX : XR x c q) (okx : XOK x) {s : Int32} {u : Bool} : MI l g lo 196 ad yX9_share wsX9_share 1 30 [.ref (ad (175)), .int (s), .int (bI u)] F (fun r F' => r = shareA x s u ∧ F' = F) := by
  obtain ⟨hTx, hR, ⟨hB, hwa, hsu⟩, hAx, hKx⟩ := id hX
  obtain ⟨okT, ok, hw, okA, okS, okAu, okSu⟩ := id okx
  have okn := ok.1
  have okp := ok.2.1
  have okh := ok.2.2.1
  have okt := okT.1
  have hS : Same 175 196 F F := Same.rf
  have hb : 0 ≤ 50 := by decide
  have hwa3 := hw.2.1
  refine enter (cc := cX9_share) (maxL := 6) (ret := some .int) (own := RX9) (by decide +kernel) rfl rfl (Nat.le_of_ble_eq_true rfl) ?_
  intro pp ee ss mm below meth cc B hini hC ls hl
  have hl : lv_has ls 6 [(0, .ref (ad (175))), (1, .int (s)), (2, .int (bI u))] := hl
  refine lv_iload_n B.1 B.2.1 dX9_share_0 rfl (lv_at hl 1 rfl) ?_
  refine lv_i2l (v := Int32.toInt64 (s)) B.1 B.2.1 dX9_share_1 (rfl) ?_
  refine lv_lconst (v := lN 0) B.1 B.2.1 dX9_share_2 (by decide) ?_
  refine lv_ldc2 (own := RX9) (v := 2) B.1 B.2.1 B.2.2.2.1 (B.2.2.2.2.1 (.constantLong RX9 187 (2)) (by decide +kernel)) dX9_share_3 ?_
  refine r_scalli B hC hl.1 (As := [.long (Int32.toInt64 (s)), .long (lN 0), .long (2)]) (ctX9_in l g lo ad (v := Int32.toInt64 s) (a := lN 0) (b := 2)) gX9_share_X9_in rfl (n := 3) rfl (by decide +kernel) ⟨Nat.le_of_ble_eq_true rfl, Nat.le_of_ble_eq_true rfl⟩ ⟨Nat.zero_le _, Nat.zero_le _⟩ rfl (Nat.le_of_ble_eq_true rfl) dX9_share_6 (fun r6 F1 H locs hp6 hC => ?_)
  obtain ⟨er, eF⟩ := hp6
  subst er
  rw [eF] at hC
  refine lv_if_ne (tgt := 14) B.1 B.2.1 dX9_share_9 (by decide) (fun c_9 => ?_) (fun c_9 => ?_)
  · have q_9 : isSh s = true := by rw [isSh_02, ← inB_02]; exact bI_t.mp c_9
    obtain ⟨j, hj, ej⟩ := isSh_j q_9
    rw [ej] at hl
    refine lv_iconst (v := nI 0) B.1 B.2.1 dX9_share_14 (by decide) ?_
    refine lv_istore_n (lv' := [(3, .int (nI 0)), (0, .ref (ad (175))), (1, .int (nI j)), (2, .int (bI u))]) B.1 B.2.1 dX9_share_15 rfl hl (by decide) rfl (fun ls hl => ?_)
    refine lv_iconst (v := nI 0) B.1 B.2.1 dX9_share_16 (by decide) ?_
    refine lv_istore (lv' := [(4, .int (nI 0)), (3, .int (nI 0)), (0, .ref (ad (175))), (1, .int (nI j)), (2, .int (bI u))]) B.1 B.2.1 dX9_share_17 hl (by decide) rfl (fun ls hl => ?_)
    refine lv_iconst (v := nI 0) B.1 B.2.1 dX9_share_19 (by decide) ?_
    refine lv_istore (lv' := [(5, .int (nI 0)), (4, .int (nI 0)), (3, .int (nI 0)), (0, .ref (ad (175))), (1, .int (nI j)), (2, .int (bI u))]) B.1 B.2.1 dX9_share_20 hl (by decide) rfl (fun ls hl => ?_)
    have loop22 : ∀ (k : Nat) (t a1 a2 : Nat), (t + k = hn (xh x)) → (a1 = shTT (xh x) (xw x) j t) → (a2 = alT (xw x) t) → (a1 ≤ 9 * t) → (a2 ≤ 9 * t) → ∀ (H : Heap) (locs : List Loc) (ls : Array Slot), Cu g lo 196 ad F ss ss.heap H locs → lv_has ls 6 [(5, .int (nI t)), (4, .int (nI a2)), (3, .int (nI a1)), (0, .ref (ad (175))), (1, .int (nI j)), (2, .int (bI u))] → W pp l ee { frames := 1, cells := 0, slots := 0, locals := 30 } ss mm ([.ref (ad (175)), .int (s), .int (bI u)] : List Value).toArray below meth cc H locs 0 0 (MQ below (va_Qi (fun r F' => r = shareA x s u ∧ F' = F) (fun F' t => Wd g lo 196 ad F' t) (fun q => lo ≤ q)) ([.ref (ad (175)), .int (s), .int (bI u)] : List Value).toArray ss 0 0 (fun q => lo ≤ q)) (F0 mm 22 ls []) := by
      intro k
      induction k with
      | zero =>
        intro t a1 a2 htk h1 h2 hb1 hb2 H locs ls hC hl
        refine lv_iload B.1 B.2.1 dX9_share_22 (lv_at hl 0 rfl) ?_
        refine lv_aload_n B.1 B.2.1 dX9_share_24 rfl (lv_at hl 3 rfl) ?_
        refine r_cg B hC (i := 175) (by decide) hM.1 (C := RX9) (T := TX9) (n := 35) rfl iwX9_share_X9 12 (by decide) (index := 114) flX9_share_114 rfl (v := .int (c 12)) rfl dX9_share_25 ?_
        refine r_tI (y := nI (hn (xh x))) (hR.1) ?_
        refine lv_icmp_ge (tgt := 102) B.1 B.2.1 dX9_share_28 (by decide) (fun _ => ?_) (fun z => absurd (nI_le (by omega) (by omega)) z)
        refine lv_iload B.1 B.2.1 dX9_share_102 (lv_at hl 1 rfl) ?_
        refine lv_if_ne (tgt := 119) B.1 B.2.1 dX9_share_104 (by decide) (fun c_104 => ?_) (fun c_104 => ?_)
        · have q_104 : ¬ a2 = 0 := fun z => c_104 (nI_eq0 z)
          refine lv_iload_n B.1 B.2.1 dX9_share_119 rfl (lv_at hl 2 rfl) ?_
          refine lv_i2l (v := lN a1) B.1 B.2.1 dX9_share_120 (nI_l (by omega)) ?_
          refine lv_iload B.1 B.2.1 dX9_share_121 (lv_at hl 1 rfl) ?_
          refine lv_i2l (v := lN a2) B.1 B.2.1 dX9_share_123 (nI_l (by omega)) ?_
          refine lv_iload_n B.1 B.2.1 dX9_share_124 rfl (lv_at hl 5 rfl) ?_
          refine r_scalll B hC hl.1 (As := [.long (lN a1), .long (lN a2), .int (bI u)]) (ctX9_part l g lo ad (a := a1) (b := a2) (u := u) (by omega) (by omega) (by omega)) gX9_share_X9_part rfl (n := 3) rfl (by decide +kernel) ⟨Nat.le_of_ble_eq_true rfl, Nat.le_of_ble_eq_true rfl⟩ ⟨Nat.zero_le _, Nat.zero_le _⟩ rfl (Nat.le_of_ble_eq_true rfl) dX9_share_125 (fun r125 F1 H locs hp125 hC => ?_)
          obtain ⟨er, eF⟩ := hp125
          subst er
          rw [eF] at hC
          refine lv_l2i (v := nI (partA a1 a2 u)) B.1 B.2.1 dX9_share_128 (lN_i _) ?_
          exact r_eI B hC (v := nI (partA a1 a2 u)) (⟨by rw [shareA, if_pos q_9, ej, ix_n (by omega), ← sh_eq ok hw, ← al_eq ok hw, show hn (xh x) = t by omega, ← h1, ← h2, part_eq (by omega) (by omega)], rfl⟩) dX9_share_129
        · have q_104 : a2 = 0 := Classical.byContradiction (fun z => nI_ne0 (by omega) (by omega) c_104)
          refine lv_iload_n B.1 B.2.1 dX9_share_107 rfl (lv_at hl 5 rfl) ?_
          refine lv_if_eq (tgt := 115) B.1 B.2.1 dX9_share_108 (by decide) (fun c_108 => ?_) (fun c_108 => ?_)
          · have q_108 : u = false := bI_f.mp c_108
            refine lv_iconst (v := nI 1) B.1 B.2.1 dX9_share_115 (by decide) ?_
            refine lv_goto (tgt := 129) B.1 B.2.1 dX9_share_116 (by decide) ?_
            exact r_eI B hC (v := nI 1) (⟨by rw [shareA, if_pos q_9, ej, ix_n (by omega), ← sh_eq ok hw, ← al_eq ok hw, show hn (xh x) = t by omega, ← h1, ← h2, share_0 q_104, if_neg (by rw [q_108]; decide)], rfl⟩) dX9_share_129
          · have q_108 : u = true := bI_t.mp c_108
            refine lv_iconst (v := nI 0) B.1 B.2.1 dX9_share_111 (by decide) ?_
            refine lv_goto (tgt := 129) B.1 B.2.1 dX9_share_112 (by decide) ?_
            exact r_eI B hC (v := nI 0) (⟨by rw [shareA, if_pos q_9, ej, ix_n (by omega), ← sh_eq ok hw, ← al_eq ok hw, show hn (xh x) = t by omega, ← h1, ← h2, share_0 q_104, if_pos q_108], rfl⟩) dX9_share_129
      | succ k ih22 =>
        intro t a1 a2 htk h1 h2 hb1 hb2 H locs ls hC hl
        refine lv_iload B.1 B.2.1 dX9_share_22 (lv_at hl 0 rfl) ?_
        refine lv_aload_n B.1 B.2.1 dX9_share_24 rfl (lv_at hl 3 rfl) ?_
        refine r_cg B hC (i := 175) (by decide) hM.1 (C := RX9) (T := TX9) (n := 35) rfl iwX9_share_X9 12 (by decide) (index := 114) flX9_share_114 rfl (v := .int (c 12)) rfl dX9_share_25 ?_
        refine r_tI (y := nI (hn (xh x))) (hR.1) ?_
        refine lv_icmp_ge (tgt := 102) B.1 B.2.1 dX9_share_28 (by decide) (fun z => absurd z (nI_ge (by omega) (by omega))) (fun _ => ?_)
        have hlt := (hw.1 t).2.1
        have hwt := (hw.1 t).1
        refine lv_iload B.1 B.2.1 dX9_share_31 (lv_at hl 1 rfl) ?_
        refine lv_aload_n B.1 B.2.1 dX9_share_33 rfl (lv_at hl 3 rfl) ?_
        refine r_cg B hC (i := 175) (by decide) hM.1 (C := RX9) (T := TX9) (n := 35) rfl iwX9_share_X9 19 (by decide) (index := 40) flX9_share_40 rfl (v := .ref (ad (186))) rfl dX9_share_34 ?_
        refine lv_iload B.1 B.2.1 dX9_share_37 (lv_at hl 0 rfl) ?_
        refine r_cald B hC (i := 186) (by decide) hM.c186 (j := t) (by omega) (by decide) dX9_share_39 ?_
        refine r_tI (y := q 186 t) rfl ?_
        refine r_tI (y := nI (wh (xw x) t)) ((hB.z (by omega)).1) ?_
        refine lv_bipush (v := nI 100) B.1 B.2.1 dX9_share_40 (by decide) ?_
        refine lv_icmp_ge (tgt := 55) B.1 B.2.1 dX9_share_42 (by decide) (fun c_42 => ?_) (fun c_42 => ?_)
        · have q_42 : 100 ≤ (wh (xw x) t) := (nI_leI (by omega) (by omega)).mp c_42
          refine lv_iconst (v := nI 0) B.1 B.2.1 dX9_share_55 (by decide) ?_
          refine lv_iadd B.1 B.2.1 dX9_share_56 ?_
          refine r_tI (y := nI (a2 + 0)) (nI_add _ _) ?_
          refine lv_istore (lv' := [(4, .int (nI (a2 + 0))), (5, .int (nI t)), (3, .int (nI a1)), (0, .ref (ad (175))), (1, .int (nI j)), (2, .int (bI u))]) B.1 B.2.1 dX9_share_57 hl (by decide) rfl (fun ls hl => ?_)
          refine lv_iload_n B.1 B.2.1 dX9_share_59 rfl (lv_at hl 2 rfl) ?_
          refine lv_aload_n B.1 B.2.1 dX9_share_60 rfl (lv_at hl 3 rfl) ?_
          refine r_cg B hC (i := 175) (by decide) hM.1 (C := RX9) (T := TX9) (n := 35) rfl iwX9_share_X9 19 (by decide) (index := 40) flX9_share_40 rfl (v := .ref (ad (186))) rfl dX9_share_61 ?_
          refine lv_iload B.1 B.2.1 dX9_share_64 (lv_at hl 1 rfl) ?_
          refine r_cald B hC (i := 186) (by decide) hM.c186 (j := t) (by omega) (by decide) dX9_share_66 ?_
          refine r_tI (y := q 186 t) rfl ?_
          refine r_tI (y := nI (wh (xw x) t)) ((hB.z (by omega)).1) ?_
          refine lv_bipush (v := nI 100) B.1 B.2.1 dX9_share_67 (by decide) ?_
          refine lv_icmp_ge (tgt := 93) B.1 B.2.1 dX9_share_69 (by decide) (fun _ => ?_) (fun z => absurd (nI_le (by omega) (by omega)) z)
          refine lv_iconst (v := nI 0) B.1 B.2.1 dX9_share_93 (by decide) ?_
          refine lv_iadd B.1 B.2.1 dX9_share_94 ?_
          refine r_tI (y := nI (a1 + 0)) (nI_add _ _) ?_
          refine lv_istore_n (lv' := [(3, .int (nI (a1 + 0))), (4, .int (nI (a2 + 0))), (5, .int (nI t)), (0, .ref (ad (175))), (1, .int (nI j)), (2, .int (bI u))]) B.1 B.2.1 dX9_share_95 rfl hl (by decide) rfl (fun ls hl => ?_)
          refine lv_iinc (v := nI (t + 1)) (lv' := [(5, .int (nI (t + 1))), (3, .int (nI (a1 + 0))), (4, .int (nI (a2 + 0))), (0, .ref (ad (175))), (1, .int (nI j)), (2, .int (bI u))]) B.1 B.2.1 dX9_share_96 hl (k := 2) rfl (nI_1 _) (by decide) rfl (fun ls hl => ?_)
          refine lv_goto (tgt := 22) B.1 B.2.1 dX9_share_99 (by decide) ?_
          exact ih22 (t + 1) (a1 + 0) (a2 + 0) (by omega) (by show a1 + 0 = shTT (xh x) (xw x) j t + (if wh (xw x) t < 100 then _ else 0); rw [h1]; rw [if_neg (by omega)]) (by show a2 + 0 = alT (xw x) t + (if wh (xw x) t < 100 then _ else 0); rw [h2]; rw [if_neg (by omega)]) (by omega) (by omega) _ _ ls hC (lv_sub hl [0, 2, 1, 3, 4, 5] rfl)
        · have q_42 : ¬ 100 ≤ (wh (xw x) t) := fun z => c_42 ((nI_leI (by omega) (by omega)).mpr z)
          refine lv_aload_n B.1 B.2.1 dX9_share_45 rfl (lv_at hl 3 rfl) ?_
          refine r_cg B hC (i := 175) (by decide) hM.1 (C := RX9) (T := TX9) (n := 35) rfl iwX9_share_X9 20 (by decide) (index := 43) flX9_share_43 rfl (v := .ref (ad (187))) rfl dX9_share_46 ?_
          refine lv_iload B.1 B.2.1 dX9_share_49 (lv_at hl 0 rfl) ?_
          refine r_cald B hC (i := 187) (by decide) hM.c187 (j := t) (by omega) (by decide) dX9_share_51 ?_
          refine r_tI (y := q 187 t) rfl ?_
          refine r_tI (y := nI (ln (xw x) t)) ((hB.z (by omega)).2.1) ?_
          refine lv_goto (tgt := 56) B.1 B.2.1 dX9_share_52 (by decide) ?_
          refine lv_iadd B.1 B.2.1 dX9_share_56 ?_
          refine r_tI (y := nI (a2 + (ln (xw x) t))) (nI_add _ _) ?_
          refine lv_istore (lv' := [(4, .int (nI (a2 + (ln (xw x) t)))), (5, .int (nI t)), (3, .int (nI a1)), (0, .ref (ad (175))), (1, .int (nI j)), (2, .int (bI u))]) B.1 B.2.1 dX9_share_57 hl (by decide) rfl (fun ls hl => ?_)
          refine lv_iload_n B.1 B.2.1 dX9_share_59 rfl (lv_at hl 2 rfl) ?_
          refine lv_aload_n B.1 B.2.1 dX9_share_60 rfl (lv_at hl 3 rfl) ?_
          refine r_cg B hC (i := 175) (by decide) hM.1 (C := RX9) (T := TX9) (n := 35) rfl iwX9_share_X9 19 (by decide) (index := 40) flX9_share_40 rfl (v := .ref (ad (186))) rfl dX9_share_61 ?_
          refine lv_iload B.1 B.2.1 dX9_share_64 (lv_at hl 1 rfl) ?_
          refine r_cald B hC (i := 186) (by decide) hM.c186 (j := t) (by omega) (by decide) dX9_share_66 ?_
          refine r_tI (y := q 186 t) rfl ?_
          refine r_tI (y := nI (wh (xw x) t)) ((hB.z (by omega)).1) ?_
          refine lv_bipush (v := nI 100) B.1 B.2.1 dX9_share_67 (by decide) ?_
          refine lv_icmp_ge (tgt := 93) B.1 B.2.1 dX9_share_69 (by decide) (fun z => absurd z (nI_ge (by omega) (by omega))) (fun _ => ?_)
          refine lv_aload_n B.1 B.2.1 dX9_share_72 rfl (lv_at hl 3 rfl) ?_
          refine r_cg B hC (i := 175) (by decide) hM.1 (C := RX9) (T := TX9) (n := 35) rfl iwX9_share_X9 11 (by decide) (index := 34) flX9_share_34 rfl (v := .ref (ad (184))) rfl dX9_share_73 ?_
          refine lv_iload B.1 B.2.1 dX9_share_76 (lv_at hl 1 rfl) ?_
          refine r_cald B hC (i := 184) (by decide) hM.c184 (j := t) (by omega) (by decide) dX9_share_78 ?_
          refine r_tI (y := q 184 t) rfl ?_
          refine r_tI (y := oI (hsh (xh x) t)) ((hR.2.2.2 t (by omega)).2.2.2) ?_
          refine lv_iload_n B.1 B.2.1 dX9_share_79 rfl (lv_at hl 4 rfl) ?_
          refine lv_icmp_ne (tgt := 93) B.1 B.2.1 dX9_share_80 (by decide) (fun c_80 => ?_) (fun c_80 => ?_)
          · have q_80 : ¬ hsh (xh x) t = some j := fun z => c_80 ((oI_eq (fun r hr => Nat.lt_trans (ok.2.2.2.2.2 t r hr) (by decide)) (by omega)).mpr z)
            refine lv_iconst (v := nI 0) B.1 B.2.1 dX9_share_93 (by decide) ?_
            refine lv_iadd B.1 B.2.1 dX9_share_94 ?_
            refine r_tI (y := nI (a1 + 0)) (nI_add _ _) ?_
            refine lv_istore_n (lv' := [(3, .int (nI (a1 + 0))), (4, .int (nI (a2 + (ln (xw x) t)))), (5, .int (nI t)), (0, .ref (ad (175))), (1, .int (nI j)), (2, .int (bI u))]) B.1 B.2.1 dX9_share_95 rfl hl (by decide) rfl (fun ls hl => ?_)
            refine lv_iinc (v := nI (t + 1)) (lv' := [(5, .int (nI (t + 1))), (3, .int (nI (a1 + 0))), (4, .int (nI (a2 + (ln (xw x) t)))), (0, .ref (ad (175))), (1, .int (nI j)), (2, .int (bI u))]) B.1 B.2.1 dX9_share_96 hl (k := 2) rfl (nI_1 _) (by decide) rfl (fun ls hl => ?_)
            refine lv_goto (tgt := 22) B.1 B.2.1 dX9_share_99 (by decide) ?_
            exact ih22 (t + 1) (a1 + 0) (a2 + ln (xw x) t) (by omega) (by show a1 + 0 = shTT (xh x) (xw x) j t + (if wh (xw x) t < 100 then (if hsh (xh x) t = some j then ln (xw x) t else 0) else 0); rw [h1]; rw [if_pos (by omega), if_neg q_80]) (by show a2 + ln (xw x) t = alT (xw x) t + (if wh (xw x) t < 100 then _ else 0); rw [h2]; rw [if_pos (by omega)]) (by omega) (by omega) _ _ ls hC (lv_sub hl [0, 2, 1, 3, 4, 5] rfl)
          · have q_80 := (oI_eq (fun r hr => Nat.lt_trans (ok.2.2.2.2.2 t r hr) (by decide)) (by omega)).mp c_80
            refine lv_aload_n B.1 B.2.1 dX9_share_83 rfl (lv_at hl 3 rfl) ?_
            refine r_cg B hC (i := 175) (by decide) hM.1 (C := RX9) (T := TX9) (n := 35) rfl iwX9_share_X9 20 (by decide) (index := 43) flX9_share_43 rfl (v := .ref (ad (187))) rfl dX9_share_84 ?_
            refine lv_iload B.1 B.2.1 dX9_share_87 (lv_at hl 1 rfl) ?_
            refine r_cald B hC (i := 187) (by decide) hM.c187 (j := t) (by omega) (by decide) dX9_share_89 ?_
            refine r_tI (y := q 187 t) rfl ?_
            refine r_tI (y := nI (ln (xw x) t)) ((hB.z (by omega)).2.1) ?_
            refine lv_goto (tgt := 94) B.1 B.2.1 dX9_share_90 (by decide) ?_
            refine lv_iadd B.1 B.2.1 dX9_share_94 ?_
            refine r_tI (y := nI (a1 + (ln (xw x) t))) (nI_add _ _) ?_
            refine lv_istore_n (lv' := [(3, .int (nI (a1 + (ln (xw x) t)))), (4, .int (nI (a2 + (ln (xw x) t)))), (5, .int (nI t)), (0, .ref (ad (175))), (1, .int (nI j)), (2, .int (bI u))]) B.1 B.2.1 dX9_share_95 rfl hl (by decide) rfl (fun ls hl => ?_)
            refine lv_iinc (v := nI (t + 1)) (lv' := [(5, .int (nI (t + 1))), (3, .int (nI (a1 + (ln (xw x) t)))), (4, .int (nI (a2 + (ln (xw x) t)))), (0, .ref (ad (175))), (1, .int (nI j)), (2, .int (bI u))]) B.1 B.2.1 dX9_share_96 hl (k := 2) rfl (nI_1 _) (by decide) rfl (fun ls hl => ?_)
            refine lv_goto (tgt := 22) B.1 B.2.1 dX9_share_99 (by decide) ?_
            exact ih22 (t + 1) (a1 + ln (xw x) t) (a2 + ln (xw x) t) (by omega) (by show a1 + ln (xw x) t = shTT (xh x) (xw x) j t + (if wh (xw x) t < 100 then (if hsh (xh x) t = some j then ln (xw x) t else 0) else 0); rw [h1]; rw [if_pos (by omega), if_pos q_80]) (by show a2 + ln (xw x) t = alT (xw x) t + (if wh (xw x) t < 100 then _ else 0); rw [h2]; rw [if_pos (by omega)]) (by omega) (by omega) _ _ ls hC (lv_sub hl [0, 2, 1, 3, 4, 5] rfl)
    exact loop22 (hn (xh x)) 0 0 0 (by omega) rfl rfl (by decide) (by decide) _ _ ls hC (lv_sub hl [0, 1, 2, 3, 4, 5] rfl)
  · have q_9 : ¬ isSh s = true := by rw [isSh_02, ← inB_02, bI_f.mp c_9]; decide
    refine lv_iconst (v := (-1)) B.1 B.2.1 dX9_share_12 (by decide) ?_
    exact r_eI B hC (v := (-1)) (⟨by rw [shareA, if_neg q_9], rfl⟩) dX9_share_13
theorem iwX9_count_X9 : ∀ w ∈ u_ws RX9 TX9 35, w ∈ wsX9_count := by decide +kernel
theorem flX9_count_40 : Cond.fieldLink RX9 40 RX9 (TX9 19).2.1 (TX9 19).2.2.1 ∈ wsX9_count := by decide +kernel
theorem flX9_count_72 : Cond.fieldLink RX9 72 RX9 (TX9 14).2.1 (TX9 14).2.2.1 ∈ wsX9_count := by decide +kernel
theorem flX9_count_82 : Cond.fieldLink RX9 82 RX9 (TX9 16).2.1 (TX9 16).2.2.1 ∈ wsX9_count := by decide +kernel
theorem flX9_count_114 : Cond.fieldLink RX9 114 RX9 (TX9 12).2.1 (TX9 12).2.2.1 ∈ wsX9_count := by decide +kernel
theorem flX9_count_117 : Cond.fieldLink RX9 117 RX9 (TX9 13).2.1 (TX9 13).2.2.1 ∈ wsX9_count := by decide +kernel
theorem flX9_count_120 : Cond.fieldLink RX9 120 RX9 (TX9 22).2.1 (TX9 22).2.2.1 ∈ wsX9_count := by decide +kernel
theorem flX9_count_123 : Cond.fieldLink RX9 123 RX9 (TX9 23).2.1 (TX9 23).2.2.1 ∈ wsX9_count := by decide +kernel
theorem flX9_count_127 : Cond.fieldLink RX9 127 RX9 (TX9 24).2.1 (TX9 24).2.2.1 ∈ wsX9_count := by decide +kernel
set_option maxHeartbeats 4000000 in
set_option maxRecDepth 100000 in
theorem ctX9_count (l : Launch) (g : Gx) (lo : Nat) (ad : Nat → Nat) {F : Nat → va_E} {c : Nat → Int32} {q : Nat → Nat → Int32} {sm : Nat → Int64} {x : XV} (hM : MC g ad F c q sm) (hX : XR x c q) (okx : XOK x) {z : Int32} : MI l g lo 196 ad yX9_count wsX9_count 1 23 [.ref (ad (175)), .int (z)] F (fun r F' => r = countA x z ∧ F' = F) := by
  obtain ⟨hTx, hR, ⟨hB, hwa, hsu⟩, hAx, hKx⟩ := id hX
  obtain ⟨okT, ok, hw, okA, okS, okAu, okSu⟩ := id okx
  have okn := ok.1
  have okp := ok.2.1
  have okh := ok.2.2.1
  have okt := okT.1
  have hS : Same 175 196 F F := Same.rf
  have hb : 0 ≤ 50 := by decide
  have hwa3 := hw.2.1
  have ha24 := hAx.choose_spec.2.1
  refine enter (cc := cX9_count) (maxL := 6) (ret := some .int) (own := RX9) (by decide +kernel) rfl rfl (Nat.le_of_ble_eq_true rfl) ?_
  intro pp ee ss mm below meth cc B hini hC ls hl
  have hl : lv_has ls 6 [(0, .ref (ad (175))), (1, .int (z))] := hl
  refine lv_iconst (v := nI 0) B.1 B.2.1 dX9_count_0 (by decide) ?_
  refine lv_istore_n (lv' := [(2, .int (nI 0)), (0, .ref (ad (175))), (1, .int (z))]) B.1 B.2.1 dX9_count_1 rfl hl (by decide) rfl (fun ls hl => ?_)
  refine lv_iconst (v := nI 0) B.1 B.2.1 dX9_count_2 (by decide) ?_
  refine lv_istore_n (lv' := [(3, .int (nI 0)), (2, .int (nI 0)), (0, .ref (ad (175))), (1, .int (z))]) B.1 B.2.1 dX9_count_3 rfl hl (by decide) rfl (fun ls hl => ?_)
  refine lv_iconst (v := nI 0) B.1 B.2.1 dX9_count_4 (by decide) ?_
  refine lv_istore (lv' := [(4, .int (nI 0)), (3, .int (nI 0)), (2, .int (nI 0)), (0, .ref (ad (175))), (1, .int (z))]) B.1 B.2.1 dX9_count_5 hl (by decide) rfl (fun ls hl => ?_)
  refine lv_iconst (v := nI 0) B.1 B.2.1 dX9_count_7 (by decide) ?_
  refine lv_istore (lv' := [(5, .int (nI 0)), (4, .int (nI 0)), (3, .int (nI 0)), (2, .int (nI 0)), (0, .ref (ad (175))), (1, .int (z))]) B.1 B.2.1 dX9_count_8 hl (by decide) rfl (fun ls hl => ?_)
  have loop10 : ∀ (k : Nat) (t a1 a2 a3 : Nat), (t + k = hn (xh x)) → (a1 = atTo (xw x) 100 t) → (a2 = atTo (xw x) 200 t) → (a3 = sumTo (fun p => if ti (xw x) p = none then 1 else 0) t) → ∀ (H : Heap) (locs : List Loc) (ls : Array Slot), Cu g lo 196 ad F ss ss.heap H locs → lv_has ls 6 [(5, .int (nI t)), (4, .int (nI a3)), (3, .int (nI a2)), (2, .int (nI a1)), (0, .ref (ad (175))), (1, .int (z))] → W pp l ee { frames := 1, cells := 0, slots := 0, locals := 23 } ss mm ([.ref (ad (175)), .int (z)] : List Value).toArray below meth cc H locs 0 0 (MQ below (va_Qi (fun r F' => r = countA x z ∧ F' = F) (fun F' t => Wd g lo 196 ad F' t) (fun q => lo ≤ q)) ([.ref (ad (175)), .int (z)] : List Value).toArray ss 0 0 (fun q => lo ≤ q)) (F0 mm 10 ls []) := by
    intro k
    induction k with
    | zero =>
      intro t a1 a2 a3 htk h1 h2 h3 H locs ls hC hl
      refine lv_iload B.1 B.2.1 dX9_count_10 (lv_at hl 0 rfl) ?_
      refine lv_aload_n B.1 B.2.1 dX9_count_12 rfl (lv_at hl 4 rfl) ?_
      refine r_cg B hC (i := 175) (by decide) hM.1 (C := RX9) (T := TX9) (n := 35) rfl iwX9_count_X9 12 (by decide) (index := 114) flX9_count_114 rfl (v := .int (c 12)) rfl dX9_count_13 ?_
      refine r_tI (y := nI (hn (xh x))) (hR.1) ?_
      refine lv_icmp_ge (tgt := 88) B.1 B.2.1 dX9_count_16 (by decide) (fun _ => ?_) (fun z => absurd (nI_le (by omega) (by omega)) z)
      refine lv_iload_n B.1 B.2.1 dX9_count_88 rfl (lv_at hl 5 rfl) ?_
      rcases sw10 (z) with e89_ | e89_ | e89_ | e89_ | e89_ | e89_ | e89_ | e89_ | e89_ | e89_ | e89_
      · refine r_tI (y := nI 0) e89_ ?_
        refine lv_tableIn (off := 55) (tgt := 144) B.1 B.2.1 dX9_count_89 (by decide) (by decide) (by decide) (by decide) ?_
        refine lv_aload_n B.1 B.2.1 dX9_count_144 rfl (lv_at hl 4 rfl) ?_
        refine r_cg B hC (i := 175) (by decide) hM.1 (C := RX9) (T := TX9) (n := 35) rfl iwX9_count_X9 16 (by decide) (index := 82) flX9_count_82 rfl (v := .int (c 16)) rfl dX9_count_145 ?_
        refine r_tI (y := nI (tn (xt x))) (hTx.1) ?_
        exact r_eI B hC (v := nI (tn (xt x))) (⟨by rw [countA, e89_, if_pos rfl], rfl⟩) dX9_count_148
      · refine r_tI (y := nI 1) e89_ ?_
        refine lv_tableIn (off := 60) (tgt := 149) B.1 B.2.1 dX9_count_89 (by decide) (by decide) (by decide) (by decide) ?_
        refine lv_aload_n B.1 B.2.1 dX9_count_149 rfl (lv_at hl 4 rfl) ?_
        refine r_cg B hC (i := 175) (by decide) hM.1 (C := RX9) (T := TX9) (n := 35) rfl iwX9_count_X9 12 (by decide) (index := 114) flX9_count_114 rfl (v := .int (c 12)) rfl dX9_count_150 ?_
        refine r_tI (y := nI (hn (xh x))) (hR.1) ?_
        exact r_eI B hC (v := nI (hn (xh x))) (⟨by rw [countA, e89_, if_neg (by decide), if_pos rfl], rfl⟩) dX9_count_153
      · refine r_tI (y := nI 2) e89_ ?_
        refine lv_tableIn (off := 65) (tgt := 154) B.1 B.2.1 dX9_count_89 (by decide) (by decide) (by decide) (by decide) ?_
        refine lv_iload B.1 B.2.1 dX9_count_154 (lv_at hl 1 rfl) ?_
        exact r_eI B hC (v := nI a3) (⟨by rw [countA, e89_, if_neg (by decide), if_neg (by decide), if_pos rfl, pop_open _ okn, show hn (xh x) = t by omega, ← h3], rfl⟩) dX9_count_156
      · refine r_tI (y := nI 3) e89_ ?_
        refine lv_tableIn (off := 68) (tgt := 157) B.1 B.2.1 dX9_count_89 (by decide) (by decide) (by decide) (by decide) ?_
        refine lv_iload_n B.1 B.2.1 dX9_count_157 rfl (lv_at hl 3 rfl) ?_
        exact r_eI B hC (v := nI a1) (⟨by rw [countA, e89_, if_neg (by decide), if_neg (by decide), if_neg (by decide), if_pos rfl, show hn (xh x) = t by omega, ← h1], rfl⟩) dX9_count_158
      · refine r_tI (y := nI 4) e89_ ?_
        refine lv_tableIn (off := 70) (tgt := 159) B.1 B.2.1 dX9_count_89 (by decide) (by decide) (by decide) (by decide) ?_
        refine lv_iload_n B.1 B.2.1 dX9_count_159 rfl (lv_at hl 2 rfl) ?_
        exact r_eI B hC (v := nI a2) (⟨by rw [countA, e89_, if_neg (by decide), if_neg (by decide), if_neg (by decide), if_neg (by decide), if_pos rfl, show hn (xh x) = t by omega, ← h2], rfl⟩) dX9_count_160
      · refine r_tI (y := nI 5) e89_ ?_
        refine lv_tableIn (off := 72) (tgt := 161) B.1 B.2.1 dX9_count_89 (by decide) (by decide) (by decide) (by decide) ?_
        refine lv_aload_n B.1 B.2.1 dX9_count_161 rfl (lv_at hl 4 rfl) ?_
        refine r_cg B hC (i := 175) (by decide) hM.1 (C := RX9) (T := TX9) (n := 35) rfl iwX9_count_X9 22 (by decide) (index := 120) flX9_count_120 rfl (v := .int (c 22)) rfl dX9_count_162 ?_
        refine r_tI (y := nI (wa (xw x))) (hwa) ?_
        exact r_eI B hC (v := nI (wa (xw x))) (⟨by rw [countA, e89_, if_neg (by decide), if_neg (by decide), if_neg (by decide), if_neg (by decide), if_neg (by decide), if_pos rfl], rfl⟩) dX9_count_165
      · refine r_tI (y := nI 6) e89_ ?_
        refine lv_tableIn (off := 77) (tgt := 166) B.1 B.2.1 dX9_count_89 (by decide) (by decide) (by decide) (by decide) ?_
        refine lv_aload_n B.1 B.2.1 dX9_count_166 rfl (lv_at hl 4 rfl) ?_
        refine r_cg B hC (i := 175) (by decide) hM.1 (C := RX9) (T := TX9) (n := 35) rfl iwX9_count_X9 23 (by decide) (index := 123) flX9_count_123 rfl (v := .int (c 23)) rfl dX9_count_167 ?_
        refine r_tI (y := bI (su (xw x))) (hsu) ?_
        refine lv_if_eq (tgt := 177) B.1 B.2.1 dX9_count_170 (by decide) (fun c_170 => ?_) (fun c_170 => ?_)
        · have q_170 : (su (xw x)) = false := bI_f.mp c_170
          refine lv_iconst (v := nI 0) B.1 B.2.1 dX9_count_177 (by decide) ?_
          exact r_eI B hC (v := nI 0) (⟨by rw [countA, e89_, if_neg (by decide), if_neg (by decide), if_neg (by decide), if_neg (by decide), if_neg (by decide), if_neg (by decide), if_pos rfl, q_170]; rfl, rfl⟩) dX9_count_178
        · have q_170 : (su (xw x)) = true := bI_t.mp c_170
          refine lv_iconst (v := nI 1) B.1 B.2.1 dX9_count_173 (by decide) ?_
          refine lv_goto (tgt := 178) B.1 B.2.1 dX9_count_174 (by decide) ?_
          exact r_eI B hC (v := nI 1) (⟨by rw [countA, e89_, if_neg (by decide), if_neg (by decide), if_neg (by decide), if_neg (by decide), if_neg (by decide), if_neg (by decide), if_pos rfl, q_170]; rfl, rfl⟩) dX9_count_178
      · refine r_tI (y := nI 7) e89_ ?_
        refine lv_tableIn (off := 90) (tgt := 179) B.1 B.2.1 dX9_count_89 (by decide) (by decide) (by decide) (by decide) ?_
        refine lv_aload_n B.1 B.2.1 dX9_count_179 rfl (lv_at hl 4 rfl) ?_
        refine r_cg B hC (i := 175) (by decide) hM.1 (C := RX9) (T := TX9) (n := 35) rfl iwX9_count_X9 13 (by decide) (index := 117) flX9_count_117 rfl (v := .int (c 13)) rfl dX9_count_180 ?_
        refine r_tI (y := nI (hpu (xh x))) (hR.2.1) ?_
        exact r_eI B hC (v := nI (hpu (xh x))) (⟨by rw [countA, e89_, if_neg (by decide), if_neg (by decide), if_neg (by decide), if_neg (by decide), if_neg (by decide), if_neg (by decide), if_neg (by decide), if_pos rfl], rfl⟩) dX9_count_183
      · refine r_tI (y := nI 8) e89_ ?_
        refine lv_tableIn (off := 95) (tgt := 184) B.1 B.2.1 dX9_count_89 (by decide) (by decide) (by decide) (by decide) ?_
        refine lv_aload_n B.1 B.2.1 dX9_count_184 rfl (lv_at hl 4 rfl) ?_
        refine r_cg B hC (i := 175) (by decide) hM.1 (C := RX9) (T := TX9) (n := 35) rfl iwX9_count_X9 14 (by decide) (index := 72) flX9_count_72 rfl (v := .int (c 14)) rfl dX9_count_185 ?_
        refine r_tI (y := nI (hho (xh x))) (hR.2.2.1) ?_
        exact r_eI B hC (v := nI (hho (xh x))) (⟨by rw [countA, e89_, if_neg (by decide), if_neg (by decide), if_neg (by decide), if_neg (by decide), if_neg (by decide), if_neg (by decide), if_neg (by decide), if_neg (by decide), if_pos rfl], rfl⟩) dX9_count_188
      · refine r_tI (y := nI 9) e89_ ?_
        refine lv_tableIn (off := 100) (tgt := 189) B.1 B.2.1 dX9_count_89 (by decide) (by decide) (by decide) (by decide) ?_
        refine lv_aload_n B.1 B.2.1 dX9_count_189 rfl (lv_at hl 4 rfl) ?_
        refine r_cg B hC (i := 175) (by decide) hM.1 (C := RX9) (T := TX9) (n := 35) rfl iwX9_count_X9 24 (by decide) (index := 127) flX9_count_127 rfl (v := .int (c 24)) rfl dX9_count_190 ?_
        refine r_tI (y := nI (asz (xa x))) (ha24) ?_
        exact r_eI B hC (v := nI (asz (xa x))) (⟨by rw [countA, e89_, if_neg (by decide), if_neg (by decide), if_neg (by decide), if_neg (by decide), if_neg (by decide), if_neg (by decide), if_neg (by decide), if_neg (by decide), if_neg (by decide), if_pos rfl], rfl⟩) dX9_count_193
      · refine lv_tableOut (tgt := 194) B.1 B.2.1 dX9_count_89 e89_ (by decide) ?_
        refine lv_bipush (v := (-2)) B.1 B.2.1 dX9_count_194 (by decide) ?_
        exact r_eI B hC (v := (-2)) (⟨by have z := sw_out10 e89_; rw [countA, if_neg (z 0 (by decide)), if_neg (z 1 (by decide)), if_neg (z 2 (by decide)), if_neg (z 3 (by decide)), if_neg (z 4 (by decide)), if_neg (z 5 (by decide)), if_neg (z 6 (by decide)), if_neg (z 7 (by decide)), if_neg (z 8 (by decide)), if_neg (z 9 (by decide))], rfl⟩) dX9_count_196
    | succ k ih10 =>
      intro t a1 a2 a3 htk h1 h2 h3 H locs ls hC hl
      refine lv_iload B.1 B.2.1 dX9_count_10 (lv_at hl 0 rfl) ?_
      refine lv_aload_n B.1 B.2.1 dX9_count_12 rfl (lv_at hl 4 rfl) ?_
      refine r_cg B hC (i := 175) (by decide) hM.1 (C := RX9) (T := TX9) (n := 35) rfl iwX9_count_X9 12 (by decide) (index := 114) flX9_count_114 rfl (v := .int (c 12)) rfl dX9_count_13 ?_
      refine r_tI (y := nI (hn (xh x))) (hR.1) ?_
      refine lv_icmp_ge (tgt := 88) B.1 B.2.1 dX9_count_16 (by decide) (fun z => absurd z (nI_ge (by omega) (by omega))) (fun _ => ?_)
      have hwt := (hw.1 t).1
      refine lv_iload_n B.1 B.2.1 dX9_count_19 rfl (lv_at hl 3 rfl) ?_
      refine lv_aload_n B.1 B.2.1 dX9_count_20 rfl (lv_at hl 4 rfl) ?_
      refine r_cg B hC (i := 175) (by decide) hM.1 (C := RX9) (T := TX9) (n := 35) rfl iwX9_count_X9 19 (by decide) (index := 40) flX9_count_40 rfl (v := .ref (ad (186))) rfl dX9_count_21 ?_
      refine lv_iload B.1 B.2.1 dX9_count_24 (lv_at hl 0 rfl) ?_
      refine r_cald B hC (i := 186) (by decide) hM.c186 (j := t) (by omega) (by decide) dX9_count_26 ?_
      refine r_tI (y := q 186 t) rfl ?_
      refine r_tI (y := nI (wh (xw x) t)) ((hB.z (by omega)).1) ?_
      refine lv_bipush (v := nI 100) B.1 B.2.1 dX9_count_27 (by decide) ?_
      refine lv_icmp_ne (tgt := 36) B.1 B.2.1 dX9_count_29 (by decide) (fun c_29 => ?_) (fun c_29 => ?_)
      · have q_29 : ¬ (wh (xw x) t) = 100 := fun z => c_29 ((nI_eq (by omega) (by omega)).mpr z)
        refine lv_iconst (v := nI 0) B.1 B.2.1 dX9_count_36 (by decide) ?_
        refine lv_iadd B.1 B.2.1 dX9_count_37 ?_
        refine r_tI (y := nI (a1 + 0)) (nI_add _ _) ?_
        refine lv_istore_n (lv' := [(2, .int (nI (a1 + 0))), (5, .int (nI t)), (4, .int (nI a3)), (3, .int (nI a2)), (0, .ref (ad (175))), (1, .int (z))]) B.1 B.2.1 dX9_count_38 rfl hl (by decide) rfl (fun ls hl => ?_)
        refine lv_iload_n B.1 B.2.1 dX9_count_39 rfl (lv_at hl 3 rfl) ?_
        refine lv_aload_n B.1 B.2.1 dX9_count_40 rfl (lv_at hl 4 rfl) ?_
        refine r_cg B hC (i := 175) (by decide) hM.1 (C := RX9) (T := TX9) (n := 35) rfl iwX9_count_X9 19 (by decide) (index := 40) flX9_count_40 rfl (v := .ref (ad (186))) rfl dX9_count_41 ?_
        refine lv_iload B.1 B.2.1 dX9_count_44 (lv_at hl 1 rfl) ?_
        refine r_cald B hC (i := 186) (by decide) hM.c186 (j := t) (by omega) (by decide) dX9_count_46 ?_
        refine r_tI (y := q 186 t) rfl ?_
        refine r_tI (y := nI (wh (xw x) t)) ((hB.z (by omega)).1) ?_
        refine lv_sipush (v := nI 200) B.1 B.2.1 dX9_count_47 (by decide) ?_
        refine lv_icmp_ne (tgt := 57) B.1 B.2.1 dX9_count_50 (by decide) (fun c_50 => ?_) (fun c_50 => ?_)
        · have q_50 : ¬ (wh (xw x) t) = 200 := fun z => c_50 ((nI_eq (by omega) (by omega)).mpr z)
          refine lv_iconst (v := nI 0) B.1 B.2.1 dX9_count_57 (by decide) ?_
          refine lv_iadd B.1 B.2.1 dX9_count_58 ?_
          refine r_tI (y := nI (a2 + 0)) (nI_add _ _) ?_
          refine lv_istore_n (lv' := [(3, .int (nI (a2 + 0))), (2, .int (nI (a1 + 0))), (5, .int (nI t)), (4, .int (nI a3)), (0, .ref (ad (175))), (1, .int (z))]) B.1 B.2.1 dX9_count_59 rfl hl (by decide) rfl (fun ls hl => ?_)
          refine lv_iload B.1 B.2.1 dX9_count_60 (lv_at hl 3 rfl) ?_
          refine lv_aload_n B.1 B.2.1 dX9_count_62 rfl (lv_at hl 4 rfl) ?_
          refine lv_iconst (v := nI 0) B.1 B.2.1 dX9_count_63 (by decide) ?_
          refine lv_iload B.1 B.2.1 dX9_count_64 (lv_at hl 2 rfl) ?_
          refine r_calli B hC hl.1 (175) 9 rfl rfl (by decide) hM.1 (As := [.int (nI 0), .int (nI t)]) (ctX9_inside l g lo ad hM ok hR (b := 0) hb hB hw (p := t) (by omega)) gX9_count_X9_inside rfl (n := 2) rfl (by decide +kernel) ⟨Nat.le_of_ble_eq_true rfl, Nat.le_of_ble_eq_true rfl⟩ ⟨Nat.zero_le _, Nat.zero_le _⟩ rfl (Nat.le_of_ble_eq_true rfl) dX9_count_66 (fun r66 F1 H locs hp66 hC => ?_)
          obtain ⟨er, eF⟩ := hp66
          subst er
          rw [eF] at hC
          refine lv_bipush (v := (-9)) B.1 B.2.1 dX9_count_69 (by decide) ?_
          refine lv_icmp_ne (tgt := 78) B.1 B.2.1 dX9_count_71 (by decide) (fun c_71 => ?_) (fun c_71 => ?_)
          · have q_71 : ¬ ti (xw x) t = none := fun z => c_71 ((oI_9 (fun j hj => Nat.lt_trans (hw.t10 (by omega) j hj) (by decide))).mpr z)
            refine lv_iconst (v := nI 0) B.1 B.2.1 dX9_count_78 (by decide) ?_
            refine lv_iadd B.1 B.2.1 dX9_count_79 ?_
            refine r_tI (y := nI (a3 + 0)) (nI_add _ _) ?_
            refine lv_istore (lv' := [(4, .int (nI (a3 + 0))), (3, .int (nI (a2 + 0))), (2, .int (nI (a1 + 0))), (5, .int (nI t)), (0, .ref (ad (175))), (1, .int (z))]) B.1 B.2.1 dX9_count_80 hl (by decide) rfl (fun ls hl => ?_)
            refine lv_iinc (v := nI (t + 1)) (lv' := [(5, .int (nI (t + 1))), (4, .int (nI (a3 + 0))), (3, .int (nI (a2 + 0))), (2, .int (nI (a1 + 0))), (0, .ref (ad (175))), (1, .int (z))]) B.1 B.2.1 dX9_count_82 hl (k := 3) rfl (nI_1 _) (by decide) rfl (fun ls hl => ?_)
            refine lv_goto (tgt := 10) B.1 B.2.1 dX9_count_85 (by decide) ?_
            exact ih10 (t + 1) (a1 + 0) (a2 + 0) (a3 + 0) (by omega) (by show a1 + 0 = atTo (xw x) 100 t + (if wh (xw x) t = 100 then 1 else 0); rw [h1]; rw [if_neg q_29]) (by show a2 + 0 = atTo (xw x) 200 t + (if wh (xw x) t = 200 then 1 else 0); rw [h2]; rw [if_neg q_50]) (by show a3 + 0 = sumTo (fun p => if ti (xw x) p = none then 1 else 0) t + (if ti (xw x) t = none then 1 else 0); rw [h3]; rw [if_neg q_71]) _ _ ls hC (lv_sub hl [0, 1, 2, 3, 4, 5] rfl)
          · have q_71 : ti (xw x) t = none := (oI_9 (fun j hj => Nat.lt_trans (hw.t10 (by omega) j hj) (by decide))).mp c_71
            refine lv_iconst (v := nI 1) B.1 B.2.1 dX9_count_74 (by decide) ?_
            refine lv_goto (tgt := 79) B.1 B.2.1 dX9_count_75 (by decide) ?_
            refine lv_iadd B.1 B.2.1 dX9_count_79 ?_
            refine r_tI (y := nI (a3 + 1)) (nI_add _ _) ?_
            refine lv_istore (lv' := [(4, .int (nI (a3 + 1))), (3, .int (nI (a2 + 0))), (2, .int (nI (a1 + 0))), (5, .int (nI t)), (0, .ref (ad (175))), (1, .int (z))]) B.1 B.2.1 dX9_count_80 hl (by decide) rfl (fun ls hl => ?_)
            refine lv_iinc (v := nI (t + 1)) (lv' := [(5, .int (nI (t + 1))), (4, .int (nI (a3 + 1))), (3, .int (nI (a2 + 0))), (2, .int (nI (a1 + 0))), (0, .ref (ad (175))), (1, .int (z))]) B.1 B.2.1 dX9_count_82 hl (k := 3) rfl (nI_1 _) (by decide) rfl (fun ls hl => ?_)
            refine lv_goto (tgt := 10) B.1 B.2.1 dX9_count_85 (by decide) ?_
            exact ih10 (t + 1) (a1 + 0) (a2 + 0) (a3 + 1) (by omega) (by show a1 + 0 = atTo (xw x) 100 t + (if wh (xw x) t = 100 then 1 else 0); rw [h1]; rw [if_neg q_29]) (by show a2 + 0 = atTo (xw x) 200 t + (if wh (xw x) t = 200 then 1 else 0); rw [h2]; rw [if_neg q_50]) (by show a3 + 1 = sumTo (fun p => if ti (xw x) p = none then 1 else 0) t + (if ti (xw x) t = none then 1 else 0); rw [h3]; rw [if_pos q_71]) _ _ ls hC (lv_sub hl [0, 1, 2, 3, 4, 5] rfl)
        · have q_50 : (wh (xw x) t) = 200 := (nI_eq (by omega) (by omega)).mp c_50
          refine lv_iconst (v := nI 1) B.1 B.2.1 dX9_count_53 (by decide) ?_
          refine lv_goto (tgt := 58) B.1 B.2.1 dX9_count_54 (by decide) ?_
          refine lv_iadd B.1 B.2.1 dX9_count_58 ?_
          refine r_tI (y := nI (a2 + 1)) (nI_add _ _) ?_
          refine lv_istore_n (lv' := [(3, .int (nI (a2 + 1))), (2, .int (nI (a1 + 0))), (5, .int (nI t)), (4, .int (nI a3)), (0, .ref (ad (175))), (1, .int (z))]) B.1 B.2.1 dX9_count_59 rfl hl (by decide) rfl (fun ls hl => ?_)
          refine lv_iload B.1 B.2.1 dX9_count_60 (lv_at hl 3 rfl) ?_
          refine lv_aload_n B.1 B.2.1 dX9_count_62 rfl (lv_at hl 4 rfl) ?_
          refine lv_iconst (v := nI 0) B.1 B.2.1 dX9_count_63 (by decide) ?_
          refine lv_iload B.1 B.2.1 dX9_count_64 (lv_at hl 2 rfl) ?_
          refine r_calli B hC hl.1 (175) 9 rfl rfl (by decide) hM.1 (As := [.int (nI 0), .int (nI t)]) (ctX9_inside l g lo ad hM ok hR (b := 0) hb hB hw (p := t) (by omega)) gX9_count_X9_inside rfl (n := 2) rfl (by decide +kernel) ⟨Nat.le_of_ble_eq_true rfl, Nat.le_of_ble_eq_true rfl⟩ ⟨Nat.zero_le _, Nat.zero_le _⟩ rfl (Nat.le_of_ble_eq_true rfl) dX9_count_66 (fun r66 F1 H locs hp66 hC => ?_)
          obtain ⟨er, eF⟩ := hp66
          subst er
          rw [eF] at hC
          refine lv_bipush (v := (-9)) B.1 B.2.1 dX9_count_69 (by decide) ?_
          refine lv_icmp_ne (tgt := 78) B.1 B.2.1 dX9_count_71 (by decide) (fun c_71 => ?_) (fun c_71 => ?_)
          · have q_71 : ¬ ti (xw x) t = none := fun z => c_71 ((oI_9 (fun j hj => Nat.lt_trans (hw.t10 (by omega) j hj) (by decide))).mpr z)
            refine lv_iconst (v := nI 0) B.1 B.2.1 dX9_count_78 (by decide) ?_
            refine lv_iadd B.1 B.2.1 dX9_count_79 ?_
            refine r_tI (y := nI (a3 + 0)) (nI_add _ _) ?_
            refine lv_istore (lv' := [(4, .int (nI (a3 + 0))), (3, .int (nI (a2 + 1))), (2, .int (nI (a1 + 0))), (5, .int (nI t)), (0, .ref (ad (175))), (1, .int (z))]) B.1 B.2.1 dX9_count_80 hl (by decide) rfl (fun ls hl => ?_)
            refine lv_iinc (v := nI (t + 1)) (lv' := [(5, .int (nI (t + 1))), (4, .int (nI (a3 + 0))), (3, .int (nI (a2 + 1))), (2, .int (nI (a1 + 0))), (0, .ref (ad (175))), (1, .int (z))]) B.1 B.2.1 dX9_count_82 hl (k := 3) rfl (nI_1 _) (by decide) rfl (fun ls hl => ?_)
            refine lv_goto (tgt := 10) B.1 B.2.1 dX9_count_85 (by decide) ?_
            exact ih10 (t + 1) (a1 + 0) (a2 + 1) (a3 + 0) (by omega) (by show a1 + 0 = atTo (xw x) 100 t + (if wh (xw x) t = 100 then 1 else 0); rw [h1]; rw [if_neg q_29]) (by show a2 + 1 = atTo (xw x) 200 t + (if wh (xw x) t = 200 then 1 else 0); rw [h2]; rw [if_pos q_50]) (by show a3 + 0 = sumTo (fun p => if ti (xw x) p = none then 1 else 0) t + (if ti (xw x) t = none then 1 else 0); rw [h3]; rw [if_neg q_71]) _ _ ls hC (lv_sub hl [0, 1, 2, 3, 4, 5] rfl)
          · have q_71 : ti (xw x) t = none := (oI_9 (fun j hj => Nat.lt_trans (hw.t10 (by omega) j hj) (by decide))).mp c_71
            refine lv_iconst (v := nI 1) B.1 B.2.1 dX9_count_74 (by decide) ?_
            refine lv_goto (tgt := 79) B.1 B.2.1 dX9_count_75 (by decide) ?_
            refine lv_iadd B.1 B.2.1 dX9_count_79 ?_
            refine r_tI (y := nI (a3 + 1)) (nI_add _ _) ?_
            refine lv_istore (lv' := [(4, .int (nI (a3 + 1))), (3, .int (nI (a2 + 1))), (2, .int (nI (a1 + 0))), (5, .int (nI t)), (0, .ref (ad (175))), (1, .int (z))]) B.1 B.2.1 dX9_count_80 hl (by decide) rfl (fun ls hl => ?_)
            refine lv_iinc (v := nI (t + 1)) (lv' := [(5, .int (nI (t + 1))), (4, .int (nI (a3 + 1))), (3, .int (nI (a2 + 1))), (2, .int (nI (a1 + 0))), (0, .ref (ad (175))), (1, .int (z))]) B.1 B.2.1 dX9_count_82 hl (k := 3) rfl (nI_1 _) (by decide) rfl (fun ls hl => ?_)
            refine lv_goto (tgt := 10) B.1 B.2.1 dX9_count_85 (by decide) ?_
            exact ih10 (t + 1) (a1 + 0) (a2 + 1) (a3 + 1) (by omega) (by show a1 + 0 = atTo (xw x) 100 t + (if wh (xw x) t = 100 then 1 else 0); rw [h1]; rw [if_neg q_29]) (by show a2 + 1 = atTo (xw x) 200 t + (if wh (xw x) t = 200 then 1 else 0); rw [h2]; rw [if_pos q_50]) (by show a3 + 1 = sumTo (fun p => if ti (xw x) p = none then 1 else 0) t + (if ti (xw x) t = none then 1 else 0); rw [h3]; rw [if_pos q_71]) _ _ ls hC (lv_sub hl [0, 1, 2, 3, 4, 5] rfl)
      · have q_29 : (wh (xw x) t) = 100 := (nI_eq (by omega) (by omega)).mp c_29
        refine lv_iconst (v := nI 1) B.1 B.2.1 dX9_count_32 (by decide) ?_
        refine lv_goto (tgt := 37) B.1 B.2.1 dX9_count_33 (by decide) ?_
        refine lv_iadd B.1 B.2.1 dX9_count_37 ?_
        refine r_tI (y := nI (a1 + 1)) (nI_add _ _) ?_
        refine lv_istore_n (lv' := [(2, .int (nI (a1 + 1))), (5, .int (nI t)), (4, .int (nI a3)), (3, .int (nI a2)), (0, .ref (ad (175))), (1, .int (z))]) B.1 B.2.1 dX9_count_38 rfl hl (by decide) rfl (fun ls hl => ?_)
        refine lv_iload_n B.1 B.2.1 dX9_count_39 rfl (lv_at hl 3 rfl) ?_
        refine lv_aload_n B.1 B.2.1 dX9_count_40 rfl (lv_at hl 4 rfl) ?_
        refine r_cg B hC (i := 175) (by decide) hM.1 (C := RX9) (T := TX9) (n := 35) rfl iwX9_count_X9 19 (by decide) (index := 40) flX9_count_40 rfl (v := .ref (ad (186))) rfl dX9_count_41 ?_
        refine lv_iload B.1 B.2.1 dX9_count_44 (lv_at hl 1 rfl) ?_
        refine r_cald B hC (i := 186) (by decide) hM.c186 (j := t) (by omega) (by decide) dX9_count_46 ?_
        refine r_tI (y := q 186 t) rfl ?_
        refine r_tI (y := nI (wh (xw x) t)) ((hB.z (by omega)).1) ?_
        refine lv_sipush (v := nI 200) B.1 B.2.1 dX9_count_47 (by decide) ?_
        refine lv_icmp_ne (tgt := 57) B.1 B.2.1 dX9_count_50 (by decide) (fun c_50 => ?_) (fun c_50 => ?_)
        · have q_50 : ¬ (wh (xw x) t) = 200 := fun z => c_50 ((nI_eq (by omega) (by omega)).mpr z)
          refine lv_iconst (v := nI 0) B.1 B.2.1 dX9_count_57 (by decide) ?_
          refine lv_iadd B.1 B.2.1 dX9_count_58 ?_
          refine r_tI (y := nI (a2 + 0)) (nI_add _ _) ?_
          refine lv_istore_n (lv' := [(3, .int (nI (a2 + 0))), (2, .int (nI (a1 + 1))), (5, .int (nI t)), (4, .int (nI a3)), (0, .ref (ad (175))), (1, .int (z))]) B.1 B.2.1 dX9_count_59 rfl hl (by decide) rfl (fun ls hl => ?_)
          refine lv_iload B.1 B.2.1 dX9_count_60 (lv_at hl 3 rfl) ?_
          refine lv_aload_n B.1 B.2.1 dX9_count_62 rfl (lv_at hl 4 rfl) ?_
          refine lv_iconst (v := nI 0) B.1 B.2.1 dX9_count_63 (by decide) ?_
          refine lv_iload B.1 B.2.1 dX9_count_64 (lv_at hl 2 rfl) ?_
          refine r_calli B hC hl.1 (175) 9 rfl rfl (by decide) hM.1 (As := [.int (nI 0), .int (nI t)]) (ctX9_inside l g lo ad hM ok hR (b := 0) hb hB hw (p := t) (by omega)) gX9_count_X9_inside rfl (n := 2) rfl (by decide +kernel) ⟨Nat.le_of_ble_eq_true rfl, Nat.le_of_ble_eq_true rfl⟩ ⟨Nat.zero_le _, Nat.zero_le _⟩ rfl (Nat.le_of_ble_eq_true rfl) dX9_count_66 (fun r66 F1 H locs hp66 hC => ?_)
          obtain ⟨er, eF⟩ := hp66
          subst er
          rw [eF] at hC
          refine lv_bipush (v := (-9)) B.1 B.2.1 dX9_count_69 (by decide) ?_
          refine lv_icmp_ne (tgt := 78) B.1 B.2.1 dX9_count_71 (by decide) (fun c_71 => ?_) (fun c_71 => ?_)
          · have q_71 : ¬ ti (xw x) t = none := fun z => c_71 ((oI_9 (fun j hj => Nat.lt_trans (hw.t10 (by omega) j hj) (by decide))).mpr z)
            refine lv_iconst (v := nI 0) B.1 B.2.1 dX9_count_78 (by decide) ?_
            refine lv_iadd B.1 B.2.1 dX9_count_79 ?_
            refine r_tI (y := nI (a3 + 0)) (nI_add _ _) ?_
            refine lv_istore (lv' := [(4, .int (nI (a3 + 0))), (3, .int (nI (a2 + 0))), (2, .int (nI (a1 + 1))), (5, .int (nI t)), (0, .ref (ad (175))), (1, .int (z))]) B.1 B.2.1 dX9_count_80 hl (by decide) rfl (fun ls hl => ?_)
            refine lv_iinc (v := nI (t + 1)) (lv' := [(5, .int (nI (t + 1))), (4, .int (nI (a3 + 0))), (3, .int (nI (a2 + 0))), (2, .int (nI (a1 + 1))), (0, .ref (ad (175))), (1, .int (z))]) B.1 B.2.1 dX9_count_82 hl (k := 3) rfl (nI_1 _) (by decide) rfl (fun ls hl => ?_)
            refine lv_goto (tgt := 10) B.1 B.2.1 dX9_count_85 (by decide) ?_
            exact ih10 (t + 1) (a1 + 1) (a2 + 0) (a3 + 0) (by omega) (by show a1 + 1 = atTo (xw x) 100 t + (if wh (xw x) t = 100 then 1 else 0); rw [h1]; rw [if_pos q_29]) (by show a2 + 0 = atTo (xw x) 200 t + (if wh (xw x) t = 200 then 1 else 0); rw [h2]; rw [if_neg q_50]) (by show a3 + 0 = sumTo (fun p => if ti (xw x) p = none then 1 else 0) t + (if ti (xw x) t = none then 1 else 0); rw [h3]; rw [if_neg q_71]) _ _ ls hC (lv_sub hl [0, 1, 2, 3, 4, 5] rfl)
          · have q_71 : ti (xw x) t = none := (oI_9 (fun j hj => Nat.lt_trans (hw.t10 (by omega) j hj) (by decide))).mp c_71
            refine lv_iconst (v := nI 1) B.1 B.2.1 dX9_count_74 (by decide) ?_
            refine lv_goto (tgt := 79) B.1 B.2.1 dX9_count_75 (by decide) ?_
            refine lv_iadd B.1 B.2.1 dX9_count_79 ?_
            refine r_tI (y := nI (a3 + 1)) (nI_add _ _) ?_
            refine lv_istore (lv' := [(4, .int (nI (a3 + 1))), (3, .int (nI (a2 + 0))), (2, .int (nI (a1 + 1))), (5, .int (nI t)), (0, .ref (ad (175))), (1, .int (z))]) B.1 B.2.1 dX9_count_80 hl (by decide) rfl (fun ls hl => ?_)
            refine lv_iinc (v := nI (t + 1)) (lv' := [(5, .int (nI (t + 1))), (4, .int (nI (a3 + 1))), (3, .int (nI (a2 + 0))), (2, .int (nI (a1 + 1))), (0, .ref (ad (175))), (1, .int (z))]) B.1 B.2.1 dX9_count_82 hl (k := 3) rfl (nI_1 _) (by decide) rfl (fun ls hl => ?_)
            refine lv_goto (tgt := 10) B.1 B.2.1 dX9_count_85 (by decide) ?_
            exact ih10 (t + 1) (a1 + 1) (a2 + 0) (a3 + 1) (by omega) (by show a1 + 1 = atTo (xw x) 100 t + (if wh (xw x) t = 100 then 1 else 0); rw [h1]; rw [if_pos q_29]) (by show a2 + 0 = atTo (xw x) 200 t + (if wh (xw x) t = 200 then 1 else 0); rw [h2]; rw [if_neg q_50]) (by show a3 + 1 = sumTo (fun p => if ti (xw x) p = none then 1 else 0) t + (if ti (xw x) t = none then 1 else 0); rw [h3]; rw [if_pos q_71]) _ _ ls hC (lv_sub hl [0, 1, 2, 3, 4, 5] rfl)
        · have q_50 : (wh (xw x) t) = 200 := (nI_eq (by omega) (by omega)).mp c_50
          refine lv_iconst (v := nI 1) B.1 B.2.1 dX9_count_53 (by decide) ?_
          refine lv_goto (tgt := 58) B.1 B.2.1 dX9_count_54 (by decide) ?_
          refine lv_iadd B.1 B.2.1 dX9_count_58 ?_
          refine r_tI (y := nI (a2 + 1)) (nI_add _ _) ?_
          refine lv_istore_n (lv' := [(3, .int (nI (a2 + 1))), (2, .int (nI (a1 + 1))), (5, .int (nI t)), (4, .int (nI a3)), (0, .ref (ad (175))), (1, .int (z))]) B.1 B.2.1 dX9_count_59 rfl hl (by decide) rfl (fun ls hl => ?_)
          refine lv_iload B.1 B.2.1 dX9_count_60 (lv_at hl 3 rfl) ?_
          refine lv_aload_n B.1 B.2.1 dX9_count_62 rfl (lv_at hl 4 rfl) ?_
          refine lv_iconst (v := nI 0) B.1 B.2.1 dX9_count_63 (by decide) ?_
          refine lv_iload B.1 B.2.1 dX9_count_64 (lv_at hl 2 rfl) ?_
          refine r_calli B hC hl.1 (175) 9 rfl rfl (by decide) hM.1 (As := [.int (nI 0), .int (nI t)]) (ctX9_inside l g lo ad hM ok hR (b := 0) hb hB hw (p := t) (by omega)) gX9_count_X9_inside rfl (n := 2) rfl (by decide +kernel) ⟨Nat.le_of_ble_eq_true rfl, Nat.le_of_ble_eq_true rfl⟩ ⟨Nat.zero_le _, Nat.zero_le _⟩ rfl (Nat.le_of_ble_eq_true rfl) dX9_count_66 (fun r66 F1 H locs hp66 hC => ?_)
          obtain ⟨er, eF⟩ := hp66
          subst er
          rw [eF] at hC
          refine lv_bipush (v := (-9)) B.1 B.2.1 dX9_count_69 (by decide) ?_
          refine lv_icmp_ne (tgt := 78) B.1 B.2.1 dX9_count_71 (by decide) (fun c_71 => ?_) (fun c_71 => ?_)
          · have q_71 : ¬ ti (xw x) t = none := fun z => c_71 ((oI_9 (fun j hj => Nat.lt_trans (hw.t10 (by omega) j hj) (by decide))).mpr z)
            refine lv_iconst (v := nI 0) B.1 B.2.1 dX9_count_78 (by decide) ?_
            refine lv_iadd B.1 B.2.1 dX9_count_79 ?_
            refine r_tI (y := nI (a3 + 0)) (nI_add _ _) ?_
            refine lv_istore (lv' := [(4, .int (nI (a3 + 0))), (3, .int (nI (a2 + 1))), (2, .int (nI (a1 + 1))), (5, .int (nI t)), (0, .ref (ad (175))), (1, .int (z))]) B.1 B.2.1 dX9_count_80 hl (by decide) rfl (fun ls hl => ?_)
            refine lv_iinc (v := nI (t + 1)) (lv' := [(5, .int (nI (t + 1))), (4, .int (nI (a3 + 0))), (3, .int (nI (a2 + 1))), (2, .int (nI (a1 + 1))), (0, .ref (ad (175))), (1, .int (z))]) B.1 B.2.1 dX9_count_82 hl (k := 3) rfl (nI_1 _) (by decide) rfl (fun ls hl => ?_)
            refine lv_goto (tgt := 10) B.1 B.2.1 dX9_count_85 (by decide) ?_
            exact ih10 (t + 1) (a1 + 1) (a2 + 1) (a3 + 0) (by omega) (by show a1 + 1 = atTo (xw x) 100 t + (if wh (xw x) t = 100 then 1 else 0); rw [h1]; rw [if_pos q_29]) (by show a2 + 1 = atTo (xw x) 200 t + (if wh (xw x) t = 200 then 1 else 0); rw [h2]; rw [if_pos q_50]) (by show a3 + 0 = sumTo (fun p => if ti (xw x) p = none then 1 else 0) t + (if ti (xw x) t = none then 1 else 0); rw [h3]; rw [if_neg q_71]) _ _ ls hC (lv_sub hl [0, 1, 2, 3, 4, 5] rfl)
          · have q_71 : ti (xw x) t = none := (oI_9 (fun j hj => Nat.lt_trans (hw.t10 (by omega) j hj) (by decide))).mp c_71
            refine lv_iconst (v := nI 1) B.1 B.2.1 dX9_count_74 (by decide) ?_
            refine lv_goto (tgt := 79) B.1 B.2.1 dX9_count_75 (by decide) ?_
            refine lv_iadd B.1 B.2.1 dX9_count_79 ?_
            refine r_tI (y := nI (a3 + 1)) (nI_add _ _) ?_
            refine lv_istore (lv' := [(4, .int (nI (a3 + 1))), (3, .int (nI (a2 + 1))), (2, .int (nI (a1 + 1))), (5, .int (nI t)), (0, .ref (ad (175))), (1, .int (z))]) B.1 B.2.1 dX9_count_80 hl (by decide) rfl (fun ls hl => ?_)
            refine lv_iinc (v := nI (t + 1)) (lv' := [(5, .int (nI (t + 1))), (4, .int (nI (a3 + 1))), (3, .int (nI (a2 + 1))), (2, .int (nI (a1 + 1))), (0, .ref (ad (175))), (1, .int (z))]) B.1 B.2.1 dX9_count_82 hl (k := 3) rfl (nI_1 _) (by decide) rfl (fun ls hl => ?_)
            refine lv_goto (tgt := 10) B.1 B.2.1 dX9_count_85 (by decide) ?_
            exact ih10 (t + 1) (a1 + 1) (a2 + 1) (a3 + 1) (by omega) (by show a1 + 1 = atTo (xw x) 100 t + (if wh (xw x) t = 100 then 1 else 0); rw [h1]; rw [if_pos q_29]) (by show a2 + 1 = atTo (xw x) 200 t + (if wh (xw x) t = 200 then 1 else 0); rw [h2]; rw [if_pos q_50]) (by show a3 + 1 = sumTo (fun p => if ti (xw x) p = none then 1 else 0) t + (if ti (xw x) t = none then 1 else 0); rw [h3]; rw [if_pos q_71]) _ _ ls hC (lv_sub hl [0, 1, 2, 3, 4, 5] rfl)
  exact loop10 (hn (xh x)) 0 0 0 0 (by omega) rfl rfl rfl _ _ ls hC (lv_sub hl [0, 1, 2, 3, 4, 5] rfl)
theorem sm_next {s1 : Nat → Int64} {f : Nat → Nat} {v : Nat} {e : Int64} (h : ∀ z, z < v → s1 z = lN (f z)) (he : e = lN (f v)) : ∀ z, z < v + 1 → vp_updL s1 v e z = lN (f z) := by
  intro z hz
  show (if z = v then e else s1 z) = _
  by_cases k : z = v
  · rw [if_pos k, k]; exact he
  · rw [if_neg k]; exact h z (by omega)
theorem sm_down {s2 : Nat → Int64} {W f : Nat → Nat} {v : Nat} {e : Int64} (h : ∀ z, z < 100 → s2 z = lN (if v + 1 ≤ z then f z else W z)) (he : e = lN (f v)) : ∀ z, z < 100 → vp_updL s2 v e z = lN (if v ≤ z then f z else W z) := by
  intro z hz
  show (if z = v then e else s2 z) = _
  by_cases k : z = v
  · rw [if_pos k, k, if_pos (Nat.le_refl _)]; exact he
  · rw [if_neg k, h z hz]
    by_cases k2 : v + 1 ≤ z
    · rw [if_pos k2, if_pos (by omega)]
    · rw [if_neg k2, if_neg (by omega)]
theorem stB (x y : Int32) : (inB (Int32.toInt64 x) (lN 0) 10 && inB (Int32.toInt64 y) (lN 0) 99) = stormB x y := by
  have e0 : (lN 0).toInt = 0 := by decide
  have e1 : (10 : Int64).toInt = 10 := by decide
  have e2 : (99 : Int64).toInt = 99 := by decide
  have e3 : (nI 10).toInt = 10 := by decide
  have e4 : (nI 99).toInt = 99 := by decide
  unfold inB stormB
  simp only [Int64.le_iff_toInt_le, Int32.le_iff_toInt_le, Int32.toInt_toInt64, e0, e1, e2, e3, e4, Int32.toInt_zero]
theorem st_j {x y : Int32} (q : stormB x y = true) : ∃ j, j ≤ 10 ∧ x = nI j := by
  simp only [stormB, Bool.and_eq_true, decide_eq_true_eq] at q
  obtain ⟨j, hj, rfl⟩ := nI_of (x := x) (by have := q.1.1; rw [Int32.le_iff_toInt_le, Int32.toInt_zero] at this; rw [Int32.lt_iff_toInt_lt, Int32.toInt_zero]; omega)
  exact ⟨j, (nI_leI hj (by decide)).mp q.1.2, rfl⟩
theorem st_i {x y : Int32} (q : stormB x y = true) : ∃ j, j ≤ 99 ∧ y = nI j := by
  simp only [stormB, Bool.and_eq_true, decide_eq_true_eq] at q
  obtain ⟨j, hj, rfl⟩ := nI_of (x := y) (by have := q.2.1; rw [Int32.le_iff_toInt_le, Int32.toInt_zero] at this; rw [Int32.lt_iff_toInt_lt, Int32.toInt_zero]; omega)
  exact ⟨j, (nI_leI hj (by decide)).mp q.2.2, rfl⟩
theorem iwX9_storm_X9 : ∀ w ∈ u_ws RX9 TX9 35, w ∈ wsX9_storm := by decide +kernel
theorem flX9_storm_28 : Cond.fieldLink RX9 28 RX9 (TX9 9).2.1 (TX9 9).2.2.1 ∈ wsX9_storm := by decide +kernel
theorem flX9_storm_55 : Cond.fieldLink RX9 55 RX9 (TX9 30).2.1 (TX9 30).2.2.1 ∈ wsX9_storm := by decide +kernel
theorem flX9_storm_114 : Cond.fieldLink RX9 114 RX9 (TX9 12).2.1 (TX9 12).2.2.1 ∈ wsX9_storm := by decide +kernel
set_option maxHeartbeats 4000000 in
set_option maxRecDepth 100000 in
theorem ctX9_storm (l : Launch) (g : Gx) (lo : Nat) (ad : Nat → Nat) {F : Nat → va_E} {c : Nat → Int32} {q : Nat → Nat → Int32} {sm : Nat → Int64} {x : XV} (hM : MC g ad F c q sm) (hX : XR x c q) (okx : XOK x) {xx yy : Int32} {u : Bool} : ML l g lo 196 ad yX9_storm wsX9_storm 3 70 [.ref (ad (175)), .int (xx), .int (yy), .int (bI u)] F (fun r F' => r = stormA x xx yy u ∧ MX g ad F' x ∧ Same 175 196 F F') := by
  obtain ⟨hTx, hR, ⟨hB, hwa, hsu⟩, hAx, hKx⟩ := id hX
  obtain ⟨okT, ok, hw, okA, okS, okAu, okSu⟩ := id okx
  have okn := ok.1
  have okp := ok.2.1
  have okh := ok.2.2.1
  have okt := okT.1
  have hS : Same 175 196 F F := Same.rf
  have hb : 0 ≤ 50 := by decide
  have hwa3 := hw.2.1
  refine enter (cc := cX9_storm) (maxL := 9) (ret := some .long) (own := RX9) (by decide +kernel) rfl rfl (Nat.le_of_ble_eq_true rfl) ?_
  intro pp ee ss mm below meth cc B hini hC ls hl
  have hl : lv_has ls 9 [(0, .ref (ad (175))), (1, .int (xx)), (2, .int (yy)), (3, .int (bI u))] := hl
  refine lv_iload_n B.1 B.2.1 dX9_storm_0 rfl (lv_at hl 1 rfl) ?_
  refine lv_i2l (v := Int32.toInt64 (xx)) B.1 B.2.1 dX9_storm_1 (rfl) ?_
  refine lv_lconst (v := lN 0) B.1 B.2.1 dX9_storm_2 (by decide) ?_
  refine lv_ldc2 (own := RX9) (v := 10) B.1 B.2.1 B.2.2.2.1 (B.2.2.2.2.1 (.constantLong RX9 200 (10)) (by decide +kernel)) dX9_storm_3 ?_
  refine r_scalli B hC hl.1 (As := [.long (Int32.toInt64 (xx)), .long (lN 0), .long (10)]) (ctX9_in l g lo ad (v := Int32.toInt64 xx) (a := lN 0) (b := 10)) gX9_storm_X9_in rfl (n := 3) rfl (by decide +kernel) ⟨Nat.le_of_ble_eq_true rfl, Nat.le_of_ble_eq_true rfl⟩ ⟨Nat.zero_le _, Nat.zero_le _⟩ rfl (Nat.le_of_ble_eq_true rfl) dX9_storm_6 (fun r6 F1 H locs hp6 hC => ?_)
  obtain ⟨er, eF⟩ := hp6
  subst er
  rw [eF] at hC
  refine lv_if_eq (tgt := 24) B.1 B.2.1 dX9_storm_9 (by decide) (fun c_9 => ?_) (fun c_9 => ?_)
  · have qS : ¬ stormB xx yy = true := by rw [← stB, bI_f.mp c_9, Bool.false_and]; decide
    refine lv_ldc2 (own := RX9) (v := (-2)) B.1 B.2.1 B.2.2.2.1 (B.2.2.2.2.1 (.constantLong RX9 202 (-2)) (by decide +kernel)) dX9_storm_24 ?_
    exact r_eL B hC (v := (-2)) (⟨by rw [stormA, if_neg qS], ⟨_, _, _, hM, hX⟩, hS⟩) dX9_storm_27
  · have q_9 := bI_t.mp c_9
    refine lv_iload_n B.1 B.2.1 dX9_storm_12 rfl (lv_at hl 2 rfl) ?_
    refine lv_i2l (v := Int32.toInt64 (yy)) B.1 B.2.1 dX9_storm_13 (rfl) ?_
    refine lv_lconst (v := lN 0) B.1 B.2.1 dX9_storm_14 (by decide) ?_
    refine lv_ldc2 (own := RX9) (v := 99) B.1 B.2.1 B.2.2.2.1 (B.2.2.2.2.1 (.constantLong RX9 195 (99)) (by decide +kernel)) dX9_storm_15 ?_
    refine r_scalli B hC hl.1 (As := [.long (Int32.toInt64 (yy)), .long (lN 0), .long (99)]) (ctX9_in l g lo ad (v := Int32.toInt64 yy) (a := lN 0) (b := 99)) gX9_storm_X9_in rfl (n := 3) rfl (by decide +kernel) ⟨Nat.le_of_ble_eq_true rfl, Nat.le_of_ble_eq_true rfl⟩ ⟨Nat.zero_le _, Nat.zero_le _⟩ rfl (Nat.le_of_ble_eq_true rfl) dX9_storm_18 (fun r18 F1 H locs hp18 hC => ?_)
    obtain ⟨er, eF⟩ := hp18
    subst er
    rw [eF] at hC
    refine lv_if_ne (tgt := 28) B.1 B.2.1 dX9_storm_21 (by decide) (fun c_21 => ?_) (fun c_21 => ?_)
    · have qS : stormB xx yy = true := by rw [← stB, q_9, bI_t.mp c_21]; rfl
      obtain ⟨j, hj10, ej⟩ := st_j qS
      obtain ⟨i, hi99, ei⟩ := st_i qS
      have hl90 := leakV_le (w := xw x) ok
      rw [ej, ei] at hl
      refine lv_iconst (v := nI 0) B.1 B.2.1 dX9_storm_28 (by decide) ?_
      refine lv_istore (lv' := [(4, .int (nI 0)), (0, .ref (ad (175))), (1, .int (nI j)), (2, .int (nI i)), (3, .int (bI u))]) B.1 B.2.1 dX9_storm_29 hl (by decide) rfl (fun ls hl => ?_)
      have loop31 : ∀ (k : Nat) (v : Nat) (s1 : Nat → Int64) (G : Nat → va_E), (v + k = 100) → (MC g ad G c q s1) → (Same 175 196 F G) → (∀ z, z < v → s1 z = lN (if z = leakV (xh x) (xw x) then 1 else 0)) → ∀ (H : Heap) (locs : List Loc) (ls : Array Slot), Cu g lo 196 ad G ss ss.heap H locs → lv_has ls 9 [(4, .int (nI v)), (0, .ref (ad (175))), (1, .int (nI j)), (2, .int (nI i)), (3, .int (bI u))] → W pp l ee { frames := 3, cells := 0, slots := 0, locals := 70 } ss mm ([.ref (ad (175)), .int (xx), .int (yy), .int (bI u)] : List Value).toArray below meth cc H locs 0 0 (MQ below (va_Ql (fun r F' => r = stormA x xx yy u ∧ MX g ad F' x ∧ Same 175 196 F F') (fun F' t => Wd g lo 196 ad F' t) (fun q => lo ≤ q)) ([.ref (ad (175)), .int (xx), .int (yy), .int (bI u)] : List Value).toArray ss 0 0 (fun q => lo ≤ q)) (F0 mm 31 ls []) := by
        intro k
        induction k with
        | zero =>
          intro v s1 G hvk hM1 hS1 hs1 H locs ls hC hl
          refine lv_iload B.1 B.2.1 dX9_storm_31 (lv_at hl 0 rfl) ?_
          refine lv_bipush (v := nI 100) B.1 B.2.1 dX9_storm_33 (by decide) ?_
          refine lv_icmp_ge (tgt := 66) B.1 B.2.1 dX9_storm_35 (by decide) (fun _ => ?_) (fun z => absurd (nI_le (by omega) (by omega)) z)
          refine lv_lconst (v := lN 1) B.1 B.2.1 dX9_storm_66 (by decide) ?_
          refine lv_lstore (lv' := [(4, .long (lN 1)), (0, .ref (ad (175))), (1, .int (nI j)), (2, .int (nI i)), (3, .int (bI u))]) B.1 B.2.1 dX9_storm_67 hl (by decide) rfl (fun ls hl => ?_)
          refine lv_iconst (v := nI 0) B.1 B.2.1 dX9_storm_69 (by decide) ?_
          refine lv_istore (lv' := [(6, .int (nI 0)), (4, .long (lN 1)), (0, .ref (ad (175))), (1, .int (nI j)), (2, .int (nI i)), (3, .int (bI u))]) B.1 B.2.1 dX9_storm_70 hl (by decide) rfl (fun ls hl => ?_)
          have loop72 : ∀ (k : Nat) (p a : Nat) (s1 : Nat → Int64) (G : Nat → va_E), (p + k = hn (xh x)) → (MC g ad G c q s1) → (Same 175 196 F G) → (∀ z, z < 100 → s1 z = lN (wTo (xh x) (xw x) j p z)) → (a = aTo (xw x) p) → ∀ (H : Heap) (locs : List Loc) (ls : Array Slot), Cu g lo 196 ad G ss ss.heap H locs → lv_has ls 9 [(6, .int (nI p)), (4, .long (lN a)), (0, .ref (ad (175))), (1, .int (nI j)), (2, .int (nI i)), (3, .int (bI u))] → W pp l ee { frames := 3, cells := 0, slots := 0, locals := 70 } ss mm ([.ref (ad (175)), .int (xx), .int (yy), .int (bI u)] : List Value).toArray below meth cc H locs 0 0 (MQ below (va_Ql (fun r F' => r = stormA x xx yy u ∧ MX g ad F' x ∧ Same 175 196 F F') (fun F' t => Wd g lo 196 ad F' t) (fun q => lo ≤ q)) ([.ref (ad (175)), .int (xx), .int (yy), .int (bI u)] : List Value).toArray ss 0 0 (fun q => lo ≤ q)) (F0 mm 72 ls []) := by
            intro k
            induction k with
            | zero =>
              intro p a s1 G hpk hM1 hS1 hs1 ha H locs ls hC hl
              have hi9 := (ok.2.2.2.1 p).2
              refine lv_iload B.1 B.2.1 dX9_storm_72 (lv_at hl 0 rfl) ?_
              refine lv_aload_n B.1 B.2.1 dX9_storm_74 rfl (lv_at hl 2 rfl) ?_
              refine r_cg B hC (i := 175) (by decide) hM1.1 (C := RX9) (T := TX9) (n := 35) rfl iwX9_storm_X9 12 (by decide) (index := 114) flX9_storm_114 rfl (v := .int (c 12)) rfl dX9_storm_75 ?_
              refine r_tI (y := nI (hn (xh x))) (hR.1) ?_
              refine lv_icmp_ge (tgt := 198) B.1 B.2.1 dX9_storm_78 (by decide) (fun _ => ?_) (fun z => absurd (nI_le (by omega) (by omega)) z)
              have hsB : sumTo (wTo (xh x) (xw x) j (hn (xh x))) (i + 1) < 2 ^ 62 := Nat.lt_of_le_of_lt (sumTo_le (fun z => wTo_le hj10 (hn (xh x)) z) _) (Nat.lt_of_le_of_lt (Nat.mul_le_mul (show i + 1 ≤ 100 by omega) (Nat.pow_le_pow_right (by decide) okn)) (by decide))
              have haB2 : aTo (xw x) (hn (xh x)) < 2 ^ 49 := Nat.lt_of_le_of_lt (aTo_le _ _) (Nat.lt_of_le_of_lt (Nat.pow_le_pow_right (by decide) okn) (by decide))
              have haB : aTo (xw x) (hn (xh x)) < 2 ^ 62 := by omega
              have epn : p = hn (xh x) := by omega
              rw [epn] at ha hs1
              refine lv_lconst (v := lN 0) B.1 B.2.1 dX9_storm_198 (by decide) ?_
              refine lv_lstore (lv' := [(6, .long (lN 0)), (4, .long (lN a)), (0, .ref (ad (175))), (1, .int (nI j)), (2, .int (nI i)), (3, .int (bI u))]) B.1 B.2.1 dX9_storm_199 hl (by decide) rfl (fun ls hl => ?_)
              refine lv_iconst (v := nI 0) B.1 B.2.1 dX9_storm_201 (by decide) ?_
              refine lv_istore (lv' := [(8, .int (nI 0)), (6, .long (lN 0)), (4, .long (lN a)), (0, .ref (ad (175))), (1, .int (nI j)), (2, .int (nI i)), (3, .int (bI u))]) B.1 B.2.1 dX9_storm_202 hl (by decide) rfl (fun ls hl => ?_)
              have loop204 : ∀ (k : Nat) (v b3 : Nat), (v + k = i + 1) → (b3 = sumTo (wTo (xh x) (xw x) j (hn (xh x))) v) → ∀ (H : Heap) (locs : List Loc) (ls : Array Slot), Cu g lo 196 ad G ss ss.heap H locs → lv_has ls 9 [(8, .int (nI v)), (6, .long (lN b3)), (4, .long (lN a)), (0, .ref (ad (175))), (1, .int (nI j)), (2, .int (nI i)), (3, .int (bI u))] → W pp l ee { frames := 3, cells := 0, slots := 0, locals := 70 } ss mm ([.ref (ad (175)), .int (xx), .int (yy), .int (bI u)] : List Value).toArray below meth cc H locs 0 0 (MQ below (va_Ql (fun r F' => r = stormA x xx yy u ∧ MX g ad F' x ∧ Same 175 196 F F') (fun F' t => Wd g lo 196 ad F' t) (fun q => lo ≤ q)) ([.ref (ad (175)), .int (xx), .int (yy), .int (bI u)] : List Value).toArray ss 0 0 (fun q => lo ≤ q)) (F0 mm 204 ls []) := by
                intro k
                induction k with
                | zero =>
                  intro v b3 hvk hb3 H locs ls hC hl
                  refine lv_iload B.1 B.2.1 dX9_storm_204 (lv_at hl 0 rfl) ?_
                  refine lv_iload_n B.1 B.2.1 dX9_storm_206 rfl (lv_at hl 5 rfl) ?_
                  refine lv_icmp_gt (tgt := 228) B.1 B.2.1 dX9_storm_207 (by decide) (fun _ => ?_) (fun z => absurd (nI_lt (by omega) (by omega)) z)
                  have ev : v = i + 1 := by omega
                  rw [ev] at hb3
                  rw [hb3, ha] at hl
                  refine lv_lload B.1 B.2.1 dX9_storm_228 (lv_at hl 1 rfl) ?_
                  refine lv_lload B.1 B.2.1 dX9_storm_230 (lv_at hl 2 rfl) ?_
                  refine lv_iload_n B.1 B.2.1 dX9_storm_232 rfl (lv_at hl 6 rfl) ?_
                  refine r_scalll B hC hl.1 (As := [.long (lN (sumTo (wTo (xh x) (xw x) j (hn (xh x))) (i + 1))), .long (lN (aTo (xw x) (hn (xh x)))), .int (bI u)]) (ctX9_part l g lo ad (a := sumTo (wTo (xh x) (xw x) j (hn (xh x))) (i + 1)) (b := aTo (xw x) (hn (xh x))) (u := u) hsB haB (aTo_pos _ _)) gX9_storm_X9_part rfl (n := 3) rfl (by decide +kernel) ⟨Nat.le_of_ble_eq_true rfl, Nat.le_of_ble_eq_true rfl⟩ ⟨Nat.zero_le _, Nat.zero_le _⟩ rfl (Nat.le_of_ble_eq_true rfl) dX9_storm_233 (fun r233 F91 H locs hp233 hC => ?_)
                  obtain ⟨er, eF⟩ := hp233
                  subst er
                  rw [eF] at hC
                  exact r_eL B hC (v := lN (partA (sumTo (wTo (xh x) (xw x) j (hn (xh x))) (i + 1)) (aTo (xw x) (hn (xh x))) u)) (⟨by rw [stormA, if_pos qS, ej, ei, ix_n (by omega), ix_n (by omega), part_eq (aTo_pos _ _) haB2, w_cut ok], ⟨_, _, _, hM1, hX⟩, hS1⟩) dX9_storm_236
                | succ k ih204 =>
                  intro v b3 hvk hb3 H locs ls hC hl
                  refine lv_iload B.1 B.2.1 dX9_storm_204 (lv_at hl 0 rfl) ?_
                  refine lv_iload_n B.1 B.2.1 dX9_storm_206 rfl (lv_at hl 5 rfl) ?_
                  refine lv_icmp_gt (tgt := 228) B.1 B.2.1 dX9_storm_207 (by decide) (fun z => absurd z (nI_nlt (by omega) (by omega))) (fun _ => ?_)
                  refine lv_lload B.1 B.2.1 dX9_storm_210 (lv_at hl 1 rfl) ?_
                  refine lv_aload_n B.1 B.2.1 dX9_storm_212 rfl (lv_at hl 3 rfl) ?_
                  refine r_cg B hC (i := 175) (by decide) hM1.1 (C := RX9) (T := TX9) (n := 35) rfl iwX9_storm_X9 30 (by decide) (index := 55) flX9_storm_55 rfl (v := .ref (ad (191))) rfl dX9_storm_213 ?_
                  refine lv_iload B.1 B.2.1 dX9_storm_216 (lv_at hl 0 rfl) ?_
                  refine r_clald B hC (i := 191) (by decide) hM1.c191 (j := v) (by omega) (by decide) dX9_storm_218 ?_
                  refine r_tL (y := s1 v) rfl ?_
                  refine r_tL (y := lN (wTo (xh x) (xw x) j (hn (xh x)) v)) (hs1 v (by omega)) ?_
                  refine lv_ladd B.1 B.2.1 dX9_storm_219 ?_
                  refine r_tL (y := lN (b3 + (wTo (xh x) (xw x) j (hn (xh x)) v))) (lN_add _ _) ?_
                  refine lv_lstore (lv' := [(6, .long (lN (b3 + (wTo (xh x) (xw x) j (hn (xh x)) v)))), (8, .int (nI v)), (4, .long (lN a)), (0, .ref (ad (175))), (1, .int (nI j)), (2, .int (nI i)), (3, .int (bI u))]) B.1 B.2.1 dX9_storm_220 hl (by decide) rfl (fun ls hl => ?_)
                  refine lv_iinc (v := nI (v + 1)) (lv' := [(8, .int (nI (v + 1))), (6, .long (lN (b3 + (wTo (xh x) (xw x) j (hn (xh x)) v)))), (4, .long (lN a)), (0, .ref (ad (175))), (1, .int (nI j)), (2, .int (nI i)), (3, .int (bI u))]) B.1 B.2.1 dX9_storm_222 hl (k := 1) rfl (nI_1 _) (by decide) rfl (fun ls hl => ?_)
                  refine lv_goto (tgt := 204) B.1 B.2.1 dX9_storm_225 (by decide) ?_
                  exact ih204 (v + 1) (b3 + wTo (xh x) (xw x) j (hn (xh x)) v) (by omega) (by rw [sumTo, hb3]) _ _ ls hC (lv_sub hl [0, 1, 2, 3, 4, 5, 6] rfl)
              exact loop204 (i + 1) 0 0 (by omega) rfl _ _ ls hC (lv_sub hl [0, 1, 2, 3, 4, 5, 6] rfl)
            | succ k ih72 =>
              intro p a s1 G hpk hM1 hS1 hs1 ha H locs ls hC hl
              have hi9 := (ok.2.2.2.1 p).2
              refine lv_iload B.1 B.2.1 dX9_storm_72 (lv_at hl 0 rfl) ?_
              refine lv_aload_n B.1 B.2.1 dX9_storm_74 rfl (lv_at hl 2 rfl) ?_
              refine r_cg B hC (i := 175) (by decide) hM1.1 (C := RX9) (T := TX9) (n := 35) rfl iwX9_storm_X9 12 (by decide) (index := 114) flX9_storm_114 rfl (v := .int (c 12)) rfl dX9_storm_75 ?_
              refine r_tI (y := nI (hn (xh x))) (hR.1) ?_
              refine lv_icmp_ge (tgt := 198) B.1 B.2.1 dX9_storm_78 (by decide) (fun z => absurd z (nI_ge (by omega) (by omega))) (fun _ => ?_)
              refine lv_aload_n B.1 B.2.1 dX9_storm_81 rfl (lv_at hl 2 rfl) ?_
              refine lv_iconst (v := nI 0) B.1 B.2.1 dX9_storm_82 (by decide) ?_
              refine lv_iload B.1 B.2.1 dX9_storm_83 (lv_at hl 0 rfl) ?_
              refine r_calli B hC hl.1 (175) 9 rfl rfl (by decide) hM1.1 (As := [.int (nI 0), .int (nI p)]) (ctX9_inside l g lo ad hM1 ok hR (b := 0) hb hB hw (p := p) (by omega)) gX9_storm_X9_inside rfl (n := 2) rfl (by decide +kernel) ⟨Nat.le_of_ble_eq_true rfl, Nat.le_of_ble_eq_true rfl⟩ ⟨Nat.zero_le _, Nat.zero_le _⟩ rfl (Nat.le_of_ble_eq_true rfl) dX9_storm_85 (fun r85 F51 H locs hp85 hC => ?_)
              obtain ⟨er, eF⟩ := hp85
              subst er
              rw [eF] at hC
              refine lv_bipush (v := (-9)) B.1 B.2.1 dX9_storm_88 (by decide) ?_
              refine lv_icmp_eq (tgt := 97) B.1 B.2.1 dX9_storm_90 (by decide) (fun c_90 => ?_) (fun c_90 => ?_)
              · have q_90 : ti (xw x) p = none := (oI_9 (fun j hj => Nat.lt_trans (hw.t10 (by omega) j hj) (by decide))).mp c_90
                refine lv_iconst (v := nI 0) B.1 B.2.1 dX9_storm_97 (by decide) ?_
                refine lv_istore (lv' := [(7, .int (nI 0)), (6, .int (nI p)), (4, .long (lN a)), (0, .ref (ad (175))), (1, .int (nI j)), (2, .int (nI i)), (3, .int (bI u))]) B.1 B.2.1 dX9_storm_98 hl (by decide) rfl (fun ls hl => ?_)
                refine lv_bipush (v := nI 99) B.1 B.2.1 dX9_storm_100 (by decide) ?_
                refine lv_istore (lv' := [(8, .int (nI 99)), (7, .int (nI 0)), (6, .int (nI p)), (4, .long (lN a)), (0, .ref (ad (175))), (1, .int (nI j)), (2, .int (nI i)), (3, .int (bI u))]) B.1 B.2.1 dX9_storm_102 hl (by decide) rfl (fun ls hl => ?_)
                refine lv_iload B.1 B.2.1 dX9_storm_104 (lv_at hl 0 rfl) ?_
                refine lv_if_lt (tgt := 175) B.1 B.2.1 dX9_storm_106 (by decide) (fun z => absurd z (by decide)) (fun _ => ?_)
                refine lv_iload B.1 B.2.1 dX9_storm_109 (lv_at hl 1 rfl) ?_
                refine lv_if_eq (tgt := 175) B.1 B.2.1 dX9_storm_111 (by decide) (fun _ => ?_) (fun z => absurd (by decide) z)
                refine lv_lload B.1 B.2.1 dX9_storm_175 (lv_at hl 3 rfl) ?_
                refine lv_iload B.1 B.2.1 dX9_storm_177 (lv_at hl 1 rfl) ?_
                refine lv_if_eq (tgt := 188) B.1 B.2.1 dX9_storm_179 (by decide) (fun _ => ?_) (fun z => absurd (by decide) z)
                refine lv_lconst (v := lN 1) B.1 B.2.1 dX9_storm_188 (by decide) ?_
                refine lv_lmul B.1 B.2.1 dX9_storm_189 ?_
                refine r_tL (y := lN (a * 1)) (lN_mul _ _) ?_
                refine lv_lstore (lv' := [(4, .long (lN (a * 1))), (8, .int (nI 99)), (7, .int (nI 0)), (6, .int (nI p)), (0, .ref (ad (175))), (1, .int (nI j)), (2, .int (nI i)), (3, .int (bI u))]) B.1 B.2.1 dX9_storm_190 hl (by decide) rfl (fun ls hl => ?_)
                refine lv_iinc (v := nI (p + 1)) (lv' := [(6, .int (nI (p + 1))), (4, .long (lN (a * 1))), (8, .int (nI 99)), (7, .int (nI 0)), (0, .ref (ad (175))), (1, .int (nI j)), (2, .int (nI i)), (3, .int (bI u))]) B.1 B.2.1 dX9_storm_192 hl (k := 3) rfl (nI_1 _) (by decide) rfl (fun ls hl => ?_)
                refine lv_goto (tgt := 72) B.1 B.2.1 dX9_storm_195 (by decide) ?_
                exact ih72 (p + 1) (a * 1) s1 G (by omega) hM1 hS1 (fun z hz => by rw [wTo, if_pos q_90]; exact hs1 z hz) (by rw [aTo, if_pos q_90, ha, Nat.mul_one]) _ _ ls hC (lv_sub hl [0, 1, 4, 5, 6, 7] rfl)
              · have q_90 : ¬ ti (xw x) p = none := fun z => c_90 ((oI_9 (fun j hj => Nat.lt_trans (hw.t10 (by omega) j hj) (by decide))).mpr z)
                refine lv_iconst (v := nI 1) B.1 B.2.1 dX9_storm_93 (by decide) ?_
                refine lv_goto (tgt := 98) B.1 B.2.1 dX9_storm_94 (by decide) ?_
                refine lv_istore (lv' := [(7, .int (nI 1)), (6, .int (nI p)), (4, .long (lN a)), (0, .ref (ad (175))), (1, .int (nI j)), (2, .int (nI i)), (3, .int (bI u))]) B.1 B.2.1 dX9_storm_98 hl (by decide) rfl (fun ls hl => ?_)
                refine lv_bipush (v := nI 99) B.1 B.2.1 dX9_storm_100 (by decide) ?_
                refine r_tI (y := nI 100 - nI 1) rfl ?_
                refine lv_istore (lv' := [(8, .int (nI 100 - nI 1)), (7, .int (nI 1)), (6, .int (nI p)), (4, .long (lN a)), (0, .ref (ad (175))), (1, .int (nI j)), (2, .int (nI i)), (3, .int (bI u))]) B.1 B.2.1 dX9_storm_102 hl (by decide) rfl (fun ls hl => ?_)
                have loop104 : ∀ (v : Nat) (s2 : Nat → Int64) (G2 : Nat → va_E), (v ≤ 100) → (MC g ad G2 c q s2) → (Same 175 196 F G2) → (∀ z, z < 100 → s2 z = lN (if v ≤ z then tearV (wTo (xh x) (xw x) j p) (hin_ (xh x) p) j z else wTo (xh x) (xw x) j p z)) → ∀ (H : Heap) (locs : List Loc) (ls : Array Slot), Cu g lo 196 ad G2 ss ss.heap H locs → lv_has ls 9 [(8, .int (nI v - nI 1)), (7, .int (nI 1)), (6, .int (nI p)), (4, .long (lN a)), (0, .ref (ad (175))), (1, .int (nI j)), (2, .int (nI i)), (3, .int (bI u))] → W pp l ee { frames := 3, cells := 0, slots := 0, locals := 70 } ss mm ([.ref (ad (175)), .int (xx), .int (yy), .int (bI u)] : List Value).toArray below meth cc H locs 0 0 (MQ below (va_Ql (fun r F' => r = stormA x xx yy u ∧ MX g ad F' x ∧ Same 175 196 F F') (fun F' t => Wd g lo 196 ad F' t) (fun q => lo ≤ q)) ([.ref (ad (175)), .int (xx), .int (yy), .int (bI u)] : List Value).toArray ss 0 0 (fun q => lo ≤ q)) (F0 mm 104 ls []) := by
                  intro v
                  induction v with
                  | zero =>
                    intro s2 G2 hvk hM2 hS2 hs2 H locs ls hC hl
                    have hl : lv_has ls 9 [(8, .int ((-1))), (7, .int (nI 1)), (6, .int (nI p)), (4, .long (lN a)), (0, .ref (ad (175))), (1, .int (nI j)), (2, .int (nI i)), (3, .int (bI u))] := by rw [show nI 0 - nI 1 = -1 from by decide] at hl; exact hl
                    refine lv_iload B.1 B.2.1 dX9_storm_104 (lv_at hl 0 rfl) ?_
                    refine lv_if_lt (tgt := 175) B.1 B.2.1 dX9_storm_106 (by decide) (fun _ => ?_) (fun z => absurd (by decide) z)
                    refine lv_lload B.1 B.2.1 dX9_storm_175 (lv_at hl 3 rfl) ?_
                    refine lv_iload B.1 B.2.1 dX9_storm_177 (lv_at hl 1 rfl) ?_
                    refine lv_if_eq (tgt := 188) B.1 B.2.1 dX9_storm_179 (by decide) (fun z => absurd z (by decide)) (fun _ => ?_)
                    refine lv_ldc2 (own := RX9) (v := 10) B.1 B.2.1 B.2.2.2.1 (B.2.2.2.2.1 (.constantLong RX9 200 (10)) (by decide +kernel)) dX9_storm_182 ?_
                    refine r_tL (y := lN 10) (rfl) ?_
                    refine lv_goto (tgt := 189) B.1 B.2.1 dX9_storm_185 (by decide) ?_
                    refine lv_lmul B.1 B.2.1 dX9_storm_189 ?_
                    refine r_tL (y := lN (a * 10)) (lN_mul _ _) ?_
                    refine lv_lstore (lv' := [(4, .long (lN (a * 10))), (8, .int ((-1))), (7, .int (nI 1)), (6, .int (nI p)), (0, .ref (ad (175))), (1, .int (nI j)), (2, .int (nI i)), (3, .int (bI u))]) B.1 B.2.1 dX9_storm_190 hl (by decide) rfl (fun ls hl => ?_)
                    refine lv_iinc (v := nI (p + 1)) (lv' := [(6, .int (nI (p + 1))), (4, .long (lN (a * 10))), (8, .int ((-1))), (7, .int (nI 1)), (0, .ref (ad (175))), (1, .int (nI j)), (2, .int (nI i)), (3, .int (bI u))]) B.1 B.2.1 dX9_storm_192 hl (k := 3) rfl (nI_1 _) (by decide) rfl (fun ls hl => ?_)
                    refine lv_goto (tgt := 72) B.1 B.2.1 dX9_storm_195 (by decide) ?_
                    exact ih72 (p + 1) (a * 10) s2 G2 (by omega) hM2 hS2 (fun z hz => by rw [wTo, if_neg q_90, hs2 z hz, if_pos (by omega)]) (by rw [aTo, if_neg q_90, ha]) _ _ ls hC (lv_sub hl [0, 1, 4, 5, 6, 7] rfl)
                  | succ v ih104 =>
                    intro s2 G2 hvk hM2 hS2 hs2 H locs ls hC hl
                    have hl : lv_has ls 9 [(8, .int (nI v)), (7, .int (nI 1)), (6, .int (nI p)), (4, .long (lN a)), (0, .ref (ad (175))), (1, .int (nI j)), (2, .int (nI i)), (3, .int (bI u))] := by rw [nI_p1 v] at hl; exact hl
                    refine lv_iload B.1 B.2.1 dX9_storm_104 (lv_at hl 0 rfl) ?_
                    refine lv_if_lt (tgt := 175) B.1 B.2.1 dX9_storm_106 (by decide) (fun z => absurd z (nI_pos (by omega))) (fun _ => ?_)
                    refine lv_iload B.1 B.2.1 dX9_storm_109 (lv_at hl 1 rfl) ?_
                    refine lv_if_eq (tgt := 175) B.1 B.2.1 dX9_storm_111 (by decide) (fun z => absurd z (by decide)) (fun _ => ?_)
                    refine lv_aload_n B.1 B.2.1 dX9_storm_114 rfl (lv_at hl 4 rfl) ?_
                    refine r_cg B hC (i := 175) (by decide) hM2.1 (C := RX9) (T := TX9) (n := 35) rfl iwX9_storm_X9 30 (by decide) (index := 55) flX9_storm_55 rfl (v := .ref (ad (191))) rfl dX9_storm_115 ?_
                    refine lv_iload B.1 B.2.1 dX9_storm_118 (lv_at hl 0 rfl) ?_
                    refine lv_aload_n B.1 B.2.1 dX9_storm_120 rfl (lv_at hl 4 rfl) ?_
                    refine r_cg B hC (i := 175) (by decide) hM2.1 (C := RX9) (T := TX9) (n := 35) rfl iwX9_storm_X9 30 (by decide) (index := 55) flX9_storm_55 rfl (v := .ref (ad (191))) rfl dX9_storm_121 ?_
                    refine lv_iload B.1 B.2.1 dX9_storm_124 (lv_at hl 0 rfl) ?_
                    refine r_clald B hC (i := 191) (by decide) hM2.c191 (j := v) (by omega) (by decide) dX9_storm_126 ?_
                    refine r_tL (y := s2 v) rfl ?_
                    refine r_tL (y := lN (wTo (xh x) (xw x) j p v)) (by rw [hs2 v (by omega), if_neg (by omega)]) ?_
                    refine lv_bipush (v := nI 10) B.1 B.2.1 dX9_storm_127 (by decide) ?_
                    refine lv_iload_n B.1 B.2.1 dX9_storm_129 rfl (lv_at hl 5 rfl) ?_
                    refine lv_isub B.1 B.2.1 dX9_storm_130 ?_
                    refine r_tI (y := nI (10 - j)) (pk_sub (by omega)) ?_
                    refine lv_i2l (v := lN (10 - j)) B.1 B.2.1 dX9_storm_131 (nI_l (by omega)) ?_
                    refine lv_lmul B.1 B.2.1 dX9_storm_132 ?_
                    refine r_tL (y := lN ((wTo (xh x) (xw x) j p v) * (10 - j))) (lN_mul _ _) ?_
                    refine lv_iload B.1 B.2.1 dX9_storm_133 (lv_at hl 0 rfl) ?_
                    refine lv_aload_n B.1 B.2.1 dX9_storm_135 rfl (lv_at hl 4 rfl) ?_
                    refine r_cg B hC (i := 175) (by decide) hM2.1 (C := RX9) (T := TX9) (n := 35) rfl iwX9_storm_X9 9 (by decide) (index := 28) flX9_storm_28 rfl (v := .ref (ad (182))) rfl dX9_storm_136 ?_
                    refine lv_iload B.1 B.2.1 dX9_storm_139 (lv_at hl 2 rfl) ?_
                    refine r_cald B hC (i := 182) (by decide) hM2.c182 (j := p) (by omega) (by decide) dX9_storm_141 ?_
                    refine r_tI (y := q 182 p) rfl ?_
                    refine r_tI (y := nI (hin_ (xh x) p)) ((hR.2.2.2 p (by omega)).2.1) ?_
                    refine lv_icmp_lt (tgt := 166) B.1 B.2.1 dX9_storm_142 (by decide) (fun c_142 => ?_) (fun c_142 => ?_)
                    · have q_142 : v < (hin_ (xh x) p) := (nI_ltI (by omega) (by omega)).mp c_142
                      refine lv_lconst (v := lN 0) B.1 B.2.1 dX9_storm_166 (by decide) ?_
                      refine lv_ladd B.1 B.2.1 dX9_storm_167 ?_
                      refine r_tL (y := lN (((wTo (xh x) (xw x) j p v) * (10 - j)) + 0)) (lN_add _ _) ?_
                      refine r_clast B hC (i := 191) (by decide) hM2.c191 (j := v) (by omega) (by decide) dX9_storm_168 ?_
                      intro H locs hC
                      obtain ⟨F71, eF71⟩ : ∃ f : Nat → va_E, f = va_up G2 191 (.inl (g.2.2 2, 100, .inr (.inl (vp_updL s2 (v) (lN (((wTo (xh x) (xw x) j p v) * (10 - j)) + 0)))))) := ⟨_, rfl⟩
                      have hC : Cu g lo 196 ad F71 ss ss.heap H locs := by rw [eF71]; exact hC
                      obtain ⟨su71, esu71⟩ : ∃ f, f = vp_updL s2 (v) (lN (((wTo (xh x) (xw x) j p v) * (10 - j)) + 0)) := ⟨_, rfl⟩
                      have hM_F71 : MC g ad F71 c q su71 := by rw [esu71]; exact hM2.sum eF71
                      have hS_F71 : Same 175 196 F F71 := by rw [eF71]; exact hS2.up (by decide) (by decide)
                      refine lv_iinc (v := nI v - nI 1) (lv' := [(8, .int (nI v - nI 1)), (7, .int (nI 1)), (6, .int (nI p)), (4, .long (lN a)), (0, .ref (ad (175))), (1, .int (nI j)), (2, .int (nI i)), (3, .int (bI u))]) B.1 B.2.1 dX9_storm_169 hl (k := 0) rfl (nI_dec v) (by decide) rfl (fun ls hl => ?_)
                      refine lv_goto (tgt := 104) B.1 B.2.1 dX9_storm_172 (by decide) ?_
                      exact ih104 su71 F71 (by omega) hM_F71 hS_F71 (fun z hz => by rw [esu71]; exact sm_down hs2 (by rw [tearV, if_neg (by omega)]) z hz) _ _ ls hC (lv_sub hl [0, 1, 2, 3, 4, 5, 6, 7] rfl)
                    · have q_142 : ¬ v < (hin_ (xh x) p) := fun z => c_142 ((nI_ltI (by omega) (by omega)).mpr z)
                      refine lv_aload_n B.1 B.2.1 dX9_storm_145 rfl (lv_at hl 4 rfl) ?_
                      refine r_cg B hC (i := 175) (by decide) hM2.1 (C := RX9) (T := TX9) (n := 35) rfl iwX9_storm_X9 30 (by decide) (index := 55) flX9_storm_55 rfl (v := .ref (ad (191))) rfl dX9_storm_146 ?_
                      refine lv_iload B.1 B.2.1 dX9_storm_149 (lv_at hl 0 rfl) ?_
                      refine lv_aload_n B.1 B.2.1 dX9_storm_151 rfl (lv_at hl 4 rfl) ?_
                      refine r_cg B hC (i := 175) (by decide) hM2.1 (C := RX9) (T := TX9) (n := 35) rfl iwX9_storm_X9 9 (by decide) (index := 28) flX9_storm_28 rfl (v := .ref (ad (182))) rfl dX9_storm_152 ?_
                      refine lv_iload B.1 B.2.1 dX9_storm_155 (lv_at hl 2 rfl) ?_
                      refine r_cald B hC (i := 182) (by decide) hM2.c182 (j := p) (by omega) (by decide) dX9_storm_157 ?_
                      refine r_tI (y := q 182 p) rfl ?_
                      refine r_tI (y := nI (hin_ (xh x) p)) ((hR.2.2.2 p (by omega)).2.1) ?_
                      refine lv_isub B.1 B.2.1 dX9_storm_158 ?_
                      refine r_tI (y := nI (v - hin_ (xh x) p)) (pk_sub (by omega)) ?_
                      refine r_clald B hC (i := 191) (by decide) hM2.c191 (j := (v - hin_ (xh x) p)) (by omega) (by decide) dX9_storm_159 ?_
                      refine r_tL (y := s2 (v - hin_ (xh x) p)) rfl ?_
                      refine r_tL (y := lN (wTo (xh x) (xw x) j p (v - hin_ (xh x) p))) (by rw [hs2 _ (by omega), if_neg (by omega)]) ?_
                      refine lv_iload_n B.1 B.2.1 dX9_storm_160 rfl (lv_at hl 5 rfl) ?_
                      refine lv_i2l (v := lN j) B.1 B.2.1 dX9_storm_161 (nI_l (by omega)) ?_
                      refine lv_lmul B.1 B.2.1 dX9_storm_162 ?_
                      refine r_tL (y := lN ((wTo (xh x) (xw x) j p (v - hin_ (xh x) p)) * j)) (lN_mul _ _) ?_
                      refine lv_goto (tgt := 167) B.1 B.2.1 dX9_storm_163 (by decide) ?_
                      refine lv_ladd B.1 B.2.1 dX9_storm_167 ?_
                      refine r_tL (y := lN (((wTo (xh x) (xw x) j p v) * (10 - j)) + ((wTo (xh x) (xw x) j p (v - hin_ (xh x) p)) * j))) (lN_add _ _) ?_
                      refine r_clast B hC (i := 191) (by decide) hM2.c191 (j := v) (by omega) (by decide) dX9_storm_168 ?_
                      intro H locs hC
                      obtain ⟨F71, eF71⟩ : ∃ f : Nat → va_E, f = va_up G2 191 (.inl (g.2.2 2, 100, .inr (.inl (vp_updL s2 (v) (lN (((wTo (xh x) (xw x) j p v) * (10 - j)) + ((wTo (xh x) (xw x) j p (v - hin_ (xh x) p)) * j))))))) := ⟨_, rfl⟩
                      have hC : Cu g lo 196 ad F71 ss ss.heap H locs := by rw [eF71]; exact hC
                      obtain ⟨su71, esu71⟩ : ∃ f, f = vp_updL s2 (v) (lN (((wTo (xh x) (xw x) j p v) * (10 - j)) + ((wTo (xh x) (xw x) j p (v - hin_ (xh x) p)) * j))) := ⟨_, rfl⟩
                      have hM_F71 : MC g ad F71 c q su71 := by rw [esu71]; exact hM2.sum eF71
                      have hS_F71 : Same 175 196 F F71 := by rw [eF71]; exact hS2.up (by decide) (by decide)
                      refine lv_iinc (v := nI v - nI 1) (lv' := [(8, .int (nI v - nI 1)), (7, .int (nI 1)), (6, .int (nI p)), (4, .long (lN a)), (0, .ref (ad (175))), (1, .int (nI j)), (2, .int (nI i)), (3, .int (bI u))]) B.1 B.2.1 dX9_storm_169 hl (k := 0) rfl (nI_dec v) (by decide) rfl (fun ls hl => ?_)
                      refine lv_goto (tgt := 104) B.1 B.2.1 dX9_storm_172 (by decide) ?_
                      exact ih104 su71 F71 (by omega) hM_F71 hS_F71 (fun z hz => by rw [esu71]; exact sm_down hs2 (by rw [tearV, if_pos (by omega)]) z hz) _ _ ls hC (lv_sub hl [0, 1, 2, 3, 4, 5, 6, 7] rfl)
                exact loop104 100 s1 G (Nat.le_refl _) hM1 hS1 (fun z hz => by rw [if_neg (by omega)]; exact hs1 z hz) _ _ ls hC (lv_sub hl [0, 1, 2, 3, 4, 5, 6, 7] rfl)
          exact loop72 (hn (xh x)) 0 1 s1 G (by omega) hM1 hS1 (fun z hz => hs1 z (by omega)) rfl _ _ ls hC (lv_sub hl [0, 1, 2, 3, 4, 5] rfl)
        | succ k ih31 =>
          intro v s1 G hvk hM1 hS1 hs1 H locs ls hC hl
          refine lv_iload B.1 B.2.1 dX9_storm_31 (lv_at hl 0 rfl) ?_
          refine lv_bipush (v := nI 100) B.1 B.2.1 dX9_storm_33 (by decide) ?_
          refine lv_icmp_ge (tgt := 66) B.1 B.2.1 dX9_storm_35 (by decide) (fun z => absurd z (nI_ge (by omega) (by omega))) (fun _ => ?_)
          refine lv_aload_n B.1 B.2.1 dX9_storm_38 rfl (lv_at hl 1 rfl) ?_
          refine r_cg B hC (i := 175) (by decide) hM1.1 (C := RX9) (T := TX9) (n := 35) rfl iwX9_storm_X9 30 (by decide) (index := 55) flX9_storm_55 rfl (v := .ref (ad (191))) rfl dX9_storm_39 ?_
          refine lv_iload B.1 B.2.1 dX9_storm_42 (lv_at hl 0 rfl) ?_
          refine lv_iload B.1 B.2.1 dX9_storm_44 (lv_at hl 0 rfl) ?_
          refine lv_aload_n B.1 B.2.1 dX9_storm_46 rfl (lv_at hl 1 rfl) ?_
          refine lv_iconst (v := nI 0) B.1 B.2.1 dX9_storm_47 (by decide) ?_
          refine r_calli B hC hl.1 (175) 9 rfl rfl (by decide) hM1.1 (As := [.int (nI 0)]) (ctX9_leakOf l g lo ad hM1 ok hR (b := 0) hb hB hw) gX9_storm_X9_leakOf rfl (n := 1) rfl (by decide +kernel) ⟨Nat.le_of_ble_eq_true rfl, Nat.le_of_ble_eq_true rfl⟩ ⟨Nat.zero_le _, Nat.zero_le _⟩ rfl (Nat.le_of_ble_eq_true rfl) dX9_storm_48 (fun r48 F31 H locs hp48 hC => ?_)
          obtain ⟨er, eF⟩ := hp48
          subst er
          rw [eF] at hC
          refine lv_icmp_ne (tgt := 58) B.1 B.2.1 dX9_storm_51 (by decide) (fun c_51 => ?_) (fun c_51 => ?_)
          · have q_51 : ¬ v = (leakV (xh x) (xw x)) := fun z => c_51 ((nI_eq (by omega) (by omega)).mpr z)
            refine lv_lconst (v := lN 0) B.1 B.2.1 dX9_storm_58 (by decide) ?_
            refine r_clast B hC (i := 191) (by decide) hM1.c191 (j := v) (by omega) (by decide) dX9_storm_59 ?_
            intro H locs hC
            obtain ⟨F31, eF31⟩ : ∃ f : Nat → va_E, f = va_up G 191 (.inl (g.2.2 2, 100, .inr (.inl (vp_updL s1 (v) (lN 0))))) := ⟨_, rfl⟩
            have hC : Cu g lo 196 ad F31 ss ss.heap H locs := by rw [eF31]; exact hC
            obtain ⟨su31, esu31⟩ : ∃ f, f = vp_updL s1 (v) (lN 0) := ⟨_, rfl⟩
            have hM_F31 : MC g ad F31 c q su31 := by rw [esu31]; exact hM1.sum eF31
            have hS_F31 : Same 175 196 F F31 := by rw [eF31]; exact hS1.up (by decide) (by decide)
            refine lv_iinc (v := nI (v + 1)) (lv' := [(4, .int (nI (v + 1))), (0, .ref (ad (175))), (1, .int (nI j)), (2, .int (nI i)), (3, .int (bI u))]) B.1 B.2.1 dX9_storm_60 hl (k := 0) rfl (nI_1 _) (by decide) rfl (fun ls hl => ?_)
            refine lv_goto (tgt := 31) B.1 B.2.1 dX9_storm_63 (by decide) ?_
            exact ih31 (v + 1) su31 F31 (by omega) hM_F31 hS_F31 (fun z hz => by rw [esu31]; exact sm_next hs1 (by rw [if_neg q_51]) z hz) _ _ ls hC (lv_sub hl [0, 1, 2, 3, 4] rfl)
          · have q_51 : v = (leakV (xh x) (xw x)) := (nI_eq (by omega) (by omega)).mp c_51
            refine lv_lconst (v := lN 1) B.1 B.2.1 dX9_storm_54 (by decide) ?_
            refine lv_goto (tgt := 59) B.1 B.2.1 dX9_storm_55 (by decide) ?_
            refine r_clast B hC (i := 191) (by decide) hM1.c191 (j := v) (by omega) (by decide) dX9_storm_59 ?_
            intro H locs hC
            obtain ⟨F31, eF31⟩ : ∃ f : Nat → va_E, f = va_up G 191 (.inl (g.2.2 2, 100, .inr (.inl (vp_updL s1 (v) (lN 1))))) := ⟨_, rfl⟩
            have hC : Cu g lo 196 ad F31 ss ss.heap H locs := by rw [eF31]; exact hC
            obtain ⟨su31, esu31⟩ : ∃ f, f = vp_updL s1 (v) (lN 1) := ⟨_, rfl⟩
            have hM_F31 : MC g ad F31 c q su31 := by rw [esu31]; exact hM1.sum eF31
            have hS_F31 : Same 175 196 F F31 := by rw [eF31]; exact hS1.up (by decide) (by decide)
            refine lv_iinc (v := nI (v + 1)) (lv' := [(4, .int (nI (v + 1))), (0, .ref (ad (175))), (1, .int (nI j)), (2, .int (nI i)), (3, .int (bI u))]) B.1 B.2.1 dX9_storm_60 hl (k := 0) rfl (nI_1 _) (by decide) rfl (fun ls hl => ?_)
            refine lv_goto (tgt := 31) B.1 B.2.1 dX9_storm_63 (by decide) ?_
            exact ih31 (v + 1) su31 F31 (by omega) hM_F31 hS_F31 (fun z hz => by rw [esu31]; exact sm_next hs1 (by rw [if_pos q_51]) z hz) _ _ ls hC (lv_sub hl [0, 1, 2, 3, 4] rfl)
      exact loop31 100 0 sm F (by omega) hM hS (fun z hz => absurd hz (Nat.not_lt_zero z)) _ _ ls hC (lv_sub hl [0, 1, 2, 3, 4] rfl)
    · have qS : ¬ stormB xx yy = true := by rw [← stB, q_9, bI_f.mp c_21]; decide
      refine lv_ldc2 (own := RX9) (v := (-2)) B.1 B.2.1 B.2.2.2.1 (B.2.2.2.2.1 (.constantLong RX9 202 (-2)) (by decide +kernel)) dX9_storm_24 ?_
      exact r_eL B hC (v := (-2)) (⟨by rw [stormA, if_neg qS], ⟨_, _, _, hM, hX⟩, hS⟩) dX9_storm_27
