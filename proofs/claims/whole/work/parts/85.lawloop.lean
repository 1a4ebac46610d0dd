theorem lw_room4 {i L : Nat} (hL : L ≤ 2048) (hi : i ≤ L + 3) (h : ¬ Int32.ofNat L - nI 4 < nI i) : i + 4 ≤ L := by
  refine Nat.not_lt.mp fun q => h ?_
  have e1 : (Int32.ofNat L).toInt = L := nI_toInt (by omega)
  have e2 : (nI 4).toInt = 4 := nI_toInt (by omega)
  rw [Int32.lt_iff_toInt_lt, Int32.toInt_sub, e1, e2, nI_toInt (by omega), Int.bmod_eq_of_le (by omega) (by omega)]
  omega
set_option maxHeartbeats 4000000 in
set_option maxRecDepth 100000 in
/-- THE LAW'S LOOP: at its head both objects are of one state -/
theorem law_loop {p : Program} {l : Launch} {e : Env} {s : State} {m : MethodId} {below : List Frame} {meth : Method} {c : Code} {g : Gx} {b L : Nat} {ad : Nat → Nat} {sc : Nat → Int32} (hL : L ≤ 2048) (C0 : lw_At p s m meth c b L sc) (B : Bx p s m meth c code 4 rtL RL wsL_law #[Value.ref b]) :
    ∀ (n i : Nat), i ≤ L + 3 → L + 4 ≤ i + 4 * n → ∀ (x : XV) (F : Nat → va_E) (H : Heap) (locs : List Loc), XC g ad F x → XOK x → MX g ad F x → Cu g s.heap.size 196 ad F s s.heap H locs → ∀ ls, lv_has ls 4 [(3, .int (nI i)), (0, .ref b), (1, .ref (ad (0))), (2, .ref (ad (175)))] → W p l e room_1 s m #[Value.ref b] below meth c H locs 196 3012 (lw_Z below #[Value.ref b] s) (F0 m 18 ls []) := by
  obtain ⟨hx, hb, hr, hml, hown, hts, hX, hbl, hlocks, hgv⟩ := id C0
  intro n
  induction n with
  | zero =>
    intro i h1 h2
    exact absurd h2 (by omega)
  | succ n ih =>
    intro i hi hn x F H locs hx0 ok hm hC ls hl
    refine lv_iload_n hx hb dL_law_18 rfl (lv_at hl 0 rfl) ?_
    refine lv_aload_n hx hb dL_law_19 rfl (lv_at hl 1 rfl) ?_
    refine va_slen hx hb hX hbl (A := fun q : Nat => s.heap.size ≤ q) (Nat.not_le.mpr hbl) hC.2.2.2 dL_law_20 ?_
    refine lv_iconst (v := nI 4) hx hb dL_law_21 (by decide) ?_
    refine lv_isub hx hb dL_law_22 ?_
    refine lv_icmp_gt (tgt := 842) hx hb dL_law_23 (by decide) (fun _ => ?_) (fun hgt => ?_)
    · refine lv_iconst (v := 1) hx hb dL_law_842 (by decide) ?_
      refine va_forget (fun q hq => hC.2.2.2.2.2 q hq) ?_
      refine W.widen (k := 600000) (n := 7302250) (Nat.le_of_ble_eq_true rfl) (Nat.le_of_ble_eq_true rfl) ?_
      exact lw_ret hx hb hr hlocks dL_law_843
    · have hi4 : i + 4 ≤ L := lw_room4 hL hi hgt
      refine lv_aload_n hx hb dL_law_26 rfl (lv_at hl 1 rfl) ?_
      refine lv_iload_n hx hb dL_law_27 rfl (lv_at hl 0 rfl) ?_
      refine r_sld B hX hbl hL hC (j := i) (by omega) dL_law_28 ?_
      refine lv_bipush (v := nI 31) hx hb dL_law_29 (by decide) ?_
      refine lv_iand hx hb dL_law_31 ?_
      generalize (sc i &&& nI 31) = z
      have kk : ∀ (x' : XV) (F' : Nat → va_E) (H' : Heap) (locs' : List Loc), XC g ad F' x' → XOK x' → MX g ad F' x' → Cu g s.heap.size 196 ad F' s s.heap H' locs' → W p l e room_1 s m #[Value.ref b] below meth c H' locs' 196 3012 (lw_Z below #[Value.ref b] s) (F0 m 836 ls []) := fun x' F' H' locs' hx' ok' hm' hC' => by
        refine lv_iinc (v := nI (i + 4)) (lv' := [(3, .int (nI (i + 4))), (0, .ref b), (1, .ref (ad (0))), (2, .ref (ad (175)))]) hx hb dL_law_836 hl (k := 0) rfl (nI_add i 4) (by decide) rfl (fun ls hl => ?_)
        refine lv_goto (tgt := 18) hx hb dL_law_839 (by decide) ?_
        exact ih (i + 4) (by omega) (by omega) x' F' H' locs' hx' ok' hm' hC' ls hl
      rcases sw25 z with rfl | rfl | rfl | rfl | rfl | rfl | rfl | rfl | rfl | rfl | rfl | rfl | rfl | rfl | rfl | rfl | rfl | rfl | rfl | rfl | rfl | rfl | rfl | rfl | rfl | h
      · exact lv_tableIn hx hb dL_law_32 (off := 116) (tgt := 148) (by decide +kernel) (by decide +kernel) (by decide +kernel) (by decide) (lc_0 B hX hbl hL hi4 hC hx0 ok hm hl kk)
      · exact lv_tableIn hx hb dL_law_32 (off := 179) (tgt := 211) (by decide +kernel) (by decide +kernel) (by decide +kernel) (by decide) (lc_1 B hX hbl hL hi4 hC hx0 ok hm hl kk)
      · exact lv_tableIn hx hb dL_law_32 (off := 192) (tgt := 224) (by decide +kernel) (by decide +kernel) (by decide +kernel) (by decide) (lc_2 B hX hbl hL hi4 hC hx0 ok hm hl kk)
      · exact lv_tableIn hx hb dL_law_32 (off := 205) (tgt := 237) (by decide +kernel) (by decide +kernel) (by decide +kernel) (by decide) (lc_3 B hX hbl hL hi4 hC hx0 ok hm hl kk)
      · exact lv_tableIn hx hb dL_law_32 (off := 218) (tgt := 250) (by decide +kernel) (by decide +kernel) (by decide +kernel) (by decide) (lc_4 B hX hbl hL hi4 hC hx0 ok hm hl kk)
      · exact lv_tableIn hx hb dL_law_32 (off := 251) (tgt := 283) (by decide +kernel) (by decide +kernel) (by decide +kernel) (by decide) (lc_5 B hX hbl hL hi4 hC hx0 ok hm hl kk)
      · exact lv_tableIn hx hb dL_law_32 (off := 284) (tgt := 316) (by decide +kernel) (by decide +kernel) (by decide +kernel) (by decide) (lc_6 B hX hbl hL hi4 hC hx0 ok hm hl kk)
      · exact lv_tableIn hx hb dL_law_32 (off := 307) (tgt := 339) (by decide +kernel) (by decide +kernel) (by decide +kernel) (by decide) (lc_7 B hX hbl hL hi4 hC hx0 ok hm hl kk)
      · exact lv_tableIn hx hb dL_law_32 (off := 340) (tgt := 372) (by decide +kernel) (by decide +kernel) (by decide +kernel) (by decide) (lc_8 B hX hbl hL hi4 hC hx0 ok hm hl kk)
      · exact lv_tableIn hx hb dL_law_32 (off := 373) (tgt := 405) (by decide +kernel) (by decide +kernel) (by decide +kernel) (by decide) (lc_9 B hX hbl hL hi4 hC hx0 ok hm hl kk)
      · exact lv_tableIn hx hb dL_law_32 (off := 386) (tgt := 418) (by decide +kernel) (by decide +kernel) (by decide +kernel) (by decide) (lc_10 B hX hbl hL hi4 hC hx0 ok hm hl kk)
      · exact lv_tableIn hx hb dL_law_32 (off := 399) (tgt := 431) (by decide +kernel) (by decide +kernel) (by decide +kernel) (by decide) (lc_11 B hX hbl hL hi4 hC hx0 ok hm hl kk)
      · exact lv_tableIn hx hb dL_law_32 (off := 412) (tgt := 444) (by decide +kernel) (by decide +kernel) (by decide +kernel) (by decide) (lc_12 B hX hbl hL hi4 hC hx0 ok hm hl kk)
      · exact lv_tableIn hx hb dL_law_32 (off := 425) (tgt := 457) (by decide +kernel) (by decide +kernel) (by decide +kernel) (by decide) (lc_13 B hX hbl hL hi4 hC hx0 ok hm hl kk)
      · exact lv_tableIn hx hb dL_law_32 (off := 448) (tgt := 480) (by decide +kernel) (by decide +kernel) (by decide +kernel) (by decide) (lc_14 B hX hbl hL hi4 hC hx0 ok hm hl kk)
      · exact lv_tableIn hx hb dL_law_32 (off := 481) (tgt := 513) (by decide +kernel) (by decide +kernel) (by decide +kernel) (by decide) (lc_15 B hX hbl hL hi4 hC hx0 ok hm hl kk)
      · exact lv_tableIn hx hb dL_law_32 (off := 504) (tgt := 536) (by decide +kernel) (by decide +kernel) (by decide +kernel) (by decide) (lc_16 B hX hbl hL hi4 hC hx0 ok hm hl kk)
      · exact lv_tableIn hx hb dL_law_32 (off := 537) (tgt := 569) (by decide +kernel) (by decide +kernel) (by decide +kernel) (by decide) (lc_17 B hX hbl hL hi4 hC hx0 ok hm hl kk)
      · exact lv_tableIn hx hb dL_law_32 (off := 560) (tgt := 592) (by decide +kernel) (by decide +kernel) (by decide +kernel) (by decide) (lc_18 B hX hbl hL hi4 hC hx0 ok hm hl kk)
      · exact lv_tableIn hx hb dL_law_32 (off := 593) (tgt := 625) (by decide +kernel) (by decide +kernel) (by decide +kernel) (by decide) (lc_19 B hX hbl hL hi4 hC hx0 ok hm hl kk)
      · exact lv_tableIn hx hb dL_law_32 (off := 653) (tgt := 685) (by decide +kernel) (by decide +kernel) (by decide +kernel) (by decide) (lc_20 B hX hbl hL hi4 hC hx0 ok hm hl kk)
      · exact lv_tableIn hx hb dL_law_32 (off := 702) (tgt := 734) (by decide +kernel) (by decide +kernel) (by decide +kernel) (by decide) (lc_21 B hX hbl hL hi4 hC hx0 ok hm hl kk)
      · exact lv_tableIn hx hb dL_law_32 (off := 735) (tgt := 767) (by decide +kernel) (by decide +kernel) (by decide +kernel) (by decide) (lc_22 B hX hbl hL hi4 hC hx0 ok hm hl kk)
      · exact lv_tableIn hx hb dL_law_32 (off := 758) (tgt := 790) (by decide +kernel) (by decide +kernel) (by decide +kernel) (by decide) (lc_23 B hX hbl hL hi4 hC hx0 ok hm hl kk)
      · exact lv_tableIn hx hb dL_law_32 (off := 781) (tgt := 813) (by decide +kernel) (by decide +kernel) (by decide +kernel) (by decide) (lc_24 B hX hbl hL hi4 hC hx0 ok hm hl kk)
      · exact lv_tableOut hx hb dL_law_32 h (tgt := 836) (by decide) (kk x F H locs hx0 ok hm hC)
