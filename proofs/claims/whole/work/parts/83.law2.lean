/-! THE LAW: its cases, on -/
set_option maxHeartbeats 4000000 in
set_option maxRecDepth 100000 in
theorem lc_13 {p : Program} {l : Launch} {e : Env} {s : State} {m : MethodId} {below : List Frame} {meth : Method} {c : Code} {H : Heap} {locs : List Loc} {Q : State → Prop} {ls : Array Slot} {g : Gx} {b L i : Nat} {ad : Nat → Nat} {F : Nat → va_E} {sc : Nat → Int32} {x : XV} (B : Bx p s m meth c code 4 rtL RL wsL_law #[Value.ref b]) (hX : va_X b L sc s s.heap) (hbl : b < s.heap.size) (hL : L ≤ 2048) (hi : i + 4 ≤ L) (hC : Cu g s.heap.size 196 ad F s s.heap H locs) (hx : XC g ad F x) (ok : XOK x) (hm : MX g ad F x) (hl : lv_has ls 4 [(3, .int (nI i)), (0, .ref b), (1, .ref (ad (0))), (2, .ref (ad (175)))])
    (kk : ∀ (x' : XV) (F' : Nat → va_E) (H' : Heap) (locs' : List Loc), XC g ad F' x' → XOK x' → MX g ad F' x' → Cu g s.heap.size 196 ad F' s s.heap H' locs' → W p l e room_1 s m #[Value.ref b] below meth c H' locs' 196 3012 Q (F0 m 836 ls [])) : W p l e room_1 s m #[Value.ref b] below meth c H locs 196 3012 Q (F0 m 457 ls []) := by
  refine lv_aload_n B.1 B.2.1 dL_law_457 rfl (lv_at hl 2 rfl) ?_
  refine lv_aload_n B.1 B.2.1 dL_law_458 rfl (lv_at hl 1 rfl) ?_
  refine lv_iload_n B.1 B.2.1 dL_law_459 rfl (lv_at hl 0 rfl) ?_
  refine lv_iconst (v := nI 1) B.1 B.2.1 dL_law_460 (by decide) ?_
  refine lv_iadd B.1 B.2.1 dL_law_461 ?_
  refine r_tI (y := nI (i + 1)) (nI_add _ _) ?_
  refine r_sld B hX hbl hL hC (j := i + 1) (by omega) dL_law_462 ?_
  refine r_calli B hC hl.1 (0) 8 rfl rfl (by decide) hx.1 (As := [.int (sc (i + 1))]) (ctX8_harm l g s.heap.size ad hx ok) gL_law_X8_harm rfl (n := 1) rfl (by decide +kernel) ⟨Nat.le_of_ble_eq_true rfl, Nat.le_of_ble_eq_true rfl⟩ ⟨Nat.le_of_ble_eq_true rfl, Nat.le_of_ble_eq_true rfl⟩ rfl (Nat.le_of_ble_eq_true rfl) dL_law_463 (fun r1 F1 H locs hp1 hC => ?_)
  obtain ⟨er1, hn1, hs1⟩ := hp1
  have hm1 := hm.low hs1
  refine lv_aload_n B.1 B.2.1 dL_law_466 rfl (lv_at hl 3 rfl) ?_
  refine lv_aload_n B.1 B.2.1 dL_law_467 rfl (lv_at hl 1 rfl) ?_
  refine lv_iload_n B.1 B.2.1 dL_law_468 rfl (lv_at hl 0 rfl) ?_
  refine lv_iconst (v := nI 1) B.1 B.2.1 dL_law_469 (by decide) ?_
  refine lv_iadd B.1 B.2.1 dL_law_470 ?_
  refine r_tI (y := nI (i + 1)) (nI_add _ _) ?_
  refine r_sld B hX hbl hL hC (j := i + 1) (by omega) dL_law_471 ?_
  obtain ⟨c1, q1, sm1, hM, hRR⟩ := id hm1
  refine r_calli B hC hl.1 (175) 9 rfl rfl (by decide) hM.1 (As := [.int (sc (i + 1))]) (ctX9_harm l g s.heap.size ad hM hRR ok) gL_law_X9_harm rfl (n := 1) rfl (by decide +kernel) ⟨Nat.le_of_ble_eq_true rfl, Nat.le_of_ble_eq_true rfl⟩ ⟨Nat.le_of_ble_eq_true rfl, Nat.le_of_ble_eq_true rfl⟩ rfl (Nat.le_of_ble_eq_true rfl) dL_law_472 (fun r2 F2 H locs hp2 hC => ?_)
  obtain ⟨er2, hn2, hs2⟩ := hp2
  have hx2 := hn1.low hs2
  refine lv_icmp_eq (tgt := 836) B.1 B.2.1 dL_law_475 (by decide) (fun _ => ?_) (fun z => absurd (er1.trans er2.symm) z)
  exact kk (x) _ H locs hx2 (ok) hn2 hC
set_option maxHeartbeats 4000000 in
set_option maxRecDepth 100000 in
theorem lc_14 {p : Program} {l : Launch} {e : Env} {s : State} {m : MethodId} {below : List Frame} {meth : Method} {c : Code} {H : Heap} {locs : List Loc} {Q : State → Prop} {ls : Array Slot} {g : Gx} {b L i : Nat} {ad : Nat → Nat} {F : Nat → va_E} {sc : Nat → Int32} {x : XV} (B : Bx p s m meth c code 4 rtL RL wsL_law #[Value.ref b]) (hX : va_X b L sc s s.heap) (hbl : b < s.heap.size) (hL : L ≤ 2048) (hi : i + 4 ≤ L) (hC : Cu g s.heap.size 196 ad F s s.heap H locs) (hx : XC g ad F x) (ok : XOK x) (hm : MX g ad F x) (hl : lv_has ls 4 [(3, .int (nI i)), (0, .ref b), (1, .ref (ad (0))), (2, .ref (ad (175)))])
    (kk : ∀ (x' : XV) (F' : Nat → va_E) (H' : Heap) (locs' : List Loc), XC g ad F' x' → XOK x' → MX g ad F' x' → Cu g s.heap.size 196 ad F' s s.heap H' locs' → W p l e room_1 s m #[Value.ref b] below meth c H' locs' 196 3012 Q (F0 m 836 ls [])) : W p l e room_1 s m #[Value.ref b] below meth c H locs 196 3012 Q (F0 m 480 ls []) := by
  refine lv_aload_n B.1 B.2.1 dL_law_480 rfl (lv_at hl 2 rfl) ?_
  refine lv_aload_n B.1 B.2.1 dL_law_481 rfl (lv_at hl 1 rfl) ?_
  refine lv_iload_n B.1 B.2.1 dL_law_482 rfl (lv_at hl 0 rfl) ?_
  refine lv_iconst (v := nI 1) B.1 B.2.1 dL_law_483 (by decide) ?_
  refine lv_iadd B.1 B.2.1 dL_law_484 ?_
  refine r_tI (y := nI (i + 1)) (nI_add _ _) ?_
  refine r_sld B hX hbl hL hC (j := i + 1) (by omega) dL_law_485 ?_
  refine lv_aload_n B.1 B.2.1 dL_law_486 rfl (lv_at hl 1 rfl) ?_
  refine lv_iload_n B.1 B.2.1 dL_law_487 rfl (lv_at hl 0 rfl) ?_
  refine lv_iconst (v := nI 2) B.1 B.2.1 dL_law_488 (by decide) ?_
  refine lv_iadd B.1 B.2.1 dL_law_489 ?_
  refine r_tI (y := nI (i + 2)) (nI_add _ _) ?_
  refine r_sld B hX hbl hL hC (j := i + 2) (by omega) dL_law_490 ?_
  refine r_calli B hC hl.1 (0) 8 rfl rfl (by decide) hx.1 (As := [.int (sc (i + 1)), .int (sc (i + 2))]) (ctX8_may l g s.heap.size ad hx ok) gL_law_X8_may rfl (n := 2) rfl (by decide +kernel) ⟨Nat.le_of_ble_eq_true rfl, Nat.le_of_ble_eq_true rfl⟩ ⟨Nat.le_of_ble_eq_true rfl, Nat.le_of_ble_eq_true rfl⟩ rfl (Nat.le_of_ble_eq_true rfl) dL_law_491 (fun r1 F1 H locs hp1 hC => ?_)
  obtain ⟨er1, eF1⟩ := hp1
  rw [eF1] at hC
  refine lv_aload_n B.1 B.2.1 dL_law_494 rfl (lv_at hl 3 rfl) ?_
  refine lv_aload_n B.1 B.2.1 dL_law_495 rfl (lv_at hl 1 rfl) ?_
  refine lv_iload_n B.1 B.2.1 dL_law_496 rfl (lv_at hl 0 rfl) ?_
  refine lv_iconst (v := nI 1) B.1 B.2.1 dL_law_497 (by decide) ?_
  refine lv_iadd B.1 B.2.1 dL_law_498 ?_
  refine r_tI (y := nI (i + 1)) (nI_add _ _) ?_
  refine r_sld B hX hbl hL hC (j := i + 1) (by omega) dL_law_499 ?_
  refine lv_aload_n B.1 B.2.1 dL_law_500 rfl (lv_at hl 1 rfl) ?_
  refine lv_iload_n B.1 B.2.1 dL_law_501 rfl (lv_at hl 0 rfl) ?_
  refine lv_iconst (v := nI 2) B.1 B.2.1 dL_law_502 (by decide) ?_
  refine lv_iadd B.1 B.2.1 dL_law_503 ?_
  refine r_tI (y := nI (i + 2)) (nI_add _ _) ?_
  refine r_sld B hX hbl hL hC (j := i + 2) (by omega) dL_law_504 ?_
  obtain ⟨c1, q1, sm1, hM, hRR⟩ := id hm
  refine r_calli B hC hl.1 (175) 9 rfl rfl (by decide) hM.1 (As := [.int (sc (i + 1)), .int (sc (i + 2))]) (ctX9_may l g s.heap.size ad hM hRR ok) gL_law_X9_may rfl (n := 2) rfl (by decide +kernel) ⟨Nat.le_of_ble_eq_true rfl, Nat.le_of_ble_eq_true rfl⟩ ⟨Nat.le_of_ble_eq_true rfl, Nat.le_of_ble_eq_true rfl⟩ rfl (Nat.le_of_ble_eq_true rfl) dL_law_505 (fun r2 F2 H locs hp2 hC => ?_)
  obtain ⟨er2, hn2, hs2⟩ := hp2
  have hx2 := hx.low hs2
  refine lv_icmp_eq (tgt := 836) B.1 B.2.1 dL_law_508 (by decide) (fun _ => ?_) (fun z => absurd (er1.trans er2.symm) z)
  exact kk (x) _ H locs hx2 (ok) hn2 hC
set_option maxHeartbeats 4000000 in
set_option maxRecDepth 100000 in
theorem lc_15 {p : Program} {l : Launch} {e : Env} {s : State} {m : MethodId} {below : List Frame} {meth : Method} {c : Code} {H : Heap} {locs : List Loc} {Q : State → Prop} {ls : Array Slot} {g : Gx} {b L i : Nat} {ad : Nat → Nat} {F : Nat → va_E} {sc : Nat → Int32} {x : XV} (B : Bx p s m meth c code 4 rtL RL wsL_law #[Value.ref b]) (hX : va_X b L sc s s.heap) (hbl : b < s.heap.size) (hL : L ≤ 2048) (hi : i + 4 ≤ L) (hC : Cu g s.heap.size 196 ad F s s.heap H locs) (hx : XC g ad F x) (ok : XOK x) (hm : MX g ad F x) (hl : lv_has ls 4 [(3, .int (nI i)), (0, .ref b), (1, .ref (ad (0))), (2, .ref (ad (175)))])
    (kk : ∀ (x' : XV) (F' : Nat → va_E) (H' : Heap) (locs' : List Loc), XC g ad F' x' → XOK x' → MX g ad F' x' → Cu g s.heap.size 196 ad F' s s.heap H' locs' → W p l e room_1 s m #[Value.ref b] below meth c H' locs' 196 3012 Q (F0 m 836 ls [])) : W p l e room_1 s m #[Value.ref b] below meth c H locs 196 3012 Q (F0 m 513 ls []) := by
  refine lv_aload_n B.1 B.2.1 dL_law_513 rfl (lv_at hl 2 rfl) ?_
  refine lv_aload_n B.1 B.2.1 dL_law_514 rfl (lv_at hl 1 rfl) ?_
  refine lv_iload_n B.1 B.2.1 dL_law_515 rfl (lv_at hl 0 rfl) ?_
  refine lv_iconst (v := nI 1) B.1 B.2.1 dL_law_516 (by decide) ?_
  refine lv_iadd B.1 B.2.1 dL_law_517 ?_
  refine r_tI (y := nI (i + 1)) (nI_add _ _) ?_
  refine r_sld B hX hbl hL hC (j := i + 1) (by omega) dL_law_518 ?_
  refine r_calli B hC hl.1 (0) 8 rfl rfl (by decide) hx.1 (As := [.int (sc (i + 1))]) (ctX8_best l g s.heap.size ad hx ok) gL_law_X8_best rfl (n := 1) rfl (by decide +kernel) ⟨Nat.le_of_ble_eq_true rfl, Nat.le_of_ble_eq_true rfl⟩ ⟨Nat.le_of_ble_eq_true rfl, Nat.le_of_ble_eq_true rfl⟩ rfl (Nat.le_of_ble_eq_true rfl) dL_law_519 (fun r1 F1 H locs hp1 hC => ?_)
  obtain ⟨er1, hn1, hs1⟩ := hp1
  have hm1 := hm.low hs1
  refine lv_aload_n B.1 B.2.1 dL_law_522 rfl (lv_at hl 3 rfl) ?_
  refine lv_aload_n B.1 B.2.1 dL_law_523 rfl (lv_at hl 1 rfl) ?_
  refine lv_iload_n B.1 B.2.1 dL_law_524 rfl (lv_at hl 0 rfl) ?_
  refine lv_iconst (v := nI 1) B.1 B.2.1 dL_law_525 (by decide) ?_
  refine lv_iadd B.1 B.2.1 dL_law_526 ?_
  refine r_tI (y := nI (i + 1)) (nI_add _ _) ?_
  refine r_sld B hX hbl hL hC (j := i + 1) (by omega) dL_law_527 ?_
  obtain ⟨c1, q1, sm1, hM, hRR⟩ := id hm1
  refine r_calli B hC hl.1 (175) 9 rfl rfl (by decide) hM.1 (As := [.int (sc (i + 1))]) (ctX9_best l g s.heap.size ad hM hRR ok) gL_law_X9_best rfl (n := 1) rfl (by decide +kernel) ⟨Nat.le_of_ble_eq_true rfl, Nat.le_of_ble_eq_true rfl⟩ ⟨Nat.le_of_ble_eq_true rfl, Nat.le_of_ble_eq_true rfl⟩ rfl (Nat.le_of_ble_eq_true rfl) dL_law_528 (fun r2 F2 H locs hp2 hC => ?_)
  obtain ⟨er2, hn2, hs2⟩ := hp2
  have hx2 := hn1.low hs2
  refine lv_icmp_eq (tgt := 836) B.1 B.2.1 dL_law_531 (by decide) (fun _ => ?_) (fun z => absurd (er1.trans er2.symm) z)
  exact kk (x) _ H locs hx2 (ok) hn2 hC
set_option maxHeartbeats 4000000 in
set_option maxRecDepth 100000 in
theorem lc_16 {p : Program} {l : Launch} {e : Env} {s : State} {m : MethodId} {below : List Frame} {meth : Method} {c : Code} {H : Heap} {locs : List Loc} {Q : State → Prop} {ls : Array Slot} {g : Gx} {b L i : Nat} {ad : Nat → Nat} {F : Nat → va_E} {sc : Nat → Int32} {x : XV} (B : Bx p s m meth c code 4 rtL RL wsL_law #[Value.ref b]) (hX : va_X b L sc s s.heap) (hbl : b < s.heap.size) (hL : L ≤ 2048) (hi : i + 4 ≤ L) (hC : Cu g s.heap.size 196 ad F s s.heap H locs) (hx : XC g ad F x) (ok : XOK x) (hm : MX g ad F x) (hl : lv_has ls 4 [(3, .int (nI i)), (0, .ref b), (1, .ref (ad (0))), (2, .ref (ad (175)))])
    (kk : ∀ (x' : XV) (F' : Nat → va_E) (H' : Heap) (locs' : List Loc), XC g ad F' x' → XOK x' → MX g ad F' x' → Cu g s.heap.size 196 ad F' s s.heap H' locs' → W p l e room_1 s m #[Value.ref b] below meth c H' locs' 196 3012 Q (F0 m 836 ls [])) : W p l e room_1 s m #[Value.ref b] below meth c H locs 196 3012 Q (F0 m 536 ls []) := by
  refine lv_aload_n B.1 B.2.1 dL_law_536 rfl (lv_at hl 2 rfl) ?_
  refine lv_aload_n B.1 B.2.1 dL_law_537 rfl (lv_at hl 1 rfl) ?_
  refine lv_iload_n B.1 B.2.1 dL_law_538 rfl (lv_at hl 0 rfl) ?_
  refine lv_iconst (v := nI 1) B.1 B.2.1 dL_law_539 (by decide) ?_
  refine lv_iadd B.1 B.2.1 dL_law_540 ?_
  refine r_tI (y := nI (i + 1)) (nI_add _ _) ?_
  refine r_sld B hX hbl hL hC (j := i + 1) (by omega) dL_law_541 ?_
  refine lv_aload_n B.1 B.2.1 dL_law_542 rfl (lv_at hl 1 rfl) ?_
  refine lv_iload_n B.1 B.2.1 dL_law_543 rfl (lv_at hl 0 rfl) ?_
  refine lv_iconst (v := nI 2) B.1 B.2.1 dL_law_544 (by decide) ?_
  refine lv_iadd B.1 B.2.1 dL_law_545 ?_
  refine r_tI (y := nI (i + 2)) (nI_add _ _) ?_
  refine r_sld B hX hbl hL hC (j := i + 2) (by omega) dL_law_546 ?_
  refine r_calli B hC hl.1 (0) 8 rfl rfl (by decide) hx.1 (As := [.int (sc (i + 1)), .int (sc (i + 2))]) (ctX8_bestAt l g s.heap.size ad hx ok) gL_law_X8_bestAt rfl (n := 2) rfl (by decide +kernel) ⟨Nat.le_of_ble_eq_true rfl, Nat.le_of_ble_eq_true rfl⟩ ⟨Nat.le_of_ble_eq_true rfl, Nat.le_of_ble_eq_true rfl⟩ rfl (Nat.le_of_ble_eq_true rfl) dL_law_547 (fun r1 F1 H locs hp1 hC => ?_)
  obtain ⟨er1, hn1, hs1⟩ := hp1
  have hm1 := hm.low hs1
  refine lv_aload_n B.1 B.2.1 dL_law_550 rfl (lv_at hl 3 rfl) ?_
  refine lv_aload_n B.1 B.2.1 dL_law_551 rfl (lv_at hl 1 rfl) ?_
  refine lv_iload_n B.1 B.2.1 dL_law_552 rfl (lv_at hl 0 rfl) ?_
  refine lv_iconst (v := nI 1) B.1 B.2.1 dL_law_553 (by decide) ?_
  refine lv_iadd B.1 B.2.1 dL_law_554 ?_
  refine r_tI (y := nI (i + 1)) (nI_add _ _) ?_
  refine r_sld B hX hbl hL hC (j := i + 1) (by omega) dL_law_555 ?_
  refine lv_aload_n B.1 B.2.1 dL_law_556 rfl (lv_at hl 1 rfl) ?_
  refine lv_iload_n B.1 B.2.1 dL_law_557 rfl (lv_at hl 0 rfl) ?_
  refine lv_iconst (v := nI 2) B.1 B.2.1 dL_law_558 (by decide) ?_
  refine lv_iadd B.1 B.2.1 dL_law_559 ?_
  refine r_tI (y := nI (i + 2)) (nI_add _ _) ?_
  refine r_sld B hX hbl hL hC (j := i + 2) (by omega) dL_law_560 ?_
  obtain ⟨c1, q1, sm1, hM, hRR⟩ := id hm1
  refine r_calli B hC hl.1 (175) 9 rfl rfl (by decide) hM.1 (As := [.int (sc (i + 1)), .int (sc (i + 2))]) (ctX9_bestAt l g s.heap.size ad hM hRR ok) gL_law_X9_bestAt rfl (n := 2) rfl (by decide +kernel) ⟨Nat.le_of_ble_eq_true rfl, Nat.le_of_ble_eq_true rfl⟩ ⟨Nat.le_of_ble_eq_true rfl, Nat.le_of_ble_eq_true rfl⟩ rfl (Nat.le_of_ble_eq_true rfl) dL_law_561 (fun r2 F2 H locs hp2 hC => ?_)
  obtain ⟨er2, hn2, hs2⟩ := hp2
  have hx2 := hn1.low hs2
  refine lv_icmp_eq (tgt := 836) B.1 B.2.1 dL_law_564 (by decide) (fun _ => ?_) (fun z => absurd (er1.trans er2.symm) z)
  exact kk (x) _ H locs hx2 (ok) hn2 hC
set_option maxHeartbeats 4000000 in
set_option maxRecDepth 100000 in
theorem lc_17 {p : Program} {l : Launch} {e : Env} {s : State} {m : MethodId} {below : List Frame} {meth : Method} {c : Code} {H : Heap} {locs : List Loc} {Q : State → Prop} {ls : Array Slot} {g : Gx} {b L i : Nat} {ad : Nat → Nat} {F : Nat → va_E} {sc : Nat → Int32} {x : XV} (B : Bx p s m meth c code 4 rtL RL wsL_law #[Value.ref b]) (hX : va_X b L sc s s.heap) (hbl : b < s.heap.size) (hL : L ≤ 2048) (hi : i + 4 ≤ L) (hC : Cu g s.heap.size 196 ad F s s.heap H locs) (hx : XC g ad F x) (ok : XOK x) (hm : MX g ad F x) (hl : lv_has ls 4 [(3, .int (nI i)), (0, .ref b), (1, .ref (ad (0))), (2, .ref (ad (175)))])
    (kk : ∀ (x' : XV) (F' : Nat → va_E) (H' : Heap) (locs' : List Loc), XC g ad F' x' → XOK x' → MX g ad F' x' → Cu g s.heap.size 196 ad F' s s.heap H' locs' → W p l e room_1 s m #[Value.ref b] below meth c H' locs' 196 3012 Q (F0 m 836 ls [])) : W p l e room_1 s m #[Value.ref b] below meth c H locs 196 3012 Q (F0 m 569 ls []) := by
  refine lv_aload_n B.1 B.2.1 dL_law_569 rfl (lv_at hl 2 rfl) ?_
  refine lv_aload_n B.1 B.2.1 dL_law_570 rfl (lv_at hl 1 rfl) ?_
  refine lv_iload_n B.1 B.2.1 dL_law_571 rfl (lv_at hl 0 rfl) ?_
  refine lv_iconst (v := nI 1) B.1 B.2.1 dL_law_572 (by decide) ?_
  refine lv_iadd B.1 B.2.1 dL_law_573 ?_
  refine r_tI (y := nI (i + 1)) (nI_add _ _) ?_
  refine r_sld B hX hbl hL hC (j := i + 1) (by omega) dL_law_574 ?_
  refine r_calli B hC hl.1 (0) 8 rfl rfl (by decide) hx.1 (As := [.int (sc (i + 1))]) (ctX8_port l g s.heap.size ad hx ok) gL_law_X8_port rfl (n := 1) rfl (by decide +kernel) ⟨Nat.le_of_ble_eq_true rfl, Nat.le_of_ble_eq_true rfl⟩ ⟨Nat.le_of_ble_eq_true rfl, Nat.le_of_ble_eq_true rfl⟩ rfl (Nat.le_of_ble_eq_true rfl) dL_law_575 (fun r1 F1 H locs hp1 hC => ?_)
  obtain ⟨er1, hn1, hs1⟩ := hp1
  have hm1 := hm.low hs1
  refine lv_aload_n B.1 B.2.1 dL_law_578 rfl (lv_at hl 3 rfl) ?_
  refine lv_aload_n B.1 B.2.1 dL_law_579 rfl (lv_at hl 1 rfl) ?_
  refine lv_iload_n B.1 B.2.1 dL_law_580 rfl (lv_at hl 0 rfl) ?_
  refine lv_iconst (v := nI 1) B.1 B.2.1 dL_law_581 (by decide) ?_
  refine lv_iadd B.1 B.2.1 dL_law_582 ?_
  refine r_tI (y := nI (i + 1)) (nI_add _ _) ?_
  refine r_sld B hX hbl hL hC (j := i + 1) (by omega) dL_law_583 ?_
  obtain ⟨c1, q1, sm1, hM, hRR⟩ := id hm1
  refine r_calli B hC hl.1 (175) 9 rfl rfl (by decide) hM.1 (As := [.int (sc (i + 1))]) (ctX9_port l g s.heap.size ad hM hRR ok) gL_law_X9_port rfl (n := 1) rfl (by decide +kernel) ⟨Nat.le_of_ble_eq_true rfl, Nat.le_of_ble_eq_true rfl⟩ ⟨Nat.le_of_ble_eq_true rfl, Nat.le_of_ble_eq_true rfl⟩ rfl (Nat.le_of_ble_eq_true rfl) dL_law_584 (fun r2 F2 H locs hp2 hC => ?_)
  obtain ⟨er2, hn2, hs2⟩ := hp2
  have hx2 := hn1.low hs2
  refine lv_icmp_eq (tgt := 836) B.1 B.2.1 dL_law_587 (by decide) (fun _ => ?_) (fun z => absurd (er1.trans er2.symm) z)
  exact kk (x) _ H locs hx2 (ok) hn2 hC
set_option maxHeartbeats 4000000 in
set_option maxRecDepth 100000 in
theorem lc_18 {p : Program} {l : Launch} {e : Env} {s : State} {m : MethodId} {below : List Frame} {meth : Method} {c : Code} {H : Heap} {locs : List Loc} {Q : State → Prop} {ls : Array Slot} {g : Gx} {b L i : Nat} {ad : Nat → Nat} {F : Nat → va_E} {sc : Nat → Int32} {x : XV} (B : Bx p s m meth c code 4 rtL RL wsL_law #[Value.ref b]) (hX : va_X b L sc s s.heap) (hbl : b < s.heap.size) (hL : L ≤ 2048) (hi : i + 4 ≤ L) (hC : Cu g s.heap.size 196 ad F s s.heap H locs) (hx : XC g ad F x) (ok : XOK x) (hm : MX g ad F x) (hl : lv_has ls 4 [(3, .int (nI i)), (0, .ref b), (1, .ref (ad (0))), (2, .ref (ad (175)))])
    (kk : ∀ (x' : XV) (F' : Nat → va_E) (H' : Heap) (locs' : List Loc), XC g ad F' x' → XOK x' → MX g ad F' x' → Cu g s.heap.size 196 ad F' s s.heap H' locs' → W p l e room_1 s m #[Value.ref b] below meth c H' locs' 196 3012 Q (F0 m 836 ls [])) : W p l e room_1 s m #[Value.ref b] below meth c H locs 196 3012 Q (F0 m 592 ls []) := by
  refine lv_aload_n B.1 B.2.1 dL_law_592 rfl (lv_at hl 2 rfl) ?_
  refine lv_aload_n B.1 B.2.1 dL_law_593 rfl (lv_at hl 1 rfl) ?_
  refine lv_iload_n B.1 B.2.1 dL_law_594 rfl (lv_at hl 0 rfl) ?_
  refine lv_iconst (v := nI 1) B.1 B.2.1 dL_law_595 (by decide) ?_
  refine lv_iadd B.1 B.2.1 dL_law_596 ?_
  refine r_tI (y := nI (i + 1)) (nI_add _ _) ?_
  refine r_sld B hX hbl hL hC (j := i + 1) (by omega) dL_law_597 ?_
  refine lv_aload_n B.1 B.2.1 dL_law_598 rfl (lv_at hl 1 rfl) ?_
  refine lv_iload_n B.1 B.2.1 dL_law_599 rfl (lv_at hl 0 rfl) ?_
  refine lv_iconst (v := nI 2) B.1 B.2.1 dL_law_600 (by decide) ?_
  refine lv_iadd B.1 B.2.1 dL_law_601 ?_
  refine r_tI (y := nI (i + 2)) (nI_add _ _) ?_
  refine r_sld B hX hbl hL hC (j := i + 2) (by omega) dL_law_602 ?_
  refine r_calli B hC hl.1 (0) 8 rfl rfl (by decide) hx.1 (As := [.int (sc (i + 1)), .int (sc (i + 2))]) (ctX8_portAt l g s.heap.size ad hx ok) gL_law_X8_portAt rfl (n := 2) rfl (by decide +kernel) ⟨Nat.le_of_ble_eq_true rfl, Nat.le_of_ble_eq_true rfl⟩ ⟨Nat.le_of_ble_eq_true rfl, Nat.le_of_ble_eq_true rfl⟩ rfl (Nat.le_of_ble_eq_true rfl) dL_law_603 (fun r1 F1 H locs hp1 hC => ?_)
  obtain ⟨er1, hn1, hs1⟩ := hp1
  have hm1 := hm.low hs1
  refine lv_aload_n B.1 B.2.1 dL_law_606 rfl (lv_at hl 3 rfl) ?_
  refine lv_aload_n B.1 B.2.1 dL_law_607 rfl (lv_at hl 1 rfl) ?_
  refine lv_iload_n B.1 B.2.1 dL_law_608 rfl (lv_at hl 0 rfl) ?_
  refine lv_iconst (v := nI 1) B.1 B.2.1 dL_law_609 (by decide) ?_
  refine lv_iadd B.1 B.2.1 dL_law_610 ?_
  refine r_tI (y := nI (i + 1)) (nI_add _ _) ?_
  refine r_sld B hX hbl hL hC (j := i + 1) (by omega) dL_law_611 ?_
  refine lv_aload_n B.1 B.2.1 dL_law_612 rfl (lv_at hl 1 rfl) ?_
  refine lv_iload_n B.1 B.2.1 dL_law_613 rfl (lv_at hl 0 rfl) ?_
  refine lv_iconst (v := nI 2) B.1 B.2.1 dL_law_614 (by decide) ?_
  refine lv_iadd B.1 B.2.1 dL_law_615 ?_
  refine r_tI (y := nI (i + 2)) (nI_add _ _) ?_
  refine r_sld B hX hbl hL hC (j := i + 2) (by omega) dL_law_616 ?_
  obtain ⟨c1, q1, sm1, hM, hRR⟩ := id hm1
  refine r_calli B hC hl.1 (175) 9 rfl rfl (by decide) hM.1 (As := [.int (sc (i + 1)), .int (sc (i + 2))]) (ctX9_portAt l g s.heap.size ad hM hRR ok) gL_law_X9_portAt rfl (n := 2) rfl (by decide +kernel) ⟨Nat.le_of_ble_eq_true rfl, Nat.le_of_ble_eq_true rfl⟩ ⟨Nat.le_of_ble_eq_true rfl, Nat.le_of_ble_eq_true rfl⟩ rfl (Nat.le_of_ble_eq_true rfl) dL_law_617 (fun r2 F2 H locs hp2 hC => ?_)
  obtain ⟨er2, hn2, hs2⟩ := hp2
  have hx2 := hn1.low hs2
  refine lv_icmp_eq (tgt := 836) B.1 B.2.1 dL_law_620 (by decide) (fun _ => ?_) (fun z => absurd (er1.trans er2.symm) z)
  exact kk (x) _ H locs hx2 (ok) hn2 hC
set_option maxHeartbeats 4000000 in
set_option maxRecDepth 100000 in
theorem lc_19 {p : Program} {l : Launch} {e : Env} {s : State} {m : MethodId} {below : List Frame} {meth : Method} {c : Code} {H : Heap} {locs : List Loc} {Q : State → Prop} {ls : Array Slot} {g : Gx} {b L i : Nat} {ad : Nat → Nat} {F : Nat → va_E} {sc : Nat → Int32} {x : XV} (B : Bx p s m meth c code 4 rtL RL wsL_law #[Value.ref b]) (hX : va_X b L sc s s.heap) (hbl : b < s.heap.size) (hL : L ≤ 2048) (hi : i + 4 ≤ L) (hC : Cu g s.heap.size 196 ad F s s.heap H locs) (hx : XC g ad F x) (ok : XOK x) (hm : MX g ad F x) (hl : lv_has ls 4 [(3, .int (nI i)), (0, .ref b), (1, .ref (ad (0))), (2, .ref (ad (175)))])
    (kk : ∀ (x' : XV) (F' : Nat → va_E) (H' : Heap) (locs' : List Loc), XC g ad F' x' → XOK x' → MX g ad F' x' → Cu g s.heap.size 196 ad F' s s.heap H' locs' → W p l e room_1 s m #[Value.ref b] below meth c H' locs' 196 3012 Q (F0 m 836 ls [])) : W p l e room_1 s m #[Value.ref b] below meth c H locs 196 3012 Q (F0 m 625 ls []) := by
  refine lv_aload_n B.1 B.2.1 dL_law_625 rfl (lv_at hl 2 rfl) ?_
  refine lv_aload_n B.1 B.2.1 dL_law_626 rfl (lv_at hl 1 rfl) ?_
  refine lv_iload_n B.1 B.2.1 dL_law_627 rfl (lv_at hl 0 rfl) ?_
  refine lv_iconst (v := nI 1) B.1 B.2.1 dL_law_628 (by decide) ?_
  refine lv_iadd B.1 B.2.1 dL_law_629 ?_
  refine r_tI (y := nI (i + 1)) (nI_add _ _) ?_
  refine r_sld B hX hbl hL hC (j := i + 1) (by omega) dL_law_630 ?_
  refine lv_aload_n B.1 B.2.1 dL_law_631 rfl (lv_at hl 1 rfl) ?_
  refine lv_iload_n B.1 B.2.1 dL_law_632 rfl (lv_at hl 0 rfl) ?_
  refine lv_iconst (v := nI 2) B.1 B.2.1 dL_law_633 (by decide) ?_
  refine lv_iadd B.1 B.2.1 dL_law_634 ?_
  refine r_tI (y := nI (i + 2)) (nI_add _ _) ?_
  refine r_sld B hX hbl hL hC (j := i + 2) (by omega) dL_law_635 ?_
  refine lv_aload_n B.1 B.2.1 dL_law_636 rfl (lv_at hl 1 rfl) ?_
  refine lv_iload_n B.1 B.2.1 dL_law_637 rfl (lv_at hl 0 rfl) ?_
  refine lv_iconst (v := nI 3) B.1 B.2.1 dL_law_638 (by decide) ?_
  refine lv_iadd B.1 B.2.1 dL_law_639 ?_
  refine r_tI (y := nI (i + 3)) (nI_add _ _) ?_
  refine r_sld B hX hbl hL hC (j := i + 3) (by omega) dL_law_640 ?_
  refine lv_if_eq (tgt := 648) B.1 B.2.1 dL_law_641 (by decide) (fun hu => ?_) (fun hu => ?_)
  · refine lv_iconst (v := nI 0) B.1 B.2.1 dL_law_648 (by decide) ?_
    refine r_tI (y := bI false) rfl ?_
    refine r_calll B hC hl.1 (0) 8 rfl rfl (by decide) hx.1 (As := [.int (sc (i + 1)), .int (sc (i + 2)), .int (bI false)]) (ctX8_storm l g s.heap.size ad hx ok) gL_law_X8_storm rfl (n := 3) rfl (by decide +kernel) ⟨Nat.le_of_ble_eq_true rfl, Nat.le_of_ble_eq_true rfl⟩ ⟨Nat.le_of_ble_eq_true rfl, Nat.le_of_ble_eq_true rfl⟩ rfl (Nat.le_of_ble_eq_true rfl) dL_law_649 (fun r1 F1 H locs hp1 hC => ?_)
    obtain ⟨er1, hn1, hs1⟩ := hp1
    have hm1 := hm.low hs1
    refine lv_aload_n B.1 B.2.1 dL_law_652 rfl (lv_at hl 3 rfl) ?_
    refine lv_aload_n B.1 B.2.1 dL_law_653 rfl (lv_at hl 1 rfl) ?_
    refine lv_iload_n B.1 B.2.1 dL_law_654 rfl (lv_at hl 0 rfl) ?_
    refine lv_iconst (v := nI 1) B.1 B.2.1 dL_law_655 (by decide) ?_
    refine lv_iadd B.1 B.2.1 dL_law_656 ?_
    refine r_tI (y := nI (i + 1)) (nI_add _ _) ?_
    refine r_sld B hX hbl hL hC (j := i + 1) (by omega) dL_law_657 ?_
    refine lv_aload_n B.1 B.2.1 dL_law_658 rfl (lv_at hl 1 rfl) ?_
    refine lv_iload_n B.1 B.2.1 dL_law_659 rfl (lv_at hl 0 rfl) ?_
    refine lv_iconst (v := nI 2) B.1 B.2.1 dL_law_660 (by decide) ?_
    refine lv_iadd B.1 B.2.1 dL_law_661 ?_
    refine r_tI (y := nI (i + 2)) (nI_add _ _) ?_
    refine r_sld B hX hbl hL hC (j := i + 2) (by omega) dL_law_662 ?_
    refine lv_aload_n B.1 B.2.1 dL_law_663 rfl (lv_at hl 1 rfl) ?_
    refine lv_iload_n B.1 B.2.1 dL_law_664 rfl (lv_at hl 0 rfl) ?_
    refine lv_iconst (v := nI 3) B.1 B.2.1 dL_law_665 (by decide) ?_
    refine lv_iadd B.1 B.2.1 dL_law_666 ?_
    refine r_tI (y := nI (i + 3)) (nI_add _ _) ?_
    refine r_sld B hX hbl hL hC (j := i + 3) (by omega) dL_law_667 ?_
    refine lv_if_eq (tgt := 675) B.1 B.2.1 dL_law_668 (by decide) (fun _ => ?_) (fun z => absurd hu z) 
    refine lv_iconst (v := nI 0) B.1 B.2.1 dL_law_675 (by decide) ?_
    refine r_tI (y := bI false) rfl ?_
    obtain ⟨c1, q1, sm1, hM, hRR⟩ := id hm1
    refine r_calll B hC hl.1 (175) 9 rfl rfl (by decide) hM.1 (As := [.int (sc (i + 1)), .int (sc (i + 2)), .int (bI false)]) (ctX9_storm l g s.heap.size ad hM hRR ok) gL_law_X9_storm rfl (n := 3) rfl (by decide +kernel) ⟨Nat.le_of_ble_eq_true rfl, Nat.le_of_ble_eq_true rfl⟩ ⟨Nat.le_of_ble_eq_true rfl, Nat.le_of_ble_eq_true rfl⟩ rfl (Nat.le_of_ble_eq_true rfl) dL_law_676 (fun r2 F2 H locs hp2 hC => ?_)
    obtain ⟨er2, hn2, hs2⟩ := hp2
    have hx2 := hn1.low hs2
    refine W.lcmp B.1 B.2.1 dL_law_679 ?_
    refine lv_if_eq (tgt := 836) B.1 B.2.1 dL_law_680 (by decide) (fun _ => ?_) (fun z => absurd (by rw [er1, er2]; exact lc_self _) z)
    exact kk (x) _ H locs hx2 (ok) hn2 hC
  · refine lv_iconst (v := nI 1) B.1 B.2.1 dL_law_644 (by decide) ?_
    refine lv_goto (tgt := 649) B.1 B.2.1 dL_law_645 (by decide) ?_
    refine r_tI (y := bI true) rfl ?_
    refine r_calll B hC hl.1 (0) 8 rfl rfl (by decide) hx.1 (As := [.int (sc (i + 1)), .int (sc (i + 2)), .int (bI true)]) (ctX8_storm l g s.heap.size ad hx ok) gL_law_X8_storm rfl (n := 3) rfl (by decide +kernel) ⟨Nat.le_of_ble_eq_true rfl, Nat.le_of_ble_eq_true rfl⟩ ⟨Nat.le_of_ble_eq_true rfl, Nat.le_of_ble_eq_true rfl⟩ rfl (Nat.le_of_ble_eq_true rfl) dL_law_649 (fun r1 F1 H locs hp1 hC => ?_)
    obtain ⟨er1, hn1, hs1⟩ := hp1
    have hm1 := hm.low hs1
    refine lv_aload_n B.1 B.2.1 dL_law_652 rfl (lv_at hl 3 rfl) ?_
    refine lv_aload_n B.1 B.2.1 dL_law_653 rfl (lv_at hl 1 rfl) ?_
    refine lv_iload_n B.1 B.2.1 dL_law_654 rfl (lv_at hl 0 rfl) ?_
    refine lv_iconst (v := nI 1) B.1 B.2.1 dL_law_655 (by decide) ?_
    refine lv_iadd B.1 B.2.1 dL_law_656 ?_
    refine r_tI (y := nI (i + 1)) (nI_add _ _) ?_
    refine r_sld B hX hbl hL hC (j := i + 1) (by omega) dL_law_657 ?_
    refine lv_aload_n B.1 B.2.1 dL_law_658 rfl (lv_at hl 1 rfl) ?_
    refine lv_iload_n B.1 B.2.1 dL_law_659 rfl (lv_at hl 0 rfl) ?_
    refine lv_iconst (v := nI 2) B.1 B.2.1 dL_law_660 (by decide) ?_
    refine lv_iadd B.1 B.2.1 dL_law_661 ?_
    refine r_tI (y := nI (i + 2)) (nI_add _ _) ?_
    refine r_sld B hX hbl hL hC (j := i + 2) (by omega) dL_law_662 ?_
    refine lv_aload_n B.1 B.2.1 dL_law_663 rfl (lv_at hl 1 rfl) ?_
    refine lv_iload_n B.1 B.2.1 dL_law_664 rfl (lv_at hl 0 rfl) ?_
    refine lv_iconst (v := nI 3) B.1 B.2.1 dL_law_665 (by decide) ?_
    refine lv_iadd B.1 B.2.1 dL_law_666 ?_
    refine r_tI (y := nI (i + 3)) (nI_add _ _) ?_
    refine r_sld B hX hbl hL hC (j := i + 3) (by omega) dL_law_667 ?_
    refine lv_if_eq (tgt := 675) B.1 B.2.1 dL_law_668 (by decide) (fun z => absurd z hu) (fun _ => ?_)
    refine lv_iconst (v := nI 1) B.1 B.2.1 dL_law_671 (by decide) ?_
    refine lv_goto (tgt := 676) B.1 B.2.1 dL_law_672 (by decide) ?_
    refine r_tI (y := bI true) rfl ?_
    obtain ⟨c1, q1, sm1, hM, hRR⟩ := id hm1
    refine r_calll B hC hl.1 (175) 9 rfl rfl (by decide) hM.1 (As := [.int (sc (i + 1)), .int (sc (i + 2)), .int (bI true)]) (ctX9_storm l g s.heap.size ad hM hRR ok) gL_law_X9_storm rfl (n := 3) rfl (by decide +kernel) ⟨Nat.le_of_ble_eq_true rfl, Nat.le_of_ble_eq_true rfl⟩ ⟨Nat.le_of_ble_eq_true rfl, Nat.le_of_ble_eq_true rfl⟩ rfl (Nat.le_of_ble_eq_true rfl) dL_law_676 (fun r2 F2 H locs hp2 hC => ?_)
    obtain ⟨er2, hn2, hs2⟩ := hp2
    have hx2 := hn1.low hs2
    refine W.lcmp B.1 B.2.1 dL_law_679 ?_
    refine lv_if_eq (tgt := 836) B.1 B.2.1 dL_law_680 (by decide) (fun _ => ?_) (fun z => absurd (by rw [er1, er2]; exact lc_self _) z)
    exact kk (x) _ H locs hx2 (ok) hn2 hC
set_option maxHeartbeats 4000000 in
set_option maxRecDepth 100000 in
theorem lc_20 {p : Program} {l : Launch} {e : Env} {s : State} {m : MethodId} {below : List Frame} {meth : Method} {c : Code} {H : Heap} {locs : List Loc} {Q : State → Prop} {ls : Array Slot} {g : Gx} {b L i : Nat} {ad : Nat → Nat} {F : Nat → va_E} {sc : Nat → Int32} {x : XV} (B : Bx p s m meth c code 4 rtL RL wsL_law #[Value.ref b]) (hX : va_X b L sc s s.heap) (hbl : b < s.heap.size) (hL : L ≤ 2048) (hi : i + 4 ≤ L) (hC : Cu g s.heap.size 196 ad F s s.heap H locs) (hx : XC g ad F x) (ok : XOK x) (hm : MX g ad F x) (hl : lv_has ls 4 [(3, .int (nI i)), (0, .ref b), (1, .ref (ad (0))), (2, .ref (ad (175)))])
    (kk : ∀ (x' : XV) (F' : Nat → va_E) (H' : Heap) (locs' : List Loc), XC g ad F' x' → XOK x' → MX g ad F' x' → Cu g s.heap.size 196 ad F' s s.heap H' locs' → W p l e room_1 s m #[Value.ref b] below meth c H' locs' 196 3012 Q (F0 m 836 ls [])) : W p l e room_1 s m #[Value.ref b] below meth c H locs 196 3012 Q (F0 m 685 ls []) := by
  refine lv_aload_n B.1 B.2.1 dL_law_685 rfl (lv_at hl 2 rfl) ?_
  refine lv_aload_n B.1 B.2.1 dL_law_686 rfl (lv_at hl 1 rfl) ?_
  refine lv_iload_n B.1 B.2.1 dL_law_687 rfl (lv_at hl 0 rfl) ?_
  refine lv_iconst (v := nI 1) B.1 B.2.1 dL_law_688 (by decide) ?_
  refine lv_iadd B.1 B.2.1 dL_law_689 ?_
  refine r_tI (y := nI (i + 1)) (nI_add _ _) ?_
  refine r_sld B hX hbl hL hC (j := i + 1) (by omega) dL_law_690 ?_
  refine lv_aload_n B.1 B.2.1 dL_law_691 rfl (lv_at hl 1 rfl) ?_
  refine lv_iload_n B.1 B.2.1 dL_law_692 rfl (lv_at hl 0 rfl) ?_
  refine lv_iconst (v := nI 2) B.1 B.2.1 dL_law_693 (by decide) ?_
  refine lv_iadd B.1 B.2.1 dL_law_694 ?_
  refine r_tI (y := nI (i + 2)) (nI_add _ _) ?_
  refine r_sld B hX hbl hL hC (j := i + 2) (by omega) dL_law_695 ?_
  refine lv_if_eq (tgt := 703) B.1 B.2.1 dL_law_696 (by decide) (fun hu => ?_) (fun hu => ?_)
  · refine lv_iconst (v := nI 0) B.1 B.2.1 dL_law_703 (by decide) ?_
    refine r_tI (y := bI false) rfl ?_
    refine r_calli B hC hl.1 (0) 8 rfl rfl (by decide) hx.1 (As := [.int (sc (i + 1)), .int (bI false)]) (ctX8_share l g s.heap.size ad hx ok) gL_law_X8_share rfl (n := 2) rfl (by decide +kernel) ⟨Nat.le_of_ble_eq_true rfl, Nat.le_of_ble_eq_true rfl⟩ ⟨Nat.le_of_ble_eq_true rfl, Nat.le_of_ble_eq_true rfl⟩ rfl (Nat.le_of_ble_eq_true rfl) dL_law_704 (fun r1 F1 H locs hp1 hC => ?_)
    obtain ⟨er1, eF1⟩ := hp1
    rw [eF1] at hC
    refine lv_aload_n B.1 B.2.1 dL_law_707 rfl (lv_at hl 3 rfl) ?_
    refine lv_aload_n B.1 B.2.1 dL_law_708 rfl (lv_at hl 1 rfl) ?_
    refine lv_iload_n B.1 B.2.1 dL_law_709 rfl (lv_at hl 0 rfl) ?_
    refine lv_iconst (v := nI 1) B.1 B.2.1 dL_law_710 (by decide) ?_
    refine lv_iadd B.1 B.2.1 dL_law_711 ?_
    refine r_tI (y := nI (i + 1)) (nI_add _ _) ?_
    refine r_sld B hX hbl hL hC (j := i + 1) (by omega) dL_law_712 ?_
    refine lv_aload_n B.1 B.2.1 dL_law_713 rfl (lv_at hl 1 rfl) ?_
    refine lv_iload_n B.1 B.2.1 dL_law_714 rfl (lv_at hl 0 rfl) ?_
    refine lv_iconst (v := nI 2) B.1 B.2.1 dL_law_715 (by decide) ?_
    refine lv_iadd B.1 B.2.1 dL_law_716 ?_
    refine r_tI (y := nI (i + 2)) (nI_add _ _) ?_
    refine r_sld B hX hbl hL hC (j := i + 2) (by omega) dL_law_717 ?_
    refine lv_if_eq (tgt := 725) B.1 B.2.1 dL_law_718 (by decide) (fun _ => ?_) (fun z => absurd hu z) 
    refine lv_iconst (v := nI 0) B.1 B.2.1 dL_law_725 (by decide) ?_
    refine r_tI (y := bI false) rfl ?_
    obtain ⟨c1, q1, sm1, hM, hRR⟩ := id hm
    refine r_calli B hC hl.1 (175) 9 rfl rfl (by decide) hM.1 (As := [.int (sc (i + 1)), .int (bI false)]) (ctX9_share l g s.heap.size ad hM hRR ok) gL_law_X9_share rfl (n := 2) rfl (by decide +kernel) ⟨Nat.le_of_ble_eq_true rfl, Nat.le_of_ble_eq_true rfl⟩ ⟨Nat.le_of_ble_eq_true rfl, Nat.le_of_ble_eq_true rfl⟩ rfl (Nat.le_of_ble_eq_true rfl) dL_law_726 (fun r2 F2 H locs hp2 hC => ?_)
    obtain ⟨er2, eF2⟩ := hp2
    rw [eF2] at hC
    refine lv_icmp_eq (tgt := 836) B.1 B.2.1 dL_law_729 (by decide) (fun _ => ?_) (fun z => absurd (er1.trans er2.symm) z)
    exact kk (x) _ H locs hx (ok) hm hC
  · refine lv_iconst (v := nI 1) B.1 B.2.1 dL_law_699 (by decide) ?_
    refine lv_goto (tgt := 704) B.1 B.2.1 dL_law_700 (by decide) ?_
    refine r_tI (y := bI true) rfl ?_
    refine r_calli B hC hl.1 (0) 8 rfl rfl (by decide) hx.1 (As := [.int (sc (i + 1)), .int (bI true)]) (ctX8_share l g s.heap.size ad hx ok) gL_law_X8_share rfl (n := 2) rfl (by decide +kernel) ⟨Nat.le_of_ble_eq_true rfl, Nat.le_of_ble_eq_true rfl⟩ ⟨Nat.le_of_ble_eq_true rfl, Nat.le_of_ble_eq_true rfl⟩ rfl (Nat.le_of_ble_eq_true rfl) dL_law_704 (fun r1 F1 H locs hp1 hC => ?_)
    obtain ⟨er1, eF1⟩ := hp1
    rw [eF1] at hC
    refine lv_aload_n B.1 B.2.1 dL_law_707 rfl (lv_at hl 3 rfl) ?_
    refine lv_aload_n B.1 B.2.1 dL_law_708 rfl (lv_at hl 1 rfl) ?_
    refine lv_iload_n B.1 B.2.1 dL_law_709 rfl (lv_at hl 0 rfl) ?_
    refine lv_iconst (v := nI 1) B.1 B.2.1 dL_law_710 (by decide) ?_
    refine lv_iadd B.1 B.2.1 dL_law_711 ?_
    refine r_tI (y := nI (i + 1)) (nI_add _ _) ?_
    refine r_sld B hX hbl hL hC (j := i + 1) (by omega) dL_law_712 ?_
    refine lv_aload_n B.1 B.2.1 dL_law_713 rfl (lv_at hl 1 rfl) ?_
    refine lv_iload_n B.1 B.2.1 dL_law_714 rfl (lv_at hl 0 rfl) ?_
    refine lv_iconst (v := nI 2) B.1 B.2.1 dL_law_715 (by decide) ?_
    refine lv_iadd B.1 B.2.1 dL_law_716 ?_
    refine r_tI (y := nI (i + 2)) (nI_add _ _) ?_
    refine r_sld B hX hbl hL hC (j := i + 2) (by omega) dL_law_717 ?_
    refine lv_if_eq (tgt := 725) B.1 B.2.1 dL_law_718 (by decide) (fun z => absurd z hu) (fun _ => ?_)
    refine lv_iconst (v := nI 1) B.1 B.2.1 dL_law_721 (by decide) ?_
    refine lv_goto (tgt := 726) B.1 B.2.1 dL_law_722 (by decide) ?_
    refine r_tI (y := bI true) rfl ?_
    obtain ⟨c1, q1, sm1, hM, hRR⟩ := id hm
    refine r_calli B hC hl.1 (175) 9 rfl rfl (by decide) hM.1 (As := [.int (sc (i + 1)), .int (bI true)]) (ctX9_share l g s.heap.size ad hM hRR ok) gL_law_X9_share rfl (n := 2) rfl (by decide +kernel) ⟨Nat.le_of_ble_eq_true rfl, Nat.le_of_ble_eq_true rfl⟩ ⟨Nat.le_of_ble_eq_true rfl, Nat.le_of_ble_eq_true rfl⟩ rfl (Nat.le_of_ble_eq_true rfl) dL_law_726 (fun r2 F2 H locs hp2 hC => ?_)
    obtain ⟨er2, eF2⟩ := hp2
    rw [eF2] at hC
    refine lv_icmp_eq (tgt := 836) B.1 B.2.1 dL_law_729 (by decide) (fun _ => ?_) (fun z => absurd (er1.trans er2.symm) z)
    exact kk (x) _ H locs hx (ok) hm hC
set_option maxHeartbeats 4000000 in
set_option maxRecDepth 100000 in
theorem lc_21 {p : Program} {l : Launch} {e : Env} {s : State} {m : MethodId} {below : List Frame} {meth : Method} {c : Code} {H : Heap} {locs : List Loc} {Q : State → Prop} {ls : Array Slot} {g : Gx} {b L i : Nat} {ad : Nat → Nat} {F : Nat → va_E} {sc : Nat → Int32} {x : XV} (B : Bx p s m meth c code 4 rtL RL wsL_law #[Value.ref b]) (hX : va_X b L sc s s.heap) (hbl : b < s.heap.size) (hL : L ≤ 2048) (hi : i + 4 ≤ L) (hC : Cu g s.heap.size 196 ad F s s.heap H locs) (hx : XC g ad F x) (ok : XOK x) (hm : MX g ad F x) (hl : lv_has ls 4 [(3, .int (nI i)), (0, .ref b), (1, .ref (ad (0))), (2, .ref (ad (175)))])
    (kk : ∀ (x' : XV) (F' : Nat → va_E) (H' : Heap) (locs' : List Loc), XC g ad F' x' → XOK x' → MX g ad F' x' → Cu g s.heap.size 196 ad F' s s.heap H' locs' → W p l e room_1 s m #[Value.ref b] below meth c H' locs' 196 3012 Q (F0 m 836 ls [])) : W p l e room_1 s m #[Value.ref b] below meth c H locs 196 3012 Q (F0 m 734 ls []) := by
  refine lv_aload_n B.1 B.2.1 dL_law_734 rfl (lv_at hl 2 rfl) ?_
  refine lv_aload_n B.1 B.2.1 dL_law_735 rfl (lv_at hl 1 rfl) ?_
  refine lv_iload_n B.1 B.2.1 dL_law_736 rfl (lv_at hl 0 rfl) ?_
  refine lv_iconst (v := nI 1) B.1 B.2.1 dL_law_737 (by decide) ?_
  refine lv_iadd B.1 B.2.1 dL_law_738 ?_
  refine r_tI (y := nI (i + 1)) (nI_add _ _) ?_
  refine r_sld B hX hbl hL hC (j := i + 1) (by omega) dL_law_739 ?_
  refine lv_aload_n B.1 B.2.1 dL_law_740 rfl (lv_at hl 1 rfl) ?_
  refine lv_iload_n B.1 B.2.1 dL_law_741 rfl (lv_at hl 0 rfl) ?_
  refine lv_iconst (v := nI 2) B.1 B.2.1 dL_law_742 (by decide) ?_
  refine lv_iadd B.1 B.2.1 dL_law_743 ?_
  refine r_tI (y := nI (i + 2)) (nI_add _ _) ?_
  refine r_sld B hX hbl hL hC (j := i + 2) (by omega) dL_law_744 ?_
  refine r_calli B hC hl.1 (0) 8 rfl rfl (by decide) hx.1 (As := [.int (sc (i + 1)), .int (sc (i + 2))]) (ctX8_log l g s.heap.size ad hx ok) gL_law_X8_log rfl (n := 2) rfl (by decide +kernel) ⟨Nat.le_of_ble_eq_true rfl, Nat.le_of_ble_eq_true rfl⟩ ⟨Nat.le_of_ble_eq_true rfl, Nat.le_of_ble_eq_true rfl⟩ rfl (Nat.le_of_ble_eq_true rfl) dL_law_745 (fun r1 F1 H locs hp1 hC => ?_)
  obtain ⟨er1, hn1, hs1⟩ := hp1
  have hm1 := hm.low hs1
  refine lv_aload_n B.1 B.2.1 dL_law_748 rfl (lv_at hl 3 rfl) ?_
  refine lv_aload_n B.1 B.2.1 dL_law_749 rfl (lv_at hl 1 rfl) ?_
  refine lv_iload_n B.1 B.2.1 dL_law_750 rfl (lv_at hl 0 rfl) ?_
  refine lv_iconst (v := nI 1) B.1 B.2.1 dL_law_751 (by decide) ?_
  refine lv_iadd B.1 B.2.1 dL_law_752 ?_
  refine r_tI (y := nI (i + 1)) (nI_add _ _) ?_
  refine r_sld B hX hbl hL hC (j := i + 1) (by omega) dL_law_753 ?_
  refine lv_aload_n B.1 B.2.1 dL_law_754 rfl (lv_at hl 1 rfl) ?_
  refine lv_iload_n B.1 B.2.1 dL_law_755 rfl (lv_at hl 0 rfl) ?_
  refine lv_iconst (v := nI 2) B.1 B.2.1 dL_law_756 (by decide) ?_
  refine lv_iadd B.1 B.2.1 dL_law_757 ?_
  refine r_tI (y := nI (i + 2)) (nI_add _ _) ?_
  refine r_sld B hX hbl hL hC (j := i + 2) (by omega) dL_law_758 ?_
  obtain ⟨c1, q1, sm1, hM, hRR⟩ := id hm1
  refine r_calli B hC hl.1 (175) 9 rfl rfl (by decide) hM.1 (As := [.int (sc (i + 1)), .int (sc (i + 2))]) (ctX9_log l g s.heap.size ad hM hRR ok) gL_law_X9_log rfl (n := 2) rfl (by decide +kernel) ⟨Nat.le_of_ble_eq_true rfl, Nat.le_of_ble_eq_true rfl⟩ ⟨Nat.le_of_ble_eq_true rfl, Nat.le_of_ble_eq_true rfl⟩ rfl (Nat.le_of_ble_eq_true rfl) dL_law_759 (fun r2 F2 H locs hp2 hC => ?_)
  obtain ⟨er2, hn2, hs2⟩ := hp2
  have hx2 := hn1.low hs2
  refine lv_icmp_eq (tgt := 836) B.1 B.2.1 dL_law_762 (by decide) (fun _ => ?_) (fun z => absurd (er1.trans er2.symm) z)
  exact kk (x) _ H locs hx2 (ok) hn2 hC
set_option maxHeartbeats 4000000 in
set_option maxRecDepth 100000 in
theorem lc_22 {p : Program} {l : Launch} {e : Env} {s : State} {m : MethodId} {below : List Frame} {meth : Method} {c : Code} {H : Heap} {locs : List Loc} {Q : State → Prop} {ls : Array Slot} {g : Gx} {b L i : Nat} {ad : Nat → Nat} {F : Nat → va_E} {sc : Nat → Int32} {x : XV} (B : Bx p s m meth c code 4 rtL RL wsL_law #[Value.ref b]) (hX : va_X b L sc s s.heap) (hbl : b < s.heap.size) (hL : L ≤ 2048) (hi : i + 4 ≤ L) (hC : Cu g s.heap.size 196 ad F s s.heap H locs) (hx : XC g ad F x) (ok : XOK x) (hm : MX g ad F x) (hl : lv_has ls 4 [(3, .int (nI i)), (0, .ref b), (1, .ref (ad (0))), (2, .ref (ad (175)))])
    (kk : ∀ (x' : XV) (F' : Nat → va_E) (H' : Heap) (locs' : List Loc), XC g ad F' x' → XOK x' → MX g ad F' x' → Cu g s.heap.size 196 ad F' s s.heap H' locs' → W p l e room_1 s m #[Value.ref b] below meth c H' locs' 196 3012 Q (F0 m 836 ls [])) : W p l e room_1 s m #[Value.ref b] below meth c H locs 196 3012 Q (F0 m 767 ls []) := by
  refine lv_aload_n B.1 B.2.1 dL_law_767 rfl (lv_at hl 2 rfl) ?_
  refine lv_aload_n B.1 B.2.1 dL_law_768 rfl (lv_at hl 1 rfl) ?_
  refine lv_iload_n B.1 B.2.1 dL_law_769 rfl (lv_at hl 0 rfl) ?_
  refine lv_iconst (v := nI 1) B.1 B.2.1 dL_law_770 (by decide) ?_
  refine lv_iadd B.1 B.2.1 dL_law_771 ?_
  refine r_tI (y := nI (i + 1)) (nI_add _ _) ?_
  refine r_sld B hX hbl hL hC (j := i + 1) (by omega) dL_law_772 ?_
  refine r_calli B hC hl.1 (0) 8 rfl rfl (by decide) hx.1 (As := [.int (sc (i + 1))]) (ctX8_keep l g s.heap.size ad hx ok) gL_law_X8_keep rfl (n := 1) rfl (by decide +kernel) ⟨Nat.le_of_ble_eq_true rfl, Nat.le_of_ble_eq_true rfl⟩ ⟨Nat.le_of_ble_eq_true rfl, Nat.le_of_ble_eq_true rfl⟩ rfl (Nat.le_of_ble_eq_true rfl) dL_law_773 (fun r1 F1 H locs hp1 hC => ?_)
  obtain ⟨er1, hn1, hs1⟩ := hp1
  have hm1 := hm.low hs1
  refine lv_aload_n B.1 B.2.1 dL_law_776 rfl (lv_at hl 3 rfl) ?_
  refine lv_aload_n B.1 B.2.1 dL_law_777 rfl (lv_at hl 1 rfl) ?_
  refine lv_iload_n B.1 B.2.1 dL_law_778 rfl (lv_at hl 0 rfl) ?_
  refine lv_iconst (v := nI 1) B.1 B.2.1 dL_law_779 (by decide) ?_
  refine lv_iadd B.1 B.2.1 dL_law_780 ?_
  refine r_tI (y := nI (i + 1)) (nI_add _ _) ?_
  refine r_sld B hX hbl hL hC (j := i + 1) (by omega) dL_law_781 ?_
  obtain ⟨c1, q1, sm1, hM, hRR⟩ := id hm1
  refine r_calli B hC hl.1 (175) 9 rfl rfl (by decide) hM.1 (As := [.int (sc (i + 1))]) (ctX9_keep l g s.heap.size ad hM hRR ok) gL_law_X9_keep rfl (n := 1) rfl (by decide +kernel) ⟨Nat.le_of_ble_eq_true rfl, Nat.le_of_ble_eq_true rfl⟩ ⟨Nat.le_of_ble_eq_true rfl, Nat.le_of_ble_eq_true rfl⟩ rfl (Nat.le_of_ble_eq_true rfl) dL_law_782 (fun r2 F2 H locs hp2 hC => ?_)
  obtain ⟨er2, hn2, hs2⟩ := hp2
  have hx2 := hn1.low hs2
  refine lv_icmp_eq (tgt := 836) B.1 B.2.1 dL_law_785 (by decide) (fun _ => ?_) (fun z => absurd (er1.trans er2.symm) z)
  exact kk (keepN x (sc (i + 1))) _ H locs hx2 (xok_keep ok (sc (i + 1))) hn2 hC
set_option maxHeartbeats 4000000 in
set_option maxRecDepth 100000 in
theorem lc_23 {p : Program} {l : Launch} {e : Env} {s : State} {m : MethodId} {below : List Frame} {meth : Method} {c : Code} {H : Heap} {locs : List Loc} {Q : State → Prop} {ls : Array Slot} {g : Gx} {b L i : Nat} {ad : Nat → Nat} {F : Nat → va_E} {sc : Nat → Int32} {x : XV} (B : Bx p s m meth c code 4 rtL RL wsL_law #[Value.ref b]) (hX : va_X b L sc s s.heap) (hbl : b < s.heap.size) (hL : L ≤ 2048) (hi : i + 4 ≤ L) (hC : Cu g s.heap.size 196 ad F s s.heap H locs) (hx : XC g ad F x) (ok : XOK x) (hm : MX g ad F x) (hl : lv_has ls 4 [(3, .int (nI i)), (0, .ref b), (1, .ref (ad (0))), (2, .ref (ad (175)))])
    (kk : ∀ (x' : XV) (F' : Nat → va_E) (H' : Heap) (locs' : List Loc), XC g ad F' x' → XOK x' → MX g ad F' x' → Cu g s.heap.size 196 ad F' s s.heap H' locs' → W p l e room_1 s m #[Value.ref b] below meth c H' locs' 196 3012 Q (F0 m 836 ls [])) : W p l e room_1 s m #[Value.ref b] below meth c H locs 196 3012 Q (F0 m 790 ls []) := by
  refine lv_aload_n B.1 B.2.1 dL_law_790 rfl (lv_at hl 2 rfl) ?_
  refine lv_aload_n B.1 B.2.1 dL_law_791 rfl (lv_at hl 1 rfl) ?_
  refine lv_iload_n B.1 B.2.1 dL_law_792 rfl (lv_at hl 0 rfl) ?_
  refine lv_iconst (v := nI 1) B.1 B.2.1 dL_law_793 (by decide) ?_
  refine lv_iadd B.1 B.2.1 dL_law_794 ?_
  refine r_tI (y := nI (i + 1)) (nI_add _ _) ?_
  refine r_sld B hX hbl hL hC (j := i + 1) (by omega) dL_law_795 ?_
  refine r_calli B hC hl.1 (0) 8 rfl rfl (by decide) hx.1 (As := [.int (sc (i + 1))]) (ctX8_again l g s.heap.size ad hx ok) gL_law_X8_again rfl (n := 1) rfl (by decide +kernel) ⟨Nat.le_of_ble_eq_true rfl, Nat.le_of_ble_eq_true rfl⟩ ⟨Nat.le_of_ble_eq_true rfl, Nat.le_of_ble_eq_true rfl⟩ rfl (Nat.le_of_ble_eq_true rfl) dL_law_796 (fun r1 F1 H locs hp1 hC => ?_)
  obtain ⟨er1, hn1, hs1⟩ := hp1
  have hm1 := hm.low hs1
  refine lv_aload_n B.1 B.2.1 dL_law_799 rfl (lv_at hl 3 rfl) ?_
  refine lv_aload_n B.1 B.2.1 dL_law_800 rfl (lv_at hl 1 rfl) ?_
  refine lv_iload_n B.1 B.2.1 dL_law_801 rfl (lv_at hl 0 rfl) ?_
  refine lv_iconst (v := nI 1) B.1 B.2.1 dL_law_802 (by decide) ?_
  refine lv_iadd B.1 B.2.1 dL_law_803 ?_
  refine r_tI (y := nI (i + 1)) (nI_add _ _) ?_
  refine r_sld B hX hbl hL hC (j := i + 1) (by omega) dL_law_804 ?_
  obtain ⟨c1, q1, sm1, hM, hRR⟩ := id hm1
  refine r_calli B hC hl.1 (175) 9 rfl rfl (by decide) hM.1 (As := [.int (sc (i + 1))]) (ctX9_again l g s.heap.size ad hM hRR ok) gL_law_X9_again rfl (n := 1) rfl (by decide +kernel) ⟨Nat.le_of_ble_eq_true rfl, Nat.le_of_ble_eq_true rfl⟩ ⟨Nat.le_of_ble_eq_true rfl, Nat.le_of_ble_eq_true rfl⟩ rfl (Nat.le_of_ble_eq_true rfl) dL_law_805 (fun r2 F2 H locs hp2 hC => ?_)
  obtain ⟨er2, hn2, hs2⟩ := hp2
  have hx2 := hn1.low hs2
  refine lv_icmp_eq (tgt := 836) B.1 B.2.1 dL_law_808 (by decide) (fun _ => ?_) (fun z => absurd (er1.trans er2.symm) z)
  exact kk (againN x (sc (i + 1))) _ H locs hx2 (xok_again ok (sc (i + 1))) hn2 hC
set_option maxHeartbeats 4000000 in
set_option maxRecDepth 100000 in
theorem lc_24 {p : Program} {l : Launch} {e : Env} {s : State} {m : MethodId} {below : List Frame} {meth : Method} {c : Code} {H : Heap} {locs : List Loc} {Q : State → Prop} {ls : Array Slot} {g : Gx} {b L i : Nat} {ad : Nat → Nat} {F : Nat → va_E} {sc : Nat → Int32} {x : XV} (B : Bx p s m meth c code 4 rtL RL wsL_law #[Value.ref b]) (hX : va_X b L sc s s.heap) (hbl : b < s.heap.size) (hL : L ≤ 2048) (hi : i + 4 ≤ L) (hC : Cu g s.heap.size 196 ad F s s.heap H locs) (hx : XC g ad F x) (ok : XOK x) (hm : MX g ad F x) (hl : lv_has ls 4 [(3, .int (nI i)), (0, .ref b), (1, .ref (ad (0))), (2, .ref (ad (175)))])
    (kk : ∀ (x' : XV) (F' : Nat → va_E) (H' : Heap) (locs' : List Loc), XC g ad F' x' → XOK x' → MX g ad F' x' → Cu g s.heap.size 196 ad F' s s.heap H' locs' → W p l e room_1 s m #[Value.ref b] below meth c H' locs' 196 3012 Q (F0 m 836 ls [])) : W p l e room_1 s m #[Value.ref b] below meth c H locs 196 3012 Q (F0 m 813 ls []) := by
  refine lv_aload_n B.1 B.2.1 dL_law_813 rfl (lv_at hl 2 rfl) ?_
  refine lv_aload_n B.1 B.2.1 dL_law_814 rfl (lv_at hl 1 rfl) ?_
  refine lv_iload_n B.1 B.2.1 dL_law_815 rfl (lv_at hl 0 rfl) ?_
  refine lv_iconst (v := nI 1) B.1 B.2.1 dL_law_816 (by decide) ?_
  refine lv_iadd B.1 B.2.1 dL_law_817 ?_
  refine r_tI (y := nI (i + 1)) (nI_add _ _) ?_
  refine r_sld B hX hbl hL hC (j := i + 1) (by omega) dL_law_818 ?_
  refine r_calli B hC hl.1 (0) 8 rfl rfl (by decide) hx.1 (As := [.int (sc (i + 1))]) (ctX8_count l g s.heap.size ad hx ok) gL_law_X8_count rfl (n := 1) rfl (by decide +kernel) ⟨Nat.le_of_ble_eq_true rfl, Nat.le_of_ble_eq_true rfl⟩ ⟨Nat.le_of_ble_eq_true rfl, Nat.le_of_ble_eq_true rfl⟩ rfl (Nat.le_of_ble_eq_true rfl) dL_law_819 (fun r1 F1 H locs hp1 hC => ?_)
  obtain ⟨er1, eF1⟩ := hp1
  rw [eF1] at hC
  refine lv_aload_n B.1 B.2.1 dL_law_822 rfl (lv_at hl 3 rfl) ?_
  refine lv_aload_n B.1 B.2.1 dL_law_823 rfl (lv_at hl 1 rfl) ?_
  refine lv_iload_n B.1 B.2.1 dL_law_824 rfl (lv_at hl 0 rfl) ?_
  refine lv_iconst (v := nI 1) B.1 B.2.1 dL_law_825 (by decide) ?_
  refine lv_iadd B.1 B.2.1 dL_law_826 ?_
  refine r_tI (y := nI (i + 1)) (nI_add _ _) ?_
  refine r_sld B hX hbl hL hC (j := i + 1) (by omega) dL_law_827 ?_
  obtain ⟨c1, q1, sm1, hM, hRR⟩ := id hm
  refine r_calli B hC hl.1 (175) 9 rfl rfl (by decide) hM.1 (As := [.int (sc (i + 1))]) (ctX9_count l g s.heap.size ad hM hRR ok) gL_law_X9_count rfl (n := 1) rfl (by decide +kernel) ⟨Nat.le_of_ble_eq_true rfl, Nat.le_of_ble_eq_true rfl⟩ ⟨Nat.le_of_ble_eq_true rfl, Nat.le_of_ble_eq_true rfl⟩ rfl (Nat.le_of_ble_eq_true rfl) dL_law_828 (fun r2 F2 H locs hp2 hC => ?_)
  obtain ⟨er2, eF2⟩ := hp2
  rw [eF2] at hC
  refine lv_icmp_eq (tgt := 836) B.1 B.2.1 dL_law_831 (by decide) (fun _ => ?_) (fun z => absurd (er1.trans er2.symm) z)
  exact kk (x) _ H locs hx (ok) hm hC
