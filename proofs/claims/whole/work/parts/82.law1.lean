/-! THE LAW: its cases -/
set_option maxHeartbeats 4000000 in
set_option maxRecDepth 100000 in
theorem lc_0 {p : Program} {l : Launch} {e : Env} {s : State} {m : MethodId} {below : List Frame} {meth : Method} {c : Code} {H : Heap} {locs : List Loc} {Q : State → Prop} {ls : Array Slot} {g : Gx} {b L i : Nat} {ad : Nat → Nat} {F : Nat → va_E} {sc : Nat → Int32} {x : XV} (B : Bx p s m meth c code 4 rtL RL wsL_law #[Value.ref b]) (hX : va_X b L sc s s.heap) (hbl : b < s.heap.size) (hL : L ≤ 2048) (hi : i + 4 ≤ L) (hC : Cu g s.heap.size 196 ad F s s.heap H locs) (hx : XC g ad F x) (ok : XOK x) (hm : MX g ad F x) (hl : lv_has ls 4 [(3, .int (nI i)), (0, .ref b), (1, .ref (ad (0))), (2, .ref (ad (175)))])
    (kk : ∀ (x' : XV) (F' : Nat → va_E) (H' : Heap) (locs' : List Loc), XC g ad F' x' → XOK x' → MX g ad F' x' → Cu g s.heap.size 196 ad F' s s.heap H' locs' → W p l e room_1 s m #[Value.ref b] below meth c H' locs' 196 3012 Q (F0 m 836 ls [])) : W p l e room_1 s m #[Value.ref b] below meth c H locs 196 3012 Q (F0 m 148 ls []) := by
  refine lv_aload_n B.1 B.2.1 dL_law_148 rfl (lv_at hl 2 rfl) ?_
  refine lv_aload_n B.1 B.2.1 dL_law_149 rfl (lv_at hl 1 rfl) ?_
  refine lv_iload_n B.1 B.2.1 dL_law_150 rfl (lv_at hl 0 rfl) ?_
  refine lv_iconst (v := nI 1) B.1 B.2.1 dL_law_151 (by decide) ?_
  refine lv_iadd B.1 B.2.1 dL_law_152 ?_
  refine r_tI (y := nI (i + 1)) (nI_add _ _) ?_
  refine r_sld B hX hbl hL hC (j := i + 1) (by omega) dL_law_153 ?_
  refine lv_aload_n B.1 B.2.1 dL_law_154 rfl (lv_at hl 1 rfl) ?_
  refine lv_iload_n B.1 B.2.1 dL_law_155 rfl (lv_at hl 0 rfl) ?_
  refine lv_iconst (v := nI 2) B.1 B.2.1 dL_law_156 (by decide) ?_
  refine lv_iadd B.1 B.2.1 dL_law_157 ?_
  refine r_tI (y := nI (i + 2)) (nI_add _ _) ?_
  refine r_sld B hX hbl hL hC (j := i + 2) (by omega) dL_law_158 ?_
  refine lv_i2l (v := Int32.toInt64 (sc (i + 2))) B.1 B.2.1 dL_law_159 (rfl) ?_
  refine lv_bipush (v := nI 32) B.1 B.2.1 dL_law_160 (by decide) ?_
  refine lv_lshl (v := Int32.toInt64 (sc (i + 2)) <<< (Int32.toInt64 (nI 32) &&& 63)) B.1 B.2.1 dL_law_162 (rfl) ?_
  refine lv_aload_n B.1 B.2.1 dL_law_163 rfl (lv_at hl 1 rfl) ?_
  refine lv_iload_n B.1 B.2.1 dL_law_164 rfl (lv_at hl 0 rfl) ?_
  refine lv_iconst (v := nI 3) B.1 B.2.1 dL_law_165 (by decide) ?_
  refine lv_iadd B.1 B.2.1 dL_law_166 ?_
  refine r_tI (y := nI (i + 3)) (nI_add _ _) ?_
  refine r_sld B hX hbl hL hC (j := i + 3) (by omega) dL_law_167 ?_
  refine lv_i2l (v := Int32.toInt64 (sc (i + 3))) B.1 B.2.1 dL_law_168 (rfl) ?_
  refine lv_ldc2 (own := RL) (v := 4294967295) B.1 B.2.1 B.2.2.2.1 (B.2.2.2.2.1 (.constantLong RL 13 (4294967295)) (by decide +kernel)) dL_law_169 ?_
  refine lv_land B.1 B.2.1 dL_law_172 ?_
  refine lv_lor B.1 B.2.1 dL_law_173 ?_
  refine r_tL (y := ((Int32.toInt64 (sc (i + 2)) <<< (Int32.toInt64 (nI 32) &&& 63)) ||| (Int32.toInt64 (sc (i + 3)) &&& 4294967295))) rfl ?_
  refine r_calli B hC hl.1 (0) 8 rfl rfl (by decide) hx.1 (As := [.int (sc (i + 1)), .long (((Int32.toInt64 (sc (i + 2)) <<< (Int32.toInt64 (nI 32) &&& 63)) ||| (Int32.toInt64 (sc (i + 3)) &&& 4294967295)))]) (ctX8_write l g s.heap.size ad hx ok) gL_law_X8_write rfl (n := 2) rfl (by decide +kernel) ⟨Nat.le_of_ble_eq_true rfl, Nat.le_of_ble_eq_true rfl⟩ ⟨Nat.le_of_ble_eq_true rfl, Nat.le_of_ble_eq_true rfl⟩ rfl (Nat.le_of_ble_eq_true rfl) dL_law_174 (fun r1 F1 H locs hp1 hC => ?_)
  obtain ⟨er1, hn1, hs1⟩ := hp1
  have hm1 := hm.low hs1
  refine lv_aload_n B.1 B.2.1 dL_law_177 rfl (lv_at hl 3 rfl) ?_
  refine lv_aload_n B.1 B.2.1 dL_law_178 rfl (lv_at hl 1 rfl) ?_
  refine lv_iload_n B.1 B.2.1 dL_law_179 rfl (lv_at hl 0 rfl) ?_
  refine lv_iconst (v := nI 1) B.1 B.2.1 dL_law_180 (by decide) ?_
  refine lv_iadd B.1 B.2.1 dL_law_181 ?_
  refine r_tI (y := nI (i + 1)) (nI_add _ _) ?_
  refine r_sld B hX hbl hL hC (j := i + 1) (by omega) dL_law_182 ?_
  refine lv_aload_n B.1 B.2.1 dL_law_183 rfl (lv_at hl 1 rfl) ?_
  refine lv_iload_n B.1 B.2.1 dL_law_184 rfl (lv_at hl 0 rfl) ?_
  refine lv_iconst (v := nI 2) B.1 B.2.1 dL_law_185 (by decide) ?_
  refine lv_iadd B.1 B.2.1 dL_law_186 ?_
  refine r_tI (y := nI (i + 2)) (nI_add _ _) ?_
  refine r_sld B hX hbl hL hC (j := i + 2) (by omega) dL_law_187 ?_
  refine lv_i2l (v := Int32.toInt64 (sc (i + 2))) B.1 B.2.1 dL_law_188 (rfl) ?_
  refine lv_bipush (v := nI 32) B.1 B.2.1 dL_law_189 (by decide) ?_
  refine lv_lshl (v := Int32.toInt64 (sc (i + 2)) <<< (Int32.toInt64 (nI 32) &&& 63)) B.1 B.2.1 dL_law_191 (rfl) ?_
  refine lv_aload_n B.1 B.2.1 dL_law_192 rfl (lv_at hl 1 rfl) ?_
  refine lv_iload_n B.1 B.2.1 dL_law_193 rfl (lv_at hl 0 rfl) ?_
  refine lv_iconst (v := nI 3) B.1 B.2.1 dL_law_194 (by decide) ?_
  refine lv_iadd B.1 B.2.1 dL_law_195 ?_
  refine r_tI (y := nI (i + 3)) (nI_add _ _) ?_
  refine r_sld B hX hbl hL hC (j := i + 3) (by omega) dL_law_196 ?_
  refine lv_i2l (v := Int32.toInt64 (sc (i + 3))) B.1 B.2.1 dL_law_197 (rfl) ?_
  refine lv_ldc2 (own := RL) (v := 4294967295) B.1 B.2.1 B.2.2.2.1 (B.2.2.2.2.1 (.constantLong RL 13 (4294967295)) (by decide +kernel)) dL_law_198 ?_
  refine lv_land B.1 B.2.1 dL_law_201 ?_
  refine lv_lor B.1 B.2.1 dL_law_202 ?_
  refine r_tL (y := ((Int32.toInt64 (sc (i + 2)) <<< (Int32.toInt64 (nI 32) &&& 63)) ||| (Int32.toInt64 (sc (i + 3)) &&& 4294967295))) rfl ?_
  obtain ⟨c1, q1, sm1, hM, hRR⟩ := id hm1
  refine r_calli B hC hl.1 (175) 9 rfl rfl (by decide) hM.1 (As := [.int (sc (i + 1)), .long (((Int32.toInt64 (sc (i + 2)) <<< (Int32.toInt64 (nI 32) &&& 63)) ||| (Int32.toInt64 (sc (i + 3)) &&& 4294967295)))]) (ctX9_write l g s.heap.size ad hM hRR ok) gL_law_X9_write rfl (n := 2) rfl (by decide +kernel) ⟨Nat.le_of_ble_eq_true rfl, Nat.le_of_ble_eq_true rfl⟩ ⟨Nat.le_of_ble_eq_true rfl, Nat.le_of_ble_eq_true rfl⟩ rfl (Nat.le_of_ble_eq_true rfl) dL_law_203 (fun r2 F2 H locs hp2 hC => ?_)
  obtain ⟨er2, hn2, hs2⟩ := hp2
  have hx2 := hn1.low hs2
  refine lv_icmp_eq (tgt := 836) B.1 B.2.1 dL_law_206 (by decide) (fun _ => ?_) (fun z => absurd (er1.trans er2.symm) z)
  exact kk (writeN x (sc (i + 1)) ((Int32.toInt64 (sc (i + 2)) <<< (Int32.toInt64 (nI 32) &&& 63)) ||| (Int32.toInt64 (sc (i + 3)) &&& 4294967295))) _ H locs hx2 (xok_write ok (sc (i + 1)) ((Int32.toInt64 (sc (i + 2)) <<< (Int32.toInt64 (nI 32) &&& 63)) ||| (Int32.toInt64 (sc (i + 3)) &&& 4294967295))) hn2 hC
set_option maxHeartbeats 4000000 in
set_option maxRecDepth 100000 in
theorem lc_1 {p : Program} {l : Launch} {e : Env} {s : State} {m : MethodId} {below : List Frame} {meth : Method} {c : Code} {H : Heap} {locs : List Loc} {Q : State → Prop} {ls : Array Slot} {g : Gx} {b L i : Nat} {ad : Nat → Nat} {F : Nat → va_E} {sc : Nat → Int32} {x : XV} (B : Bx p s m meth c code 4 rtL RL wsL_law #[Value.ref b]) (hX : va_X b L sc s s.heap) (hbl : b < s.heap.size) (hL : L ≤ 2048) (hi : i + 4 ≤ L) (hC : Cu g s.heap.size 196 ad F s s.heap H locs) (hx : XC g ad F x) (ok : XOK x) (hm : MX g ad F x) (hl : lv_has ls 4 [(3, .int (nI i)), (0, .ref b), (1, .ref (ad (0))), (2, .ref (ad (175)))])
    (kk : ∀ (x' : XV) (F' : Nat → va_E) (H' : Heap) (locs' : List Loc), XC g ad F' x' → XOK x' → MX g ad F' x' → Cu g s.heap.size 196 ad F' s s.heap H' locs' → W p l e room_1 s m #[Value.ref b] below meth c H' locs' 196 3012 Q (F0 m 836 ls [])) : W p l e room_1 s m #[Value.ref b] below meth c H locs 196 3012 Q (F0 m 211 ls []) := by
  refine lv_aload_n B.1 B.2.1 dL_law_211 rfl (lv_at hl 2 rfl) ?_
  refine r_calli B hC hl.1 (0) 8 rfl rfl (by decide) hx.1 (As := []) (ctX8_wipe l g s.heap.size ad hx ok) gL_law_X8_wipe rfl (n := 0) rfl (by decide +kernel) ⟨Nat.le_of_ble_eq_true rfl, Nat.le_of_ble_eq_true rfl⟩ ⟨Nat.le_of_ble_eq_true rfl, Nat.le_of_ble_eq_true rfl⟩ rfl (Nat.le_of_ble_eq_true rfl) dL_law_212 (fun r1 F1 H locs hp1 hC => ?_)
  obtain ⟨er1, hn1, hs1⟩ := hp1
  have hm1 := hm.low hs1
  refine lv_aload_n B.1 B.2.1 dL_law_215 rfl (lv_at hl 3 rfl) ?_
  obtain ⟨c1, q1, sm1, hM, hRR⟩ := id hm1
  refine r_calli B hC hl.1 (175) 9 rfl rfl (by decide) hM.1 (As := []) (ctX9_wipe l g s.heap.size ad hM hRR ok) gL_law_X9_wipe rfl (n := 0) rfl (by decide +kernel) ⟨Nat.le_of_ble_eq_true rfl, Nat.le_of_ble_eq_true rfl⟩ ⟨Nat.le_of_ble_eq_true rfl, Nat.le_of_ble_eq_true rfl⟩ rfl (Nat.le_of_ble_eq_true rfl) dL_law_216 (fun r2 F2 H locs hp2 hC => ?_)
  obtain ⟨er2, hn2, hs2⟩ := hp2
  have hx2 := hn1.low hs2
  refine lv_icmp_eq (tgt := 836) B.1 B.2.1 dL_law_219 (by decide) (fun _ => ?_) (fun z => absurd (er1.trans er2.symm) z)
  exact kk (wipeX x) _ H locs hx2 (xok_wipe ok) hn2 hC
set_option maxHeartbeats 4000000 in
set_option maxRecDepth 100000 in
theorem lc_2 {p : Program} {l : Launch} {e : Env} {s : State} {m : MethodId} {below : List Frame} {meth : Method} {c : Code} {H : Heap} {locs : List Loc} {Q : State → Prop} {ls : Array Slot} {g : Gx} {b L i : Nat} {ad : Nat → Nat} {F : Nat → va_E} {sc : Nat → Int32} {x : XV} (B : Bx p s m meth c code 4 rtL RL wsL_law #[Value.ref b]) (hX : va_X b L sc s s.heap) (hbl : b < s.heap.size) (hL : L ≤ 2048) (hi : i + 4 ≤ L) (hC : Cu g s.heap.size 196 ad F s s.heap H locs) (hx : XC g ad F x) (ok : XOK x) (hm : MX g ad F x) (hl : lv_has ls 4 [(3, .int (nI i)), (0, .ref b), (1, .ref (ad (0))), (2, .ref (ad (175)))])
    (kk : ∀ (x' : XV) (F' : Nat → va_E) (H' : Heap) (locs' : List Loc), XC g ad F' x' → XOK x' → MX g ad F' x' → Cu g s.heap.size 196 ad F' s s.heap H' locs' → W p l e room_1 s m #[Value.ref b] below meth c H' locs' 196 3012 Q (F0 m 836 ls [])) : W p l e room_1 s m #[Value.ref b] below meth c H locs 196 3012 Q (F0 m 224 ls []) := by
  refine lv_aload_n B.1 B.2.1 dL_law_224 rfl (lv_at hl 2 rfl) ?_
  refine r_calli B hC hl.1 (0) 8 rfl rfl (by decide) hx.1 (As := []) (ctX8_fault l g s.heap.size ad hx ok) gL_law_X8_fault rfl (n := 0) rfl (by decide +kernel) ⟨Nat.le_of_ble_eq_true rfl, Nat.le_of_ble_eq_true rfl⟩ ⟨Nat.le_of_ble_eq_true rfl, Nat.le_of_ble_eq_true rfl⟩ rfl (Nat.le_of_ble_eq_true rfl) dL_law_225 (fun r1 F1 H locs hp1 hC => ?_)
  obtain ⟨er1, eF1⟩ := hp1
  rw [eF1] at hC
  refine lv_aload_n B.1 B.2.1 dL_law_228 rfl (lv_at hl 3 rfl) ?_
  obtain ⟨c1, q1, sm1, hM, hRR⟩ := id hm
  refine r_calli B hC hl.1 (175) 9 rfl rfl (by decide) hM.1 (As := []) (ctX9_fault l g s.heap.size ad hM hRR ok) gL_law_X9_fault rfl (n := 0) rfl (by decide +kernel) ⟨Nat.le_of_ble_eq_true rfl, Nat.le_of_ble_eq_true rfl⟩ ⟨Nat.le_of_ble_eq_true rfl, Nat.le_of_ble_eq_true rfl⟩ rfl (Nat.le_of_ble_eq_true rfl) dL_law_229 (fun r2 F2 H locs hp2 hC => ?_)
  obtain ⟨er2, hn2, hs2⟩ := hp2
  have hx2 := hx.low hs2
  refine lv_icmp_eq (tgt := 836) B.1 B.2.1 dL_law_232 (by decide) (fun _ => ?_) (fun z => absurd (er1.trans er2.symm) z)
  exact kk (x) _ H locs hx2 (ok) hn2 hC
set_option maxHeartbeats 4000000 in
set_option maxRecDepth 100000 in
theorem lc_3 {p : Program} {l : Launch} {e : Env} {s : State} {m : MethodId} {below : List Frame} {meth : Method} {c : Code} {H : Heap} {locs : List Loc} {Q : State → Prop} {ls : Array Slot} {g : Gx} {b L i : Nat} {ad : Nat → Nat} {F : Nat → va_E} {sc : Nat → Int32} {x : XV} (B : Bx p s m meth c code 4 rtL RL wsL_law #[Value.ref b]) (hX : va_X b L sc s s.heap) (hbl : b < s.heap.size) (hL : L ≤ 2048) (hi : i + 4 ≤ L) (hC : Cu g s.heap.size 196 ad F s s.heap H locs) (hx : XC g ad F x) (ok : XOK x) (hm : MX g ad F x) (hl : lv_has ls 4 [(3, .int (nI i)), (0, .ref b), (1, .ref (ad (0))), (2, .ref (ad (175)))])
    (kk : ∀ (x' : XV) (F' : Nat → va_E) (H' : Heap) (locs' : List Loc), XC g ad F' x' → XOK x' → MX g ad F' x' → Cu g s.heap.size 196 ad F' s s.heap H' locs' → W p l e room_1 s m #[Value.ref b] below meth c H' locs' 196 3012 Q (F0 m 836 ls [])) : W p l e room_1 s m #[Value.ref b] below meth c H locs 196 3012 Q (F0 m 237 ls []) := by
  refine lv_aload_n B.1 B.2.1 dL_law_237 rfl (lv_at hl 2 rfl) ?_
  refine r_calli B hC hl.1 (0) 8 rfl rfl (by decide) hx.1 (As := []) (ctX8_ship l g s.heap.size ad hx ok) gL_law_X8_ship rfl (n := 0) rfl (by decide +kernel) ⟨Nat.le_of_ble_eq_true rfl, Nat.le_of_ble_eq_true rfl⟩ ⟨Nat.le_of_ble_eq_true rfl, Nat.le_of_ble_eq_true rfl⟩ rfl (Nat.le_of_ble_eq_true rfl) dL_law_238 (fun r1 F1 H locs hp1 hC => ?_)
  obtain ⟨er1, hn1, hs1⟩ := hp1
  have hm1 := hm.low hs1
  refine lv_aload_n B.1 B.2.1 dL_law_241 rfl (lv_at hl 3 rfl) ?_
  obtain ⟨c1, q1, sm1, hM, hRR⟩ := id hm1
  refine r_calli B hC hl.1 (175) 9 rfl rfl (by decide) hM.1 (As := []) (ctX9_ship l g s.heap.size ad hM hRR ok) gL_law_X9_ship rfl (n := 0) rfl (by decide +kernel) ⟨Nat.le_of_ble_eq_true rfl, Nat.le_of_ble_eq_true rfl⟩ ⟨Nat.le_of_ble_eq_true rfl, Nat.le_of_ble_eq_true rfl⟩ rfl (Nat.le_of_ble_eq_true rfl) dL_law_242 (fun r2 F2 H locs hp2 hC => ?_)
  obtain ⟨er2, hn2, hs2⟩ := hp2
  have hx2 := hn1.low hs2
  refine lv_icmp_eq (tgt := 836) B.1 B.2.1 dL_law_245 (by decide) (fun _ => ?_) (fun z => absurd (er1.trans er2.symm) z)
  exact kk (shipN x) _ H locs hx2 (xok_ship ok) hn2 hC
set_option maxHeartbeats 4000000 in
set_option maxRecDepth 100000 in
theorem lc_4 {p : Program} {l : Launch} {e : Env} {s : State} {m : MethodId} {below : List Frame} {meth : Method} {c : Code} {H : Heap} {locs : List Loc} {Q : State → Prop} {ls : Array Slot} {g : Gx} {b L i : Nat} {ad : Nat → Nat} {F : Nat → va_E} {sc : Nat → Int32} {x : XV} (B : Bx p s m meth c code 4 rtL RL wsL_law #[Value.ref b]) (hX : va_X b L sc s s.heap) (hbl : b < s.heap.size) (hL : L ≤ 2048) (hi : i + 4 ≤ L) (hC : Cu g s.heap.size 196 ad F s s.heap H locs) (hx : XC g ad F x) (ok : XOK x) (hm : MX g ad F x) (hl : lv_has ls 4 [(3, .int (nI i)), (0, .ref b), (1, .ref (ad (0))), (2, .ref (ad (175)))])
    (kk : ∀ (x' : XV) (F' : Nat → va_E) (H' : Heap) (locs' : List Loc), XC g ad F' x' → XOK x' → MX g ad F' x' → Cu g s.heap.size 196 ad F' s s.heap H' locs' → W p l e room_1 s m #[Value.ref b] below meth c H' locs' 196 3012 Q (F0 m 836 ls [])) : W p l e room_1 s m #[Value.ref b] below meth c H locs 196 3012 Q (F0 m 250 ls []) := by
  refine lv_aload_n B.1 B.2.1 dL_law_250 rfl (lv_at hl 2 rfl) ?_
  refine lv_aload_n B.1 B.2.1 dL_law_251 rfl (lv_at hl 1 rfl) ?_
  refine lv_iload_n B.1 B.2.1 dL_law_252 rfl (lv_at hl 0 rfl) ?_
  refine lv_iconst (v := nI 1) B.1 B.2.1 dL_law_253 (by decide) ?_
  refine lv_iadd B.1 B.2.1 dL_law_254 ?_
  refine r_tI (y := nI (i + 1)) (nI_add _ _) ?_
  refine r_sld B hX hbl hL hC (j := i + 1) (by omega) dL_law_255 ?_
  refine lv_aload_n B.1 B.2.1 dL_law_256 rfl (lv_at hl 1 rfl) ?_
  refine lv_iload_n B.1 B.2.1 dL_law_257 rfl (lv_at hl 0 rfl) ?_
  refine lv_iconst (v := nI 2) B.1 B.2.1 dL_law_258 (by decide) ?_
  refine lv_iadd B.1 B.2.1 dL_law_259 ?_
  refine r_tI (y := nI (i + 2)) (nI_add _ _) ?_
  refine r_sld B hX hbl hL hC (j := i + 2) (by omega) dL_law_260 ?_
  refine r_calli B hC hl.1 (0) 8 rfl rfl (by decide) hx.1 (As := [.int (sc (i + 1)), .int (sc (i + 2))]) (ctX8_place l g s.heap.size ad hx ok) gL_law_X8_place rfl (n := 2) rfl (by decide +kernel) ⟨Nat.le_of_ble_eq_true rfl, Nat.le_of_ble_eq_true rfl⟩ ⟨Nat.le_of_ble_eq_true rfl, Nat.le_of_ble_eq_true rfl⟩ rfl (Nat.le_of_ble_eq_true rfl) dL_law_261 (fun r1 F1 H locs hp1 hC => ?_)
  obtain ⟨er1, eF1⟩ := hp1
  rw [eF1] at hC
  refine lv_aload_n B.1 B.2.1 dL_law_264 rfl (lv_at hl 3 rfl) ?_
  refine lv_aload_n B.1 B.2.1 dL_law_265 rfl (lv_at hl 1 rfl) ?_
  refine lv_iload_n B.1 B.2.1 dL_law_266 rfl (lv_at hl 0 rfl) ?_
  refine lv_iconst (v := nI 1) B.1 B.2.1 dL_law_267 (by decide) ?_
  refine lv_iadd B.1 B.2.1 dL_law_268 ?_
  refine r_tI (y := nI (i + 1)) (nI_add _ _) ?_
  refine r_sld B hX hbl hL hC (j := i + 1) (by omega) dL_law_269 ?_
  refine lv_aload_n B.1 B.2.1 dL_law_270 rfl (lv_at hl 1 rfl) ?_
  refine lv_iload_n B.1 B.2.1 dL_law_271 rfl (lv_at hl 0 rfl) ?_
  refine lv_iconst (v := nI 2) B.1 B.2.1 dL_law_272 (by decide) ?_
  refine lv_iadd B.1 B.2.1 dL_law_273 ?_
  refine r_tI (y := nI (i + 2)) (nI_add _ _) ?_
  refine r_sld B hX hbl hL hC (j := i + 2) (by omega) dL_law_274 ?_
  obtain ⟨c1, q1, sm1, hM, hRR⟩ := id hm
  refine r_calli B hC hl.1 (175) 9 rfl rfl (by decide) hM.1 (As := [.int (sc (i + 1)), .int (sc (i + 2))]) (ctX9_place l g s.heap.size ad hM hRR ok) gL_law_X9_place rfl (n := 2) rfl (by decide +kernel) ⟨Nat.le_of_ble_eq_true rfl, Nat.le_of_ble_eq_true rfl⟩ ⟨Nat.le_of_ble_eq_true rfl, Nat.le_of_ble_eq_true rfl⟩ rfl (Nat.le_of_ble_eq_true rfl) dL_law_275 (fun r2 F2 H locs hp2 hC => ?_)
  obtain ⟨er2, eF2⟩ := hp2
  rw [eF2] at hC
  refine lv_icmp_eq (tgt := 836) B.1 B.2.1 dL_law_278 (by decide) (fun _ => ?_) (fun z => absurd (er1.trans er2.symm) z)
  exact kk (x) _ H locs hx (ok) hm hC
set_option maxHeartbeats 4000000 in
set_option maxRecDepth 100000 in
theorem lc_5 {p : Program} {l : Launch} {e : Env} {s : State} {m : MethodId} {below : List Frame} {meth : Method} {c : Code} {H : Heap} {locs : List Loc} {Q : State → Prop} {ls : Array Slot} {g : Gx} {b L i : Nat} {ad : Nat → Nat} {F : Nat → va_E} {sc : Nat → Int32} {x : XV} (B : Bx p s m meth c code 4 rtL RL wsL_law #[Value.ref b]) (hX : va_X b L sc s s.heap) (hbl : b < s.heap.size) (hL : L ≤ 2048) (hi : i + 4 ≤ L) (hC : Cu g s.heap.size 196 ad F s s.heap H locs) (hx : XC g ad F x) (ok : XOK x) (hm : MX g ad F x) (hl : lv_has ls 4 [(3, .int (nI i)), (0, .ref b), (1, .ref (ad (0))), (2, .ref (ad (175)))])
    (kk : ∀ (x' : XV) (F' : Nat → va_E) (H' : Heap) (locs' : List Loc), XC g ad F' x' → XOK x' → MX g ad F' x' → Cu g s.heap.size 196 ad F' s s.heap H' locs' → W p l e room_1 s m #[Value.ref b] below meth c H' locs' 196 3012 Q (F0 m 836 ls [])) : W p l e room_1 s m #[Value.ref b] below meth c H locs 196 3012 Q (F0 m 283 ls []) := by
  refine lv_aload_n B.1 B.2.1 dL_law_283 rfl (lv_at hl 2 rfl) ?_
  refine lv_aload_n B.1 B.2.1 dL_law_284 rfl (lv_at hl 1 rfl) ?_
  refine lv_iload_n B.1 B.2.1 dL_law_285 rfl (lv_at hl 0 rfl) ?_
  refine lv_iconst (v := nI 1) B.1 B.2.1 dL_law_286 (by decide) ?_
  refine lv_iadd B.1 B.2.1 dL_law_287 ?_
  refine r_tI (y := nI (i + 1)) (nI_add _ _) ?_
  refine r_sld B hX hbl hL hC (j := i + 1) (by omega) dL_law_288 ?_
  refine lv_aload_n B.1 B.2.1 dL_law_289 rfl (lv_at hl 1 rfl) ?_
  refine lv_iload_n B.1 B.2.1 dL_law_290 rfl (lv_at hl 0 rfl) ?_
  refine lv_iconst (v := nI 2) B.1 B.2.1 dL_law_291 (by decide) ?_
  refine lv_iadd B.1 B.2.1 dL_law_292 ?_
  refine r_tI (y := nI (i + 2)) (nI_add _ _) ?_
  refine r_sld B hX hbl hL hC (j := i + 2) (by omega) dL_law_293 ?_
  refine r_calli B hC hl.1 (0) 8 rfl rfl (by decide) hx.1 (As := [.int (sc (i + 1)), .int (sc (i + 2))]) (ctX8_timber l g s.heap.size ad hx ok) gL_law_X8_timber rfl (n := 2) rfl (by decide +kernel) ⟨Nat.le_of_ble_eq_true rfl, Nat.le_of_ble_eq_true rfl⟩ ⟨Nat.le_of_ble_eq_true rfl, Nat.le_of_ble_eq_true rfl⟩ rfl (Nat.le_of_ble_eq_true rfl) dL_law_294 (fun r1 F1 H locs hp1 hC => ?_)
  obtain ⟨er1, eF1⟩ := hp1
  rw [eF1] at hC
  refine lv_aload_n B.1 B.2.1 dL_law_297 rfl (lv_at hl 3 rfl) ?_
  refine lv_aload_n B.1 B.2.1 dL_law_298 rfl (lv_at hl 1 rfl) ?_
  refine lv_iload_n B.1 B.2.1 dL_law_299 rfl (lv_at hl 0 rfl) ?_
  refine lv_iconst (v := nI 1) B.1 B.2.1 dL_law_300 (by decide) ?_
  refine lv_iadd B.1 B.2.1 dL_law_301 ?_
  refine r_tI (y := nI (i + 1)) (nI_add _ _) ?_
  refine r_sld B hX hbl hL hC (j := i + 1) (by omega) dL_law_302 ?_
  refine lv_aload_n B.1 B.2.1 dL_law_303 rfl (lv_at hl 1 rfl) ?_
  refine lv_iload_n B.1 B.2.1 dL_law_304 rfl (lv_at hl 0 rfl) ?_
  refine lv_iconst (v := nI 2) B.1 B.2.1 dL_law_305 (by decide) ?_
  refine lv_iadd B.1 B.2.1 dL_law_306 ?_
  refine r_tI (y := nI (i + 2)) (nI_add _ _) ?_
  refine r_sld B hX hbl hL hC (j := i + 2) (by omega) dL_law_307 ?_
  obtain ⟨c1, q1, sm1, hM, hRR⟩ := id hm
  refine r_calli B hC hl.1 (175) 9 rfl rfl (by decide) hM.1 (As := [.int (sc (i + 1)), .int (sc (i + 2))]) (ctX9_timber l g s.heap.size ad hM hRR ok) gL_law_X9_timber rfl (n := 2) rfl (by decide +kernel) ⟨Nat.le_of_ble_eq_true rfl, Nat.le_of_ble_eq_true rfl⟩ ⟨Nat.le_of_ble_eq_true rfl, Nat.le_of_ble_eq_true rfl⟩ rfl (Nat.le_of_ble_eq_true rfl) dL_law_308 (fun r2 F2 H locs hp2 hC => ?_)
  obtain ⟨er2, eF2⟩ := hp2
  rw [eF2] at hC
  refine lv_icmp_eq (tgt := 836) B.1 B.2.1 dL_law_311 (by decide) (fun _ => ?_) (fun z => absurd (er1.trans er2.symm) z)
  exact kk (x) _ H locs hx (ok) hm hC
set_option maxHeartbeats 4000000 in
set_option maxRecDepth 100000 in
theorem lc_6 {p : Program} {l : Launch} {e : Env} {s : State} {m : MethodId} {below : List Frame} {meth : Method} {c : Code} {H : Heap} {locs : List Loc} {Q : State → Prop} {ls : Array Slot} {g : Gx} {b L i : Nat} {ad : Nat → Nat} {F : Nat → va_E} {sc : Nat → Int32} {x : XV} (B : Bx p s m meth c code 4 rtL RL wsL_law #[Value.ref b]) (hX : va_X b L sc s s.heap) (hbl : b < s.heap.size) (hL : L ≤ 2048) (hi : i + 4 ≤ L) (hC : Cu g s.heap.size 196 ad F s s.heap H locs) (hx : XC g ad F x) (ok : XOK x) (hm : MX g ad F x) (hl : lv_has ls 4 [(3, .int (nI i)), (0, .ref b), (1, .ref (ad (0))), (2, .ref (ad (175)))])
    (kk : ∀ (x' : XV) (F' : Nat → va_E) (H' : Heap) (locs' : List Loc), XC g ad F' x' → XOK x' → MX g ad F' x' → Cu g s.heap.size 196 ad F' s s.heap H' locs' → W p l e room_1 s m #[Value.ref b] below meth c H' locs' 196 3012 Q (F0 m 836 ls [])) : W p l e room_1 s m #[Value.ref b] below meth c H locs 196 3012 Q (F0 m 316 ls []) := by
  refine lv_aload_n B.1 B.2.1 dL_law_316 rfl (lv_at hl 2 rfl) ?_
  refine lv_aload_n B.1 B.2.1 dL_law_317 rfl (lv_at hl 1 rfl) ?_
  refine lv_iload_n B.1 B.2.1 dL_law_318 rfl (lv_at hl 0 rfl) ?_
  refine lv_iconst (v := nI 1) B.1 B.2.1 dL_law_319 (by decide) ?_
  refine lv_iadd B.1 B.2.1 dL_law_320 ?_
  refine r_tI (y := nI (i + 1)) (nI_add _ _) ?_
  refine r_sld B hX hbl hL hC (j := i + 1) (by omega) dL_law_321 ?_
  refine r_calli B hC hl.1 (0) 8 rfl rfl (by decide) hx.1 (As := [.int (sc (i + 1))]) (ctX8_take l g s.heap.size ad hx ok) gL_law_X8_take rfl (n := 1) rfl (by decide +kernel) ⟨Nat.le_of_ble_eq_true rfl, Nat.le_of_ble_eq_true rfl⟩ ⟨Nat.le_of_ble_eq_true rfl, Nat.le_of_ble_eq_true rfl⟩ rfl (Nat.le_of_ble_eq_true rfl) dL_law_322 (fun r1 F1 H locs hp1 hC => ?_)
  obtain ⟨er1, hn1, hs1⟩ := hp1
  have hm1 := hm.low hs1
  refine lv_aload_n B.1 B.2.1 dL_law_325 rfl (lv_at hl 3 rfl) ?_
  refine lv_aload_n B.1 B.2.1 dL_law_326 rfl (lv_at hl 1 rfl) ?_
  refine lv_iload_n B.1 B.2.1 dL_law_327 rfl (lv_at hl 0 rfl) ?_
  refine lv_iconst (v := nI 1) B.1 B.2.1 dL_law_328 (by decide) ?_
  refine lv_iadd B.1 B.2.1 dL_law_329 ?_
  refine r_tI (y := nI (i + 1)) (nI_add _ _) ?_
  refine r_sld B hX hbl hL hC (j := i + 1) (by omega) dL_law_330 ?_
  obtain ⟨c1, q1, sm1, hM, hRR⟩ := id hm1
  refine r_calli B hC hl.1 (175) 9 rfl rfl (by decide) hM.1 (As := [.int (sc (i + 1))]) (ctX9_take l g s.heap.size ad hM hRR ok) gL_law_X9_take rfl (n := 1) rfl (by decide +kernel) ⟨Nat.le_of_ble_eq_true rfl, Nat.le_of_ble_eq_true rfl⟩ ⟨Nat.le_of_ble_eq_true rfl, Nat.le_of_ble_eq_true rfl⟩ rfl (Nat.le_of_ble_eq_true rfl) dL_law_331 (fun r2 F2 H locs hp2 hC => ?_)
  obtain ⟨er2, hn2, hs2⟩ := hp2
  have hx2 := hn1.low hs2
  refine lv_icmp_eq (tgt := 836) B.1 B.2.1 dL_law_334 (by decide) (fun _ => ?_) (fun z => absurd (er1.trans er2.symm) z)
  exact kk (takeN x (sc (i + 1))) _ H locs hx2 (xok_take ok (sc (i + 1))) hn2 hC
set_option maxHeartbeats 4000000 in
set_option maxRecDepth 100000 in
theorem lc_7 {p : Program} {l : Launch} {e : Env} {s : State} {m : MethodId} {below : List Frame} {meth : Method} {c : Code} {H : Heap} {locs : List Loc} {Q : State → Prop} {ls : Array Slot} {g : Gx} {b L i : Nat} {ad : Nat → Nat} {F : Nat → va_E} {sc : Nat → Int32} {x : XV} (B : Bx p s m meth c code 4 rtL RL wsL_law #[Value.ref b]) (hX : va_X b L sc s s.heap) (hbl : b < s.heap.size) (hL : L ≤ 2048) (hi : i + 4 ≤ L) (hC : Cu g s.heap.size 196 ad F s s.heap H locs) (hx : XC g ad F x) (ok : XOK x) (hm : MX g ad F x) (hl : lv_has ls 4 [(3, .int (nI i)), (0, .ref b), (1, .ref (ad (0))), (2, .ref (ad (175)))])
    (kk : ∀ (x' : XV) (F' : Nat → va_E) (H' : Heap) (locs' : List Loc), XC g ad F' x' → XOK x' → MX g ad F' x' → Cu g s.heap.size 196 ad F' s s.heap H' locs' → W p l e room_1 s m #[Value.ref b] below meth c H' locs' 196 3012 Q (F0 m 836 ls [])) : W p l e room_1 s m #[Value.ref b] below meth c H locs 196 3012 Q (F0 m 339 ls []) := by
  refine lv_aload_n B.1 B.2.1 dL_law_339 rfl (lv_at hl 2 rfl) ?_
  refine lv_aload_n B.1 B.2.1 dL_law_340 rfl (lv_at hl 1 rfl) ?_
  refine lv_iload_n B.1 B.2.1 dL_law_341 rfl (lv_at hl 0 rfl) ?_
  refine lv_iconst (v := nI 1) B.1 B.2.1 dL_law_342 (by decide) ?_
  refine lv_iadd B.1 B.2.1 dL_law_343 ?_
  refine r_tI (y := nI (i + 1)) (nI_add _ _) ?_
  refine r_sld B hX hbl hL hC (j := i + 1) (by omega) dL_law_344 ?_
  refine lv_aload_n B.1 B.2.1 dL_law_345 rfl (lv_at hl 1 rfl) ?_
  refine lv_iload_n B.1 B.2.1 dL_law_346 rfl (lv_at hl 0 rfl) ?_
  refine lv_iconst (v := nI 2) B.1 B.2.1 dL_law_347 (by decide) ?_
  refine lv_iadd B.1 B.2.1 dL_law_348 ?_
  refine r_tI (y := nI (i + 2)) (nI_add _ _) ?_
  refine r_sld B hX hbl hL hC (j := i + 2) (by omega) dL_law_349 ?_
  refine r_calli B hC hl.1 (0) 8 rfl rfl (by decide) hx.1 (As := [.int (sc (i + 1)), .int (sc (i + 2))]) (ctX8_put l g s.heap.size ad hx ok) gL_law_X8_put rfl (n := 2) rfl (by decide +kernel) ⟨Nat.le_of_ble_eq_true rfl, Nat.le_of_ble_eq_true rfl⟩ ⟨Nat.le_of_ble_eq_true rfl, Nat.le_of_ble_eq_true rfl⟩ rfl (Nat.le_of_ble_eq_true rfl) dL_law_350 (fun r1 F1 H locs hp1 hC => ?_)
  obtain ⟨er1, hn1, hs1⟩ := hp1
  have hm1 := hm.low hs1
  refine lv_aload_n B.1 B.2.1 dL_law_353 rfl (lv_at hl 3 rfl) ?_
  refine lv_aload_n B.1 B.2.1 dL_law_354 rfl (lv_at hl 1 rfl) ?_
  refine lv_iload_n B.1 B.2.1 dL_law_355 rfl (lv_at hl 0 rfl) ?_
  refine lv_iconst (v := nI 1) B.1 B.2.1 dL_law_356 (by decide) ?_
  refine lv_iadd B.1 B.2.1 dL_law_357 ?_
  refine r_tI (y := nI (i + 1)) (nI_add _ _) ?_
  refine r_sld B hX hbl hL hC (j := i + 1) (by omega) dL_law_358 ?_
  refine lv_aload_n B.1 B.2.1 dL_law_359 rfl (lv_at hl 1 rfl) ?_
  refine lv_iload_n B.1 B.2.1 dL_law_360 rfl (lv_at hl 0 rfl) ?_
  refine lv_iconst (v := nI 2) B.1 B.2.1 dL_law_361 (by decide) ?_
  refine lv_iadd B.1 B.2.1 dL_law_362 ?_
  refine r_tI (y := nI (i + 2)) (nI_add _ _) ?_
  refine r_sld B hX hbl hL hC (j := i + 2) (by omega) dL_law_363 ?_
  obtain ⟨c1, q1, sm1, hM, hRR⟩ := id hm1
  refine r_calli B hC hl.1 (175) 9 rfl rfl (by decide) hM.1 (As := [.int (sc (i + 1)), .int (sc (i + 2))]) (ctX9_put l g s.heap.size ad hM hRR ok) gL_law_X9_put rfl (n := 2) rfl (by decide +kernel) ⟨Nat.le_of_ble_eq_true rfl, Nat.le_of_ble_eq_true rfl⟩ ⟨Nat.le_of_ble_eq_true rfl, Nat.le_of_ble_eq_true rfl⟩ rfl (Nat.le_of_ble_eq_true rfl) dL_law_364 (fun r2 F2 H locs hp2 hC => ?_)
  obtain ⟨er2, hn2, hs2⟩ := hp2
  have hx2 := hn1.low hs2
  refine lv_icmp_eq (tgt := 836) B.1 B.2.1 dL_law_367 (by decide) (fun _ => ?_) (fun z => absurd (er1.trans er2.symm) z)
  exact kk (intoN putB x (sc (i + 1)) (sc (i + 2))) _ H locs hx2 (xok_put ok (sc (i + 1)) (sc (i + 2))) hn2 hC
set_option maxHeartbeats 4000000 in
set_option maxRecDepth 100000 in
theorem lc_8 {p : Program} {l : Launch} {e : Env} {s : State} {m : MethodId} {below : List Frame} {meth : Method} {c : Code} {H : Heap} {locs : List Loc} {Q : State → Prop} {ls : Array Slot} {g : Gx} {b L i : Nat} {ad : Nat → Nat} {F : Nat → va_E} {sc : Nat → Int32} {x : XV} (B : Bx p s m meth c code 4 rtL RL wsL_law #[Value.ref b]) (hX : va_X b L sc s s.heap) (hbl : b < s.heap.size) (hL : L ≤ 2048) (hi : i + 4 ≤ L) (hC : Cu g s.heap.size 196 ad F s s.heap H locs) (hx : XC g ad F x) (ok : XOK x) (hm : MX g ad F x) (hl : lv_has ls 4 [(3, .int (nI i)), (0, .ref b), (1, .ref (ad (0))), (2, .ref (ad (175)))])
    (kk : ∀ (x' : XV) (F' : Nat → va_E) (H' : Heap) (locs' : List Loc), XC g ad F' x' → XOK x' → MX g ad F' x' → Cu g s.heap.size 196 ad F' s s.heap H' locs' → W p l e room_1 s m #[Value.ref b] below meth c H' locs' 196 3012 Q (F0 m 836 ls [])) : W p l e room_1 s m #[Value.ref b] below meth c H locs 196 3012 Q (F0 m 372 ls []) := by
  refine lv_aload_n B.1 B.2.1 dL_law_372 rfl (lv_at hl 2 rfl) ?_
  refine lv_aload_n B.1 B.2.1 dL_law_373 rfl (lv_at hl 1 rfl) ?_
  refine lv_iload_n B.1 B.2.1 dL_law_374 rfl (lv_at hl 0 rfl) ?_
  refine lv_iconst (v := nI 1) B.1 B.2.1 dL_law_375 (by decide) ?_
  refine lv_iadd B.1 B.2.1 dL_law_376 ?_
  refine r_tI (y := nI (i + 1)) (nI_add _ _) ?_
  refine r_sld B hX hbl hL hC (j := i + 1) (by omega) dL_law_377 ?_
  refine lv_aload_n B.1 B.2.1 dL_law_378 rfl (lv_at hl 1 rfl) ?_
  refine lv_iload_n B.1 B.2.1 dL_law_379 rfl (lv_at hl 0 rfl) ?_
  refine lv_iconst (v := nI 2) B.1 B.2.1 dL_law_380 (by decide) ?_
  refine lv_iadd B.1 B.2.1 dL_law_381 ?_
  refine r_tI (y := nI (i + 2)) (nI_add _ _) ?_
  refine r_sld B hX hbl hL hC (j := i + 2) (by omega) dL_law_382 ?_
  refine r_calli B hC hl.1 (0) 8 rfl rfl (by decide) hx.1 (As := [.int (sc (i + 1)), .int (sc (i + 2))]) (ctX8_move l g s.heap.size ad hx ok) gL_law_X8_move rfl (n := 2) rfl (by decide +kernel) ⟨Nat.le_of_ble_eq_true rfl, Nat.le_of_ble_eq_true rfl⟩ ⟨Nat.le_of_ble_eq_true rfl, Nat.le_of_ble_eq_true rfl⟩ rfl (Nat.le_of_ble_eq_true rfl) dL_law_383 (fun r1 F1 H locs hp1 hC => ?_)
  obtain ⟨er1, hn1, hs1⟩ := hp1
  have hm1 := hm.low hs1
  refine lv_aload_n B.1 B.2.1 dL_law_386 rfl (lv_at hl 3 rfl) ?_
  refine lv_aload_n B.1 B.2.1 dL_law_387 rfl (lv_at hl 1 rfl) ?_
  refine lv_iload_n B.1 B.2.1 dL_law_388 rfl (lv_at hl 0 rfl) ?_
  refine lv_iconst (v := nI 1) B.1 B.2.1 dL_law_389 (by decide) ?_
  refine lv_iadd B.1 B.2.1 dL_law_390 ?_
  refine r_tI (y := nI (i + 1)) (nI_add _ _) ?_
  refine r_sld B hX hbl hL hC (j := i + 1) (by omega) dL_law_391 ?_
  refine lv_aload_n B.1 B.2.1 dL_law_392 rfl (lv_at hl 1 rfl) ?_
  refine lv_iload_n B.1 B.2.1 dL_law_393 rfl (lv_at hl 0 rfl) ?_
  refine lv_iconst (v := nI 2) B.1 B.2.1 dL_law_394 (by decide) ?_
  refine lv_iadd B.1 B.2.1 dL_law_395 ?_
  refine r_tI (y := nI (i + 2)) (nI_add _ _) ?_
  refine r_sld B hX hbl hL hC (j := i + 2) (by omega) dL_law_396 ?_
  obtain ⟨c1, q1, sm1, hM, hRR⟩ := id hm1
  refine r_calli B hC hl.1 (175) 9 rfl rfl (by decide) hM.1 (As := [.int (sc (i + 1)), .int (sc (i + 2))]) (ctX9_move l g s.heap.size ad hM hRR ok) gL_law_X9_move rfl (n := 2) rfl (by decide +kernel) ⟨Nat.le_of_ble_eq_true rfl, Nat.le_of_ble_eq_true rfl⟩ ⟨Nat.le_of_ble_eq_true rfl, Nat.le_of_ble_eq_true rfl⟩ rfl (Nat.le_of_ble_eq_true rfl) dL_law_397 (fun r2 F2 H locs hp2 hC => ?_)
  obtain ⟨er2, hn2, hs2⟩ := hp2
  have hx2 := hn1.low hs2
  refine lv_icmp_eq (tgt := 836) B.1 B.2.1 dL_law_400 (by decide) (fun _ => ?_) (fun z => absurd (er1.trans er2.symm) z)
  exact kk (intoN moveB x (sc (i + 1)) (sc (i + 2))) _ H locs hx2 (xok_move ok (sc (i + 1)) (sc (i + 2))) hn2 hC
set_option maxHeartbeats 4000000 in
set_option maxRecDepth 100000 in
theorem lc_9 {p : Program} {l : Launch} {e : Env} {s : State} {m : MethodId} {below : List Frame} {meth : Method} {c : Code} {H : Heap} {locs : List Loc} {Q : State → Prop} {ls : Array Slot} {g : Gx} {b L i : Nat} {ad : Nat → Nat} {F : Nat → va_E} {sc : Nat → Int32} {x : XV} (B : Bx p s m meth c code 4 rtL RL wsL_law #[Value.ref b]) (hX : va_X b L sc s s.heap) (hbl : b < s.heap.size) (hL : L ≤ 2048) (hi : i + 4 ≤ L) (hC : Cu g s.heap.size 196 ad F s s.heap H locs) (hx : XC g ad F x) (ok : XOK x) (hm : MX g ad F x) (hl : lv_has ls 4 [(3, .int (nI i)), (0, .ref b), (1, .ref (ad (0))), (2, .ref (ad (175)))])
    (kk : ∀ (x' : XV) (F' : Nat → va_E) (H' : Heap) (locs' : List Loc), XC g ad F' x' → XOK x' → MX g ad F' x' → Cu g s.heap.size 196 ad F' s s.heap H' locs' → W p l e room_1 s m #[Value.ref b] below meth c H' locs' 196 3012 Q (F0 m 836 ls [])) : W p l e room_1 s m #[Value.ref b] below meth c H locs 196 3012 Q (F0 m 405 ls []) := by
  refine lv_aload_n B.1 B.2.1 dL_law_405 rfl (lv_at hl 2 rfl) ?_
  refine r_calli B hC hl.1 (0) 8 rfl rfl (by decide) hx.1 (As := []) (ctX8_watch l g s.heap.size ad hx ok) gL_law_X8_watch rfl (n := 0) rfl (by decide +kernel) ⟨Nat.le_of_ble_eq_true rfl, Nat.le_of_ble_eq_true rfl⟩ ⟨Nat.le_of_ble_eq_true rfl, Nat.le_of_ble_eq_true rfl⟩ rfl (Nat.le_of_ble_eq_true rfl) dL_law_406 (fun r1 F1 H locs hp1 hC => ?_)
  obtain ⟨er1, hn1, hs1⟩ := hp1
  have hm1 := hm.low hs1
  refine lv_aload_n B.1 B.2.1 dL_law_409 rfl (lv_at hl 3 rfl) ?_
  obtain ⟨c1, q1, sm1, hM, hRR⟩ := id hm1
  refine r_calli B hC hl.1 (175) 9 rfl rfl (by decide) hM.1 (As := []) (ctX9_watch l g s.heap.size ad hM hRR ok) gL_law_X9_watch rfl (n := 0) rfl (by decide +kernel) ⟨Nat.le_of_ble_eq_true rfl, Nat.le_of_ble_eq_true rfl⟩ ⟨Nat.le_of_ble_eq_true rfl, Nat.le_of_ble_eq_true rfl⟩ rfl (Nat.le_of_ble_eq_true rfl) dL_law_410 (fun r2 F2 H locs hp2 hC => ?_)
  obtain ⟨er2, hn2, hs2⟩ := hp2
  have hx2 := hn1.low hs2
  refine lv_icmp_eq (tgt := 836) B.1 B.2.1 dL_law_413 (by decide) (fun _ => ?_) (fun z => absurd (er1.trans er2.symm) z)
  exact kk (watchN x) _ H locs hx2 (xok_watch ok) hn2 hC
set_option maxHeartbeats 4000000 in
set_option maxRecDepth 100000 in
theorem lc_10 {p : Program} {l : Launch} {e : Env} {s : State} {m : MethodId} {below : List Frame} {meth : Method} {c : Code} {H : Heap} {locs : List Loc} {Q : State → Prop} {ls : Array Slot} {g : Gx} {b L i : Nat} {ad : Nat → Nat} {F : Nat → va_E} {sc : Nat → Int32} {x : XV} (B : Bx p s m meth c code 4 rtL RL wsL_law #[Value.ref b]) (hX : va_X b L sc s s.heap) (hbl : b < s.heap.size) (hL : L ≤ 2048) (hi : i + 4 ≤ L) (hC : Cu g s.heap.size 196 ad F s s.heap H locs) (hx : XC g ad F x) (ok : XOK x) (hm : MX g ad F x) (hl : lv_has ls 4 [(3, .int (nI i)), (0, .ref b), (1, .ref (ad (0))), (2, .ref (ad (175)))])
    (kk : ∀ (x' : XV) (F' : Nat → va_E) (H' : Heap) (locs' : List Loc), XC g ad F' x' → XOK x' → MX g ad F' x' → Cu g s.heap.size 196 ad F' s s.heap H' locs' → W p l e room_1 s m #[Value.ref b] below meth c H' locs' 196 3012 Q (F0 m 836 ls [])) : W p l e room_1 s m #[Value.ref b] below meth c H locs 196 3012 Q (F0 m 418 ls []) := by
  refine lv_aload_n B.1 B.2.1 dL_law_418 rfl (lv_at hl 2 rfl) ?_
  refine r_calli B hC hl.1 (0) 8 rfl rfl (by decide) hx.1 (As := []) (ctX8_back l g s.heap.size ad hx ok) gL_law_X8_back rfl (n := 0) rfl (by decide +kernel) ⟨Nat.le_of_ble_eq_true rfl, Nat.le_of_ble_eq_true rfl⟩ ⟨Nat.le_of_ble_eq_true rfl, Nat.le_of_ble_eq_true rfl⟩ rfl (Nat.le_of_ble_eq_true rfl) dL_law_419 (fun r1 F1 H locs hp1 hC => ?_)
  obtain ⟨er1, hn1, hs1⟩ := hp1
  have hm1 := hm.low hs1
  refine lv_aload_n B.1 B.2.1 dL_law_422 rfl (lv_at hl 3 rfl) ?_
  obtain ⟨c1, q1, sm1, hM, hRR⟩ := id hm1
  refine r_calli B hC hl.1 (175) 9 rfl rfl (by decide) hM.1 (As := []) (ctX9_back l g s.heap.size ad hM hRR ok) gL_law_X9_back rfl (n := 0) rfl (by decide +kernel) ⟨Nat.le_of_ble_eq_true rfl, Nat.le_of_ble_eq_true rfl⟩ ⟨Nat.le_of_ble_eq_true rfl, Nat.le_of_ble_eq_true rfl⟩ rfl (Nat.le_of_ble_eq_true rfl) dL_law_423 (fun r2 F2 H locs hp2 hC => ?_)
  obtain ⟨er2, hn2, hs2⟩ := hp2
  have hx2 := hn1.low hs2
  refine lv_icmp_eq (tgt := 836) B.1 B.2.1 dL_law_426 (by decide) (fun _ => ?_) (fun z => absurd (er1.trans er2.symm) z)
  exact kk (backN x) _ H locs hx2 (xok_back ok) hn2 hC
set_option maxHeartbeats 4000000 in
set_option maxRecDepth 100000 in
theorem lc_11 {p : Program} {l : Launch} {e : Env} {s : State} {m : MethodId} {below : List Frame} {meth : Method} {c : Code} {H : Heap} {locs : List Loc} {Q : State → Prop} {ls : Array Slot} {g : Gx} {b L i : Nat} {ad : Nat → Nat} {F : Nat → va_E} {sc : Nat → Int32} {x : XV} (B : Bx p s m meth c code 4 rtL RL wsL_law #[Value.ref b]) (hX : va_X b L sc s s.heap) (hbl : b < s.heap.size) (hL : L ≤ 2048) (hi : i + 4 ≤ L) (hC : Cu g s.heap.size 196 ad F s s.heap H locs) (hx : XC g ad F x) (ok : XOK x) (hm : MX g ad F x) (hl : lv_has ls 4 [(3, .int (nI i)), (0, .ref b), (1, .ref (ad (0))), (2, .ref (ad (175)))])
    (kk : ∀ (x' : XV) (F' : Nat → va_E) (H' : Heap) (locs' : List Loc), XC g ad F' x' → XOK x' → MX g ad F' x' → Cu g s.heap.size 196 ad F' s s.heap H' locs' → W p l e room_1 s m #[Value.ref b] below meth c H' locs' 196 3012 Q (F0 m 836 ls [])) : W p l e room_1 s m #[Value.ref b] below meth c H locs 196 3012 Q (F0 m 431 ls []) := by
  refine lv_aload_n B.1 B.2.1 dL_law_431 rfl (lv_at hl 2 rfl) ?_
  refine r_calli B hC hl.1 (0) 8 rfl rfl (by decide) hx.1 (As := []) (ctX8_leak l g s.heap.size ad hx ok) gL_law_X8_leak rfl (n := 0) rfl (by decide +kernel) ⟨Nat.le_of_ble_eq_true rfl, Nat.le_of_ble_eq_true rfl⟩ ⟨Nat.le_of_ble_eq_true rfl, Nat.le_of_ble_eq_true rfl⟩ rfl (Nat.le_of_ble_eq_true rfl) dL_law_432 (fun r1 F1 H locs hp1 hC => ?_)
  obtain ⟨er1, eF1⟩ := hp1
  rw [eF1] at hC
  refine lv_aload_n B.1 B.2.1 dL_law_435 rfl (lv_at hl 3 rfl) ?_
  obtain ⟨c1, q1, sm1, hM, hRR⟩ := id hm
  refine r_calli B hC hl.1 (175) 9 rfl rfl (by decide) hM.1 (As := []) (ctX9_leak l g s.heap.size ad hM hRR ok) gL_law_X9_leak rfl (n := 0) rfl (by decide +kernel) ⟨Nat.le_of_ble_eq_true rfl, Nat.le_of_ble_eq_true rfl⟩ ⟨Nat.le_of_ble_eq_true rfl, Nat.le_of_ble_eq_true rfl⟩ rfl (Nat.le_of_ble_eq_true rfl) dL_law_436 (fun r2 F2 H locs hp2 hC => ?_)
  obtain ⟨er2, eF2⟩ := hp2
  rw [eF2] at hC
  refine lv_icmp_eq (tgt := 836) B.1 B.2.1 dL_law_439 (by decide) (fun _ => ?_) (fun z => absurd (er1.trans er2.symm) z)
  exact kk (x) _ H locs hx (ok) hm hC
set_option maxHeartbeats 4000000 in
set_option maxRecDepth 100000 in
theorem lc_12 {p : Program} {l : Launch} {e : Env} {s : State} {m : MethodId} {below : List Frame} {meth : Method} {c : Code} {H : Heap} {locs : List Loc} {Q : State → Prop} {ls : Array Slot} {g : Gx} {b L i : Nat} {ad : Nat → Nat} {F : Nat → va_E} {sc : Nat → Int32} {x : XV} (B : Bx p s m meth c code 4 rtL RL wsL_law #[Value.ref b]) (hX : va_X b L sc s s.heap) (hbl : b < s.heap.size) (hL : L ≤ 2048) (hi : i + 4 ≤ L) (hC : Cu g s.heap.size 196 ad F s s.heap H locs) (hx : XC g ad F x) (ok : XOK x) (hm : MX g ad F x) (hl : lv_has ls 4 [(3, .int (nI i)), (0, .ref b), (1, .ref (ad (0))), (2, .ref (ad (175)))])
    (kk : ∀ (x' : XV) (F' : Nat → va_E) (H' : Heap) (locs' : List Loc), XC g ad F' x' → XOK x' → MX g ad F' x' → Cu g s.heap.size 196 ad F' s s.heap H' locs' → W p l e room_1 s m #[Value.ref b] below meth c H' locs' 196 3012 Q (F0 m 836 ls [])) : W p l e room_1 s m #[Value.ref b] below meth c H locs 196 3012 Q (F0 m 444 ls []) := by
  refine lv_aload_n B.1 B.2.1 dL_law_444 rfl (lv_at hl 2 rfl) ?_
  refine r_calli B hC hl.1 (0) 8 rfl rfl (by decide) hx.1 (As := []) (ctX8_floats l g s.heap.size ad hx ok) gL_law_X8_floats rfl (n := 0) rfl (by decide +kernel) ⟨Nat.le_of_ble_eq_true rfl, Nat.le_of_ble_eq_true rfl⟩ ⟨Nat.le_of_ble_eq_true rfl, Nat.le_of_ble_eq_true rfl⟩ rfl (Nat.le_of_ble_eq_true rfl) dL_law_445 (fun r1 F1 H locs hp1 hC => ?_)
  obtain ⟨er1, hn1, hs1⟩ := hp1
  have hm1 := hm.low hs1
  refine lv_aload_n B.1 B.2.1 dL_law_448 rfl (lv_at hl 3 rfl) ?_
  obtain ⟨c1, q1, sm1, hM, hRR⟩ := id hm1
  refine r_calli B hC hl.1 (175) 9 rfl rfl (by decide) hM.1 (As := []) (ctX9_floats l g s.heap.size ad hM hRR ok) gL_law_X9_floats rfl (n := 0) rfl (by decide +kernel) ⟨Nat.le_of_ble_eq_true rfl, Nat.le_of_ble_eq_true rfl⟩ ⟨Nat.le_of_ble_eq_true rfl, Nat.le_of_ble_eq_true rfl⟩ rfl (Nat.le_of_ble_eq_true rfl) dL_law_449 (fun r2 F2 H locs hp2 hC => ?_)
  obtain ⟨er2, hn2, hs2⟩ := hp2
  have hx2 := hn1.low hs2
  refine lv_icmp_eq (tgt := 836) B.1 B.2.1 dL_law_452 (by decide) (fun _ => ?_) (fun z => absurd (er1.trans er2.symm) z)
  exact kk (x) _ H locs hx2 (ok) hn2 hC
