/-! the JDK's own: floorMod by 24, bitCount and numberOfTrailingZeros of ten bits -/
theorem nI_xor (a b : Nat) : nI a ^^^ nI b = nI (a ^^^ b) := by
  apply Int32.toBitVec_inj.mp
  rw [Int32.toBitVec_xor]
  show BitVec.ofNat 32 a ^^^ BitVec.ofNat 32 b = BitVec.ofNat 32 (a ^^^ b)
  exact (BitVec.ofNat_xor ..).symm
def ush (x : Int32) (k : Nat) : Int32 := (x.toUInt32 >>> ((nI k).toUInt32 &&& Int32.toUInt32 31)).toInt32
def bc1 (x : Int32) : Int32 := x - (ush x 1 &&& nI 1431655765)
def bc2 (x : Int32) : Int32 := (bc1 x &&& nI 858993459) + (ush (bc1 x) 2 &&& nI 858993459)
def bc3 (x : Int32) : Int32 := (bc2 x + ush (bc2 x) 4) &&& nI 252645135
def bc4 (x : Int32) : Int32 := bc3 x + ush (bc3 x) 8
def bc5 (x : Int32) : Int32 := bc4 x + ush (bc4 x) 16
def popTo (v : Nat) : Nat → Nat
  | 0 => 0
  | k + 1 => popTo v k + (if v.testBit k = true then 1 else 0)
theorem bc_ok : ∀ v, v < 1024 → bc5 (nI v) &&& nI 63 = nI (popTo v 10) := by decide +kernel
set_option maxHeartbeats 4000000 in
set_option maxRecDepth 100000 in
theorem ctJ9_floorMod (l : Launch) (g : Gx) (lo : Nat) (ad : Nat → Nat) {F : Nat → va_E} {a : Nat} (ha : a < 1000) : MI l g lo 196 ad yJ9_floorMod_7cf53 wsJ9_floorMod_7cf53 0 0 [.int (nI a), .int (nI 24)] F (fun r F' => r = nI (a % 24) ∧ F' = F) := by
  refine enter (cc := cJ9_floorMod_7cf53) (maxL := 3) (ret := some .int) (own := RJ9) (by decide +kernel) rfl rfl (Nat.le_of_ble_eq_true rfl) ?_
  intro pp ee ss mm below meth cc B hini hC ls hl
  have hl : lv_has ls 3 [(0, .int (nI a)), (1, .int (nI 24))] := hl
  refine lv_iload_n B.1 B.2.1 dJ9_floorMod_7cf53_0 rfl (lv_at hl 0 rfl) ?_
  refine lv_iload_n B.1 B.2.1 dJ9_floorMod_7cf53_1 rfl (lv_at hl 1 rfl) ?_
  refine lv_irem B.1 B.2.1 dJ9_floorMod_7cf53_2 (by decide) ?_
  refine r_tI (y := nI (a % 24)) (pk_rem (by omega) (by omega) (by omega)) ?_
  refine lv_istore_n (lv' := [(2, .int (nI (a % 24))), (0, .int (nI a)), (1, .int (nI 24))]) B.1 B.2.1 dJ9_floorMod_7cf53_3 rfl hl (by decide) rfl (fun ls hl => ?_)
  refine lv_iload_n B.1 B.2.1 dJ9_floorMod_7cf53_4 rfl (lv_at hl 1 rfl) ?_
  refine lv_iload_n B.1 B.2.1 dJ9_floorMod_7cf53_5 rfl (lv_at hl 2 rfl) ?_
  refine lv_ixor B.1 B.2.1 dJ9_floorMod_7cf53_6 ?_
  refine r_tI (y := nI (a ^^^ 24)) (nI_xor _ _) ?_
  refine lv_if_ge (tgt := 18) B.1 B.2.1 dJ9_floorMod_7cf53_7 (by decide) (fun _ => ?_) (fun z => absurd (nI_pos' (Nat.lt_trans (Nat.xor_lt_two_pow (n := 10) (by omega) (by decide)) (by decide))) z)
  refine lv_iload_n B.1 B.2.1 dJ9_floorMod_7cf53_18 rfl (lv_at hl 0 rfl) ?_
  exact r_eI B hC (v := nI (a % 24)) (⟨rfl, rfl⟩) dJ9_floorMod_7cf53_19
set_option maxHeartbeats 4000000 in
set_option maxRecDepth 100000 in
theorem ctJ6_bitCount (l : Launch) (g : Gx) (lo : Nat) (ad : Nat → Nat) {F : Nat → va_E} {v : Nat} (hv : v < 1024) : MI l g lo 196 ad yJ6_bitCount_0f7a4 wsJ6_bitCount_0f7a4 0 0 [.int (nI v)] F (fun r F' => r = nI (popTo v 10) ∧ F' = F) := by
  refine enter (cc := cJ6_bitCount_0f7a4) (maxL := 1) (ret := some .int) (own := RJ6) (by decide +kernel) rfl rfl (Nat.le_of_ble_eq_true rfl) ?_
  intro pp ee ss mm below meth cc B hini hC ls hl
  have hl : lv_has ls 1 [(0, .int (nI v))] := hl
  refine lv_iload_n B.1 B.2.1 dJ6_bitCount_0f7a4_0 rfl (lv_at hl 0 rfl) ?_
  refine lv_iload_n B.1 B.2.1 dJ6_bitCount_0f7a4_1 rfl (lv_at hl 0 rfl) ?_
  refine lv_iconst (v := nI 1) B.1 B.2.1 dJ6_bitCount_0f7a4_2 (by decide) ?_
  refine lv_iushr (v := ush (nI v) 1) B.1 B.2.1 dJ6_bitCount_0f7a4_3 (rfl) ?_
  refine lv_ldcw (own := RJ6) (v := nI 1431655765) B.1 B.2.1 B.2.2.2.1 (B.2.2.2.2.1 (.constant RJ6 265 (1431655765)) (by decide +kernel)) dJ6_bitCount_0f7a4_4 ?_
  refine lv_iand B.1 B.2.1 dJ6_bitCount_0f7a4_7 ?_
  refine r_tI (y := (ush (nI v) 1) &&& (nI 1431655765)) (rfl) ?_
  refine lv_isub B.1 B.2.1 dJ6_bitCount_0f7a4_8 ?_
  refine r_tI (y := bc1 (nI v)) (rfl) ?_
  refine lv_istore_n (lv' := [(0, .int (bc1 (nI v)))]) B.1 B.2.1 dJ6_bitCount_0f7a4_9 rfl hl (by decide) rfl (fun ls hl => ?_)
  refine lv_iload_n B.1 B.2.1 dJ6_bitCount_0f7a4_10 rfl (lv_at hl 0 rfl) ?_
  refine lv_ldcw (own := RJ6) (v := nI 858993459) B.1 B.2.1 B.2.2.2.1 (B.2.2.2.2.1 (.constant RJ6 266 (858993459)) (by decide +kernel)) dJ6_bitCount_0f7a4_11 ?_
  refine lv_iand B.1 B.2.1 dJ6_bitCount_0f7a4_14 ?_
  refine r_tI (y := (bc1 (nI v)) &&& (nI 858993459)) (rfl) ?_
  refine lv_iload_n B.1 B.2.1 dJ6_bitCount_0f7a4_15 rfl (lv_at hl 0 rfl) ?_
  refine lv_iconst (v := nI 2) B.1 B.2.1 dJ6_bitCount_0f7a4_16 (by decide) ?_
  refine lv_iushr (v := ush (bc1 (nI v)) 2) B.1 B.2.1 dJ6_bitCount_0f7a4_17 (rfl) ?_
  refine lv_ldcw (own := RJ6) (v := nI 858993459) B.1 B.2.1 B.2.2.2.1 (B.2.2.2.2.1 (.constant RJ6 266 (858993459)) (by decide +kernel)) dJ6_bitCount_0f7a4_18 ?_
  refine lv_iand B.1 B.2.1 dJ6_bitCount_0f7a4_21 ?_
  refine r_tI (y := (ush (bc1 (nI v)) 2) &&& (nI 858993459)) (rfl) ?_
  refine lv_iadd B.1 B.2.1 dJ6_bitCount_0f7a4_22 ?_
  refine r_tI (y := bc2 (nI v)) (rfl) ?_
  refine lv_istore_n (lv' := [(0, .int (bc2 (nI v)))]) B.1 B.2.1 dJ6_bitCount_0f7a4_23 rfl hl (by decide) rfl (fun ls hl => ?_)
  refine lv_iload_n B.1 B.2.1 dJ6_bitCount_0f7a4_24 rfl (lv_at hl 0 rfl) ?_
  refine lv_iload_n B.1 B.2.1 dJ6_bitCount_0f7a4_25 rfl (lv_at hl 0 rfl) ?_
  refine lv_iconst (v := nI 4) B.1 B.2.1 dJ6_bitCount_0f7a4_26 (by decide) ?_
  refine lv_iushr (v := ush (bc2 (nI v)) 4) B.1 B.2.1 dJ6_bitCount_0f7a4_27 (rfl) ?_
  refine lv_iadd B.1 B.2.1 dJ6_bitCount_0f7a4_28 ?_
  refine r_tI (y := (bc2 (nI v)) + (ush (bc2 (nI v)) 4)) (rfl) ?_
  refine lv_ldcw (own := RJ6) (v := nI 252645135) B.1 B.2.1 B.2.2.2.1 (B.2.2.2.2.1 (.constant RJ6 267 (252645135)) (by decide +kernel)) dJ6_bitCount_0f7a4_29 ?_
  refine lv_iand B.1 B.2.1 dJ6_bitCount_0f7a4_32 ?_
  refine r_tI (y := bc3 (nI v)) (rfl) ?_
  refine lv_istore_n (lv' := [(0, .int (bc3 (nI v)))]) B.1 B.2.1 dJ6_bitCount_0f7a4_33 rfl hl (by decide) rfl (fun ls hl => ?_)
  refine lv_iload_n B.1 B.2.1 dJ6_bitCount_0f7a4_34 rfl (lv_at hl 0 rfl) ?_
  refine lv_iload_n B.1 B.2.1 dJ6_bitCount_0f7a4_35 rfl (lv_at hl 0 rfl) ?_
  refine lv_bipush (v := nI 8) B.1 B.2.1 dJ6_bitCount_0f7a4_36 (by decide) ?_
  refine lv_iushr (v := ush (bc3 (nI v)) 8) B.1 B.2.1 dJ6_bitCount_0f7a4_38 (rfl) ?_
  refine lv_iadd B.1 B.2.1 dJ6_bitCount_0f7a4_39 ?_
  refine r_tI (y := bc4 (nI v)) (rfl) ?_
  refine lv_istore_n (lv' := [(0, .int (bc4 (nI v)))]) B.1 B.2.1 dJ6_bitCount_0f7a4_40 rfl hl (by decide) rfl (fun ls hl => ?_)
  refine lv_iload_n B.1 B.2.1 dJ6_bitCount_0f7a4_41 rfl (lv_at hl 0 rfl) ?_
  refine lv_iload_n B.1 B.2.1 dJ6_bitCount_0f7a4_42 rfl (lv_at hl 0 rfl) ?_
  refine lv_bipush (v := nI 16) B.1 B.2.1 dJ6_bitCount_0f7a4_43 (by decide) ?_
  refine lv_iushr (v := ush (bc4 (nI v)) 16) B.1 B.2.1 dJ6_bitCount_0f7a4_45 (rfl) ?_
  refine lv_iadd B.1 B.2.1 dJ6_bitCount_0f7a4_46 ?_
  refine r_tI (y := bc5 (nI v)) (rfl) ?_
  refine lv_istore_n (lv' := [(0, .int (bc5 (nI v)))]) B.1 B.2.1 dJ6_bitCount_0f7a4_47 rfl hl (by decide) rfl (fun ls hl => ?_)
  refine lv_iload_n B.1 B.2.1 dJ6_bitCount_0f7a4_48 rfl (lv_at hl 0 rfl) ?_
  refine lv_bipush (v := nI 63) B.1 B.2.1 dJ6_bitCount_0f7a4_49 (by decide) ?_
  refine lv_iand B.1 B.2.1 dJ6_bitCount_0f7a4_51 ?_
  refine r_tI (y := nI (popTo v 10)) (bc_ok v hv) ?_
  exact r_eI B hC (v := nI (popTo v 10)) (⟨rfl, rfl⟩) dJ6_bitCount_0f7a4_52
set_option maxHeartbeats 4000000 in
set_option maxRecDepth 100000 in
theorem ctJ6_ntz0 (l : Launch) (g : Gx) (lo : Nat) (ad : Nat → Nat) {F : Nat → va_E} : MI l g lo 196 ad yJ6_numberOfTrailingZeros_0f7a4 wsJ6_numberOfTrailingZeros_0f7a4 0 0 [.int (nI 1)] F (fun r F' => r = nI 0 ∧ F' = F) := by
  refine enter (cc := cJ6_numberOfTrailingZeros_0f7a4) (maxL := 2) (ret := some .int) (own := RJ6) (by decide +kernel) rfl rfl (Nat.le_of_ble_eq_true rfl) ?_
  intro pp ee ss mm below meth cc B hini hC ls hl
  have hl : lv_has ls 2 [(0, .int (nI 1))] := hl
  refine lv_iload_n B.1 B.2.1 dJ6_numberOfTrailingZeros_0f7a4_0 rfl (lv_at hl 0 rfl) ?_
  refine lv_iconst (v := (-1)) B.1 B.2.1 dJ6_numberOfTrailingZeros_0f7a4_1 (by decide) ?_
  refine lv_ixor B.1 B.2.1 dJ6_numberOfTrailingZeros_0f7a4_2 ?_
  refine r_tI (y := (-2)) (by decide) ?_
  refine lv_iload_n B.1 B.2.1 dJ6_numberOfTrailingZeros_0f7a4_3 rfl (lv_at hl 0 rfl) ?_
  refine lv_iconst (v := nI 1) B.1 B.2.1 dJ6_numberOfTrailingZeros_0f7a4_4 (by decide) ?_
  refine lv_isub B.1 B.2.1 dJ6_numberOfTrailingZeros_0f7a4_5 ?_
  refine r_tI (y := nI 0) (by decide) ?_
  refine lv_iand B.1 B.2.1 dJ6_numberOfTrailingZeros_0f7a4_6 ?_
  refine r_tI (y := nI 0) (by decide) ?_
  refine lv_istore_n (lv' := [(0, .int (nI 0))]) B.1 B.2.1 dJ6_numberOfTrailingZeros_0f7a4_7 rfl hl (by decide) rfl (fun ls hl => ?_)
  refine lv_iload_n B.1 B.2.1 dJ6_numberOfTrailingZeros_0f7a4_8 rfl (lv_at hl 0 rfl) ?_
  refine lv_if_gt (tgt := 17) B.1 B.2.1 dJ6_numberOfTrailingZeros_0f7a4_9 (by decide) (fun z => absurd z (by decide)) (fun _ => ?_)
  refine lv_iload_n B.1 B.2.1 dJ6_numberOfTrailingZeros_0f7a4_12 rfl (lv_at hl 0 rfl) ?_
  refine lv_bipush (v := nI 32) B.1 B.2.1 dJ6_numberOfTrailingZeros_0f7a4_13 (by decide) ?_
  refine lv_iand B.1 B.2.1 dJ6_numberOfTrailingZeros_0f7a4_15 ?_
  refine r_tI (y := nI 0) (by decide) ?_
  exact r_eI B hC (v := nI 0) (⟨rfl, rfl⟩) dJ6_numberOfTrailingZeros_0f7a4_16
set_option maxHeartbeats 4000000 in
set_option maxRecDepth 100000 in
theorem ctJ6_ntz1 (l : Launch) (g : Gx) (lo : Nat) (ad : Nat → Nat) {F : Nat → va_E} : MI l g lo 196 ad yJ6_numberOfTrailingZeros_0f7a4 wsJ6_numberOfTrailingZeros_0f7a4 0 0 [.int (nI 2)] F (fun r F' => r = nI 1 ∧ F' = F) := by
  refine enter (cc := cJ6_numberOfTrailingZeros_0f7a4) (maxL := 2) (ret := some .int) (own := RJ6) (by decide +kernel) rfl rfl (Nat.le_of_ble_eq_true rfl) ?_
  intro pp ee ss mm below meth cc B hini hC ls hl
  have hl : lv_has ls 2 [(0, .int (nI 2))] := hl
  refine lv_iload_n B.1 B.2.1 dJ6_numberOfTrailingZeros_0f7a4_0 rfl (lv_at hl 0 rfl) ?_
  refine lv_iconst (v := (-1)) B.1 B.2.1 dJ6_numberOfTrailingZeros_0f7a4_1 (by decide) ?_
  refine lv_ixor B.1 B.2.1 dJ6_numberOfTrailingZeros_0f7a4_2 ?_
  refine r_tI (y := (-3)) (by decide) ?_
  refine lv_iload_n B.1 B.2.1 dJ6_numberOfTrailingZeros_0f7a4_3 rfl (lv_at hl 0 rfl) ?_
  refine lv_iconst (v := nI 1) B.1 B.2.1 dJ6_numberOfTrailingZeros_0f7a4_4 (by decide) ?_
  refine lv_isub B.1 B.2.1 dJ6_numberOfTrailingZeros_0f7a4_5 ?_
  refine r_tI (y := nI 1) (by decide) ?_
  refine lv_iand B.1 B.2.1 dJ6_numberOfTrailingZeros_0f7a4_6 ?_
  refine r_tI (y := nI 1) (by decide) ?_
  refine lv_istore_n (lv' := [(0, .int (nI 1))]) B.1 B.2.1 dJ6_numberOfTrailingZeros_0f7a4_7 rfl hl (by decide) rfl (fun ls hl => ?_)
  refine lv_iload_n B.1 B.2.1 dJ6_numberOfTrailingZeros_0f7a4_8 rfl (lv_at hl 0 rfl) ?_
  refine lv_if_gt (tgt := 17) B.1 B.2.1 dJ6_numberOfTrailingZeros_0f7a4_9 (by decide) (fun _ => ?_) (fun z => absurd (by decide) z)
  refine lv_iconst (v := nI 1) B.1 B.2.1 dJ6_numberOfTrailingZeros_0f7a4_17 (by decide) ?_
  refine lv_istore_n (lv' := [(1, .int (nI 1)), (0, .int (nI 1))]) B.1 B.2.1 dJ6_numberOfTrailingZeros_0f7a4_18 rfl hl (by decide) rfl (fun ls hl => ?_)
  refine lv_iload_n B.1 B.2.1 dJ6_numberOfTrailingZeros_0f7a4_19 rfl (lv_at hl 1 rfl) ?_
  refine lv_ldcw (own := RJ6) (v := nI 65536) B.1 B.2.1 B.2.2.2.1 (B.2.2.2.2.1 (.constant RJ6 264 (65536)) (by decide +kernel)) dJ6_numberOfTrailingZeros_0f7a4_20 ?_
  refine lv_icmp_le (tgt := 34) B.1 B.2.1 dJ6_numberOfTrailingZeros_0f7a4_23 (by decide) (fun _ => ?_) (fun z => absurd (by decide) z)
  refine lv_iload_n B.1 B.2.1 dJ6_numberOfTrailingZeros_0f7a4_34 rfl (lv_at hl 1 rfl) ?_
  refine lv_sipush (v := nI 256) B.1 B.2.1 dJ6_numberOfTrailingZeros_0f7a4_35 (by decide) ?_
  refine lv_icmp_le (tgt := 49) B.1 B.2.1 dJ6_numberOfTrailingZeros_0f7a4_38 (by decide) (fun _ => ?_) (fun z => absurd (by decide) z)
  refine lv_iload_n B.1 B.2.1 dJ6_numberOfTrailingZeros_0f7a4_49 rfl (lv_at hl 1 rfl) ?_
  refine lv_bipush (v := nI 16) B.1 B.2.1 dJ6_numberOfTrailingZeros_0f7a4_50 (by decide) ?_
  refine lv_icmp_le (tgt := 62) B.1 B.2.1 dJ6_numberOfTrailingZeros_0f7a4_52 (by decide) (fun _ => ?_) (fun z => absurd (by decide) z)
  refine lv_iload_n B.1 B.2.1 dJ6_numberOfTrailingZeros_0f7a4_62 rfl (lv_at hl 1 rfl) ?_
  refine lv_iconst (v := nI 4) B.1 B.2.1 dJ6_numberOfTrailingZeros_0f7a4_63 (by decide) ?_
  refine lv_icmp_le (tgt := 74) B.1 B.2.1 dJ6_numberOfTrailingZeros_0f7a4_64 (by decide) (fun _ => ?_) (fun z => absurd (by decide) z)
  refine lv_iload_n B.1 B.2.1 dJ6_numberOfTrailingZeros_0f7a4_74 rfl (lv_at hl 0 rfl) ?_
  refine lv_iload_n B.1 B.2.1 dJ6_numberOfTrailingZeros_0f7a4_75 rfl (lv_at hl 1 rfl) ?_
  refine lv_iconst (v := nI 1) B.1 B.2.1 dJ6_numberOfTrailingZeros_0f7a4_76 (by decide) ?_
  refine lv_iushr (v := nI 0) B.1 B.2.1 dJ6_numberOfTrailingZeros_0f7a4_77 (by decide) ?_
  refine lv_iadd B.1 B.2.1 dJ6_numberOfTrailingZeros_0f7a4_78 ?_
  refine r_tI (y := nI 1) (by decide) ?_
  exact r_eI B hC (v := nI 1) (⟨rfl, rfl⟩) dJ6_numberOfTrailingZeros_0f7a4_79
set_option maxHeartbeats 4000000 in
set_option maxRecDepth 100000 in
theorem ctJ6_ntz2 (l : Launch) (g : Gx) (lo : Nat) (ad : Nat → Nat) {F : Nat → va_E} : MI l g lo 196 ad yJ6_numberOfTrailingZeros_0f7a4 wsJ6_numberOfTrailingZeros_0f7a4 0 0 [.int (nI 4)] F (fun r F' => r = nI 2 ∧ F' = F) := by
  refine enter (cc := cJ6_numberOfTrailingZeros_0f7a4) (maxL := 2) (ret := some .int) (own := RJ6) (by decide +kernel) rfl rfl (Nat.le_of_ble_eq_true rfl) ?_
  intro pp ee ss mm below meth cc B hini hC ls hl
  have hl : lv_has ls 2 [(0, .int (nI 4))] := hl
  refine lv_iload_n B.1 B.2.1 dJ6_numberOfTrailingZeros_0f7a4_0 rfl (lv_at hl 0 rfl) ?_
  refine lv_iconst (v := (-1)) B.1 B.2.1 dJ6_numberOfTrailingZeros_0f7a4_1 (by decide) ?_
  refine lv_ixor B.1 B.2.1 dJ6_numberOfTrailingZeros_0f7a4_2 ?_
  refine r_tI (y := (-5)) (by decide) ?_
  refine lv_iload_n B.1 B.2.1 dJ6_numberOfTrailingZeros_0f7a4_3 rfl (lv_at hl 0 rfl) ?_
  refine lv_iconst (v := nI 1) B.1 B.2.1 dJ6_numberOfTrailingZeros_0f7a4_4 (by decide) ?_
  refine lv_isub B.1 B.2.1 dJ6_numberOfTrailingZeros_0f7a4_5 ?_
  refine r_tI (y := nI 3) (by decide) ?_
  refine lv_iand B.1 B.2.1 dJ6_numberOfTrailingZeros_0f7a4_6 ?_
  refine r_tI (y := nI 3) (by decide) ?_
  refine lv_istore_n (lv' := [(0, .int (nI 3))]) B.1 B.2.1 dJ6_numberOfTrailingZeros_0f7a4_7 rfl hl (by decide) rfl (fun ls hl => ?_)
  refine lv_iload_n B.1 B.2.1 dJ6_numberOfTrailingZeros_0f7a4_8 rfl (lv_at hl 0 rfl) ?_
  refine lv_if_gt (tgt := 17) B.1 B.2.1 dJ6_numberOfTrailingZeros_0f7a4_9 (by decide) (fun _ => ?_) (fun z => absurd (by decide) z)
  refine lv_iconst (v := nI 1) B.1 B.2.1 dJ6_numberOfTrailingZeros_0f7a4_17 (by decide) ?_
  refine lv_istore_n (lv' := [(1, .int (nI 1)), (0, .int (nI 3))]) B.1 B.2.1 dJ6_numberOfTrailingZeros_0f7a4_18 rfl hl (by decide) rfl (fun ls hl => ?_)
  refine lv_iload_n B.1 B.2.1 dJ6_numberOfTrailingZeros_0f7a4_19 rfl (lv_at hl 1 rfl) ?_
  refine lv_ldcw (own := RJ6) (v := nI 65536) B.1 B.2.1 B.2.2.2.1 (B.2.2.2.2.1 (.constant RJ6 264 (65536)) (by decide +kernel)) dJ6_numberOfTrailingZeros_0f7a4_20 ?_
  refine lv_icmp_le (tgt := 34) B.1 B.2.1 dJ6_numberOfTrailingZeros_0f7a4_23 (by decide) (fun _ => ?_) (fun z => absurd (by decide) z)
  refine lv_iload_n B.1 B.2.1 dJ6_numberOfTrailingZeros_0f7a4_34 rfl (lv_at hl 1 rfl) ?_
  refine lv_sipush (v := nI 256) B.1 B.2.1 dJ6_numberOfTrailingZeros_0f7a4_35 (by decide) ?_
  refine lv_icmp_le (tgt := 49) B.1 B.2.1 dJ6_numberOfTrailingZeros_0f7a4_38 (by decide) (fun _ => ?_) (fun z => absurd (by decide) z)
  refine lv_iload_n B.1 B.2.1 dJ6_numberOfTrailingZeros_0f7a4_49 rfl (lv_at hl 1 rfl) ?_
  refine lv_bipush (v := nI 16) B.1 B.2.1 dJ6_numberOfTrailingZeros_0f7a4_50 (by decide) ?_
  refine lv_icmp_le (tgt := 62) B.1 B.2.1 dJ6_numberOfTrailingZeros_0f7a4_52 (by decide) (fun _ => ?_) (fun z => absurd (by decide) z)
  refine lv_iload_n B.1 B.2.1 dJ6_numberOfTrailingZeros_0f7a4_62 rfl (lv_at hl 1 rfl) ?_
  refine lv_iconst (v := nI 4) B.1 B.2.1 dJ6_numberOfTrailingZeros_0f7a4_63 (by decide) ?_
  refine lv_icmp_le (tgt := 74) B.1 B.2.1 dJ6_numberOfTrailingZeros_0f7a4_64 (by decide) (fun _ => ?_) (fun z => absurd (by decide) z)
  refine lv_iload_n B.1 B.2.1 dJ6_numberOfTrailingZeros_0f7a4_74 rfl (lv_at hl 0 rfl) ?_
  refine lv_iload_n B.1 B.2.1 dJ6_numberOfTrailingZeros_0f7a4_75 rfl (lv_at hl 1 rfl) ?_
  refine lv_iconst (v := nI 1) B.1 B.2.1 dJ6_numberOfTrailingZeros_0f7a4_76 (by decide) ?_
  refine lv_iushr (v := nI 1) B.1 B.2.1 dJ6_numberOfTrailingZeros_0f7a4_77 (by decide) ?_
  refine lv_iadd B.1 B.2.1 dJ6_numberOfTrailingZeros_0f7a4_78 ?_
  refine r_tI (y := nI 2) (by decide) ?_
  exact r_eI B hC (v := nI 2) (⟨rfl, rfl⟩) dJ6_numberOfTrailingZeros_0f7a4_79
set_option maxHeartbeats 4000000 in
set_option maxRecDepth 100000 in
theorem ctJ6_ntz3 (l : Launch) (g : Gx) (lo : Nat) (ad : Nat → Nat) {F : Nat → va_E} : MI l g lo 196 ad yJ6_numberOfTrailingZeros_0f7a4 wsJ6_numberOfTrailingZeros_0f7a4 0 0 [.int (nI 8)] F (fun r F' => r = nI 3 ∧ F' = F) := by
  refine enter (cc := cJ6_numberOfTrailingZeros_0f7a4) (maxL := 2) (ret := some .int) (own := RJ6) (by decide +kernel) rfl rfl (Nat.le_of_ble_eq_true rfl) ?_
  intro pp ee ss mm below meth cc B hini hC ls hl
  have hl : lv_has ls 2 [(0, .int (nI 8))] := hl
  refine lv_iload_n B.1 B.2.1 dJ6_numberOfTrailingZeros_0f7a4_0 rfl (lv_at hl 0 rfl) ?_
  refine lv_iconst (v := (-1)) B.1 B.2.1 dJ6_numberOfTrailingZeros_0f7a4_1 (by decide) ?_
  refine lv_ixor B.1 B.2.1 dJ6_numberOfTrailingZeros_0f7a4_2 ?_
  refine r_tI (y := (-9)) (by decide) ?_
  refine lv_iload_n B.1 B.2.1 dJ6_numberOfTrailingZeros_0f7a4_3 rfl (lv_at hl 0 rfl) ?_
  refine lv_iconst (v := nI 1) B.1 B.2.1 dJ6_numberOfTrailingZeros_0f7a4_4 (by decide) ?_
  refine lv_isub B.1 B.2.1 dJ6_numberOfTrailingZeros_0f7a4_5 ?_
  refine r_tI (y := nI 7) (by decide) ?_
  refine lv_iand B.1 B.2.1 dJ6_numberOfTrailingZeros_0f7a4_6 ?_
  refine r_tI (y := nI 7) (by decide) ?_
  refine lv_istore_n (lv' := [(0, .int (nI 7))]) B.1 B.2.1 dJ6_numberOfTrailingZeros_0f7a4_7 rfl hl (by decide) rfl (fun ls hl => ?_)
  refine lv_iload_n B.1 B.2.1 dJ6_numberOfTrailingZeros_0f7a4_8 rfl (lv_at hl 0 rfl) ?_
  refine lv_if_gt (tgt := 17) B.1 B.2.1 dJ6_numberOfTrailingZeros_0f7a4_9 (by decide) (fun _ => ?_) (fun z => absurd (by decide) z)
  refine lv_iconst (v := nI 1) B.1 B.2.1 dJ6_numberOfTrailingZeros_0f7a4_17 (by decide) ?_
  refine lv_istore_n (lv' := [(1, .int (nI 1)), (0, .int (nI 7))]) B.1 B.2.1 dJ6_numberOfTrailingZeros_0f7a4_18 rfl hl (by decide) rfl (fun ls hl => ?_)
  refine lv_iload_n B.1 B.2.1 dJ6_numberOfTrailingZeros_0f7a4_19 rfl (lv_at hl 1 rfl) ?_
  refine lv_ldcw (own := RJ6) (v := nI 65536) B.1 B.2.1 B.2.2.2.1 (B.2.2.2.2.1 (.constant RJ6 264 (65536)) (by decide +kernel)) dJ6_numberOfTrailingZeros_0f7a4_20 ?_
  refine lv_icmp_le (tgt := 34) B.1 B.2.1 dJ6_numberOfTrailingZeros_0f7a4_23 (by decide) (fun _ => ?_) (fun z => absurd (by decide) z)
  refine lv_iload_n B.1 B.2.1 dJ6_numberOfTrailingZeros_0f7a4_34 rfl (lv_at hl 1 rfl) ?_
  refine lv_sipush (v := nI 256) B.1 B.2.1 dJ6_numberOfTrailingZeros_0f7a4_35 (by decide) ?_
  refine lv_icmp_le (tgt := 49) B.1 B.2.1 dJ6_numberOfTrailingZeros_0f7a4_38 (by decide) (fun _ => ?_) (fun z => absurd (by decide) z)
  refine lv_iload_n B.1 B.2.1 dJ6_numberOfTrailingZeros_0f7a4_49 rfl (lv_at hl 1 rfl) ?_
  refine lv_bipush (v := nI 16) B.1 B.2.1 dJ6_numberOfTrailingZeros_0f7a4_50 (by decide) ?_
  refine lv_icmp_le (tgt := 62) B.1 B.2.1 dJ6_numberOfTrailingZeros_0f7a4_52 (by decide) (fun _ => ?_) (fun z => absurd (by decide) z)
  refine lv_iload_n B.1 B.2.1 dJ6_numberOfTrailingZeros_0f7a4_62 rfl (lv_at hl 1 rfl) ?_
  refine lv_iconst (v := nI 4) B.1 B.2.1 dJ6_numberOfTrailingZeros_0f7a4_63 (by decide) ?_
  refine lv_icmp_le (tgt := 74) B.1 B.2.1 dJ6_numberOfTrailingZeros_0f7a4_64 (by decide) (fun z => absurd z (by decide)) (fun _ => ?_)
  refine lv_iinc (v := nI 3) (lv' := [(1, .int (nI 3)), (0, .int (nI 7))]) B.1 B.2.1 dJ6_numberOfTrailingZeros_0f7a4_67 hl (k := 0) rfl (by decide) (by decide) rfl (fun ls hl => ?_)
  refine lv_iload_n B.1 B.2.1 dJ6_numberOfTrailingZeros_0f7a4_70 rfl (lv_at hl 1 rfl) ?_
  refine lv_iconst (v := nI 2) B.1 B.2.1 dJ6_numberOfTrailingZeros_0f7a4_71 (by decide) ?_
  refine lv_iushr (v := nI 1) B.1 B.2.1 dJ6_numberOfTrailingZeros_0f7a4_72 (by decide) ?_
  refine lv_istore_n (lv' := [(0, .int (nI 1)), (1, .int (nI 3))]) B.1 B.2.1 dJ6_numberOfTrailingZeros_0f7a4_73 rfl hl (by decide) rfl (fun ls hl => ?_)
  refine lv_iload_n B.1 B.2.1 dJ6_numberOfTrailingZeros_0f7a4_74 rfl (lv_at hl 1 rfl) ?_
  refine lv_iload_n B.1 B.2.1 dJ6_numberOfTrailingZeros_0f7a4_75 rfl (lv_at hl 0 rfl) ?_
  refine lv_iconst (v := nI 1) B.1 B.2.1 dJ6_numberOfTrailingZeros_0f7a4_76 (by decide) ?_
  refine lv_iushr (v := nI 0) B.1 B.2.1 dJ6_numberOfTrailingZeros_0f7a4_77 (by decide) ?_
  refine lv_iadd B.1 B.2.1 dJ6_numberOfTrailingZeros_0f7a4_78 ?_
  refine r_tI (y := nI 3) (by decide) ?_
  exact r_eI B hC (v := nI 3) (⟨rfl, rfl⟩) dJ6_numberOfTrailingZeros_0f7a4_79
set_option maxHeartbeats 4000000 in
set_option maxRecDepth 100000 in
theorem ctJ6_ntz4 (l : Launch) (g : Gx) (lo : Nat) (ad : Nat → Nat) {F : Nat → va_E} : MI l g lo 196 ad yJ6_numberOfTrailingZeros_0f7a4 wsJ6_numberOfTrailingZeros_0f7a4 0 0 [.int (nI 16)] F (fun r F' => r = nI 4 ∧ F' = F) := by
  refine enter (cc := cJ6_numberOfTrailingZeros_0f7a4) (maxL := 2) (ret := some .int) (own := RJ6) (by decide +kernel) rfl rfl (Nat.le_of_ble_eq_true rfl) ?_
  intro pp ee ss mm below meth cc B hini hC ls hl
  have hl : lv_has ls 2 [(0, .int (nI 16))] := hl
  refine lv_iload_n B.1 B.2.1 dJ6_numberOfTrailingZeros_0f7a4_0 rfl (lv_at hl 0 rfl) ?_
  refine lv_iconst (v := (-1)) B.1 B.2.1 dJ6_numberOfTrailingZeros_0f7a4_1 (by decide) ?_
  refine lv_ixor B.1 B.2.1 dJ6_numberOfTrailingZeros_0f7a4_2 ?_
  refine r_tI (y := (-17)) (by decide) ?_
  refine lv_iload_n B.1 B.2.1 dJ6_numberOfTrailingZeros_0f7a4_3 rfl (lv_at hl 0 rfl) ?_
  refine lv_iconst (v := nI 1) B.1 B.2.1 dJ6_numberOfTrailingZeros_0f7a4_4 (by decide) ?_
  refine lv_isub B.1 B.2.1 dJ6_numberOfTrailingZeros_0f7a4_5 ?_
  refine r_tI (y := nI 15) (by decide) ?_
  refine lv_iand B.1 B.2.1 dJ6_numberOfTrailingZeros_0f7a4_6 ?_
  refine r_tI (y := nI 15) (by decide) ?_
  refine lv_istore_n (lv' := [(0, .int (nI 15))]) B.1 B.2.1 dJ6_numberOfTrailingZeros_0f7a4_7 rfl hl (by decide) rfl (fun ls hl => ?_)
  refine lv_iload_n B.1 B.2.1 dJ6_numberOfTrailingZeros_0f7a4_8 rfl (lv_at hl 0 rfl) ?_
  refine lv_if_gt (tgt := 17) B.1 B.2.1 dJ6_numberOfTrailingZeros_0f7a4_9 (by decide) (fun _ => ?_) (fun z => absurd (by decide) z)
  refine lv_iconst (v := nI 1) B.1 B.2.1 dJ6_numberOfTrailingZeros_0f7a4_17 (by decide) ?_
  refine lv_istore_n (lv' := [(1, .int (nI 1)), (0, .int (nI 15))]) B.1 B.2.1 dJ6_numberOfTrailingZeros_0f7a4_18 rfl hl (by decide) rfl (fun ls hl => ?_)
  refine lv_iload_n B.1 B.2.1 dJ6_numberOfTrailingZeros_0f7a4_19 rfl (lv_at hl 1 rfl) ?_
  refine lv_ldcw (own := RJ6) (v := nI 65536) B.1 B.2.1 B.2.2.2.1 (B.2.2.2.2.1 (.constant RJ6 264 (65536)) (by decide +kernel)) dJ6_numberOfTrailingZeros_0f7a4_20 ?_
  refine lv_icmp_le (tgt := 34) B.1 B.2.1 dJ6_numberOfTrailingZeros_0f7a4_23 (by decide) (fun _ => ?_) (fun z => absurd (by decide) z)
  refine lv_iload_n B.1 B.2.1 dJ6_numberOfTrailingZeros_0f7a4_34 rfl (lv_at hl 1 rfl) ?_
  refine lv_sipush (v := nI 256) B.1 B.2.1 dJ6_numberOfTrailingZeros_0f7a4_35 (by decide) ?_
  refine lv_icmp_le (tgt := 49) B.1 B.2.1 dJ6_numberOfTrailingZeros_0f7a4_38 (by decide) (fun _ => ?_) (fun z => absurd (by decide) z)
  refine lv_iload_n B.1 B.2.1 dJ6_numberOfTrailingZeros_0f7a4_49 rfl (lv_at hl 1 rfl) ?_
  refine lv_bipush (v := nI 16) B.1 B.2.1 dJ6_numberOfTrailingZeros_0f7a4_50 (by decide) ?_
  refine lv_icmp_le (tgt := 62) B.1 B.2.1 dJ6_numberOfTrailingZeros_0f7a4_52 (by decide) (fun _ => ?_) (fun z => absurd (by decide) z)
  refine lv_iload_n B.1 B.2.1 dJ6_numberOfTrailingZeros_0f7a4_62 rfl (lv_at hl 1 rfl) ?_
  refine lv_iconst (v := nI 4) B.1 B.2.1 dJ6_numberOfTrailingZeros_0f7a4_63 (by decide) ?_
  refine lv_icmp_le (tgt := 74) B.1 B.2.1 dJ6_numberOfTrailingZeros_0f7a4_64 (by decide) (fun z => absurd z (by decide)) (fun _ => ?_)
  refine lv_iinc (v := nI 3) (lv' := [(1, .int (nI 3)), (0, .int (nI 15))]) B.1 B.2.1 dJ6_numberOfTrailingZeros_0f7a4_67 hl (k := 0) rfl (by decide) (by decide) rfl (fun ls hl => ?_)
  refine lv_iload_n B.1 B.2.1 dJ6_numberOfTrailingZeros_0f7a4_70 rfl (lv_at hl 1 rfl) ?_
  refine lv_iconst (v := nI 2) B.1 B.2.1 dJ6_numberOfTrailingZeros_0f7a4_71 (by decide) ?_
  refine lv_iushr (v := nI 3) B.1 B.2.1 dJ6_numberOfTrailingZeros_0f7a4_72 (by decide) ?_
  refine lv_istore_n (lv' := [(0, .int (nI 3)), (1, .int (nI 3))]) B.1 B.2.1 dJ6_numberOfTrailingZeros_0f7a4_73 rfl hl (by decide) rfl (fun ls hl => ?_)
  refine lv_iload_n B.1 B.2.1 dJ6_numberOfTrailingZeros_0f7a4_74 rfl (lv_at hl 1 rfl) ?_
  refine lv_iload_n B.1 B.2.1 dJ6_numberOfTrailingZeros_0f7a4_75 rfl (lv_at hl 0 rfl) ?_
  refine lv_iconst (v := nI 1) B.1 B.2.1 dJ6_numberOfTrailingZeros_0f7a4_76 (by decide) ?_
  refine lv_iushr (v := nI 1) B.1 B.2.1 dJ6_numberOfTrailingZeros_0f7a4_77 (by decide) ?_
  refine lv_iadd B.1 B.2.1 dJ6_numberOfTrailingZeros_0f7a4_78 ?_
  refine r_tI (y := nI 4) (by decide) ?_
  exact r_eI B hC (v := nI 4) (⟨rfl, rfl⟩) dJ6_numberOfTrailingZeros_0f7a4_79
set_option maxHeartbeats 4000000 in
set_option maxRecDepth 100000 in
theorem ctJ6_ntz5 (l : Launch) (g : Gx) (lo : Nat) (ad : Nat → Nat) {F : Nat → va_E} : MI l g lo 196 ad yJ6_numberOfTrailingZeros_0f7a4 wsJ6_numberOfTrailingZeros_0f7a4 0 0 [.int (nI 32)] F (fun r F' => r = nI 5 ∧ F' = F) := by
  refine enter (cc := cJ6_numberOfTrailingZeros_0f7a4) (maxL := 2) (ret := some .int) (own := RJ6) (by decide +kernel) rfl rfl (Nat.le_of_ble_eq_true rfl) ?_
  intro pp ee ss mm below meth cc B hini hC ls hl
  have hl : lv_has ls 2 [(0, .int (nI 32))] := hl
  refine lv_iload_n B.1 B.2.1 dJ6_numberOfTrailingZeros_0f7a4_0 rfl (lv_at hl 0 rfl) ?_
  refine lv_iconst (v := (-1)) B.1 B.2.1 dJ6_numberOfTrailingZeros_0f7a4_1 (by decide) ?_
  refine lv_ixor B.1 B.2.1 dJ6_numberOfTrailingZeros_0f7a4_2 ?_
  refine r_tI (y := (-33)) (by decide) ?_
  refine lv_iload_n B.1 B.2.1 dJ6_numberOfTrailingZeros_0f7a4_3 rfl (lv_at hl 0 rfl) ?_
  refine lv_iconst (v := nI 1) B.1 B.2.1 dJ6_numberOfTrailingZeros_0f7a4_4 (by decide) ?_
  refine lv_isub B.1 B.2.1 dJ6_numberOfTrailingZeros_0f7a4_5 ?_
  refine r_tI (y := nI 31) (by decide) ?_
  refine lv_iand B.1 B.2.1 dJ6_numberOfTrailingZeros_0f7a4_6 ?_
  refine r_tI (y := nI 31) (by decide) ?_
  refine lv_istore_n (lv' := [(0, .int (nI 31))]) B.1 B.2.1 dJ6_numberOfTrailingZeros_0f7a4_7 rfl hl (by decide) rfl (fun ls hl => ?_)
  refine lv_iload_n B.1 B.2.1 dJ6_numberOfTrailingZeros_0f7a4_8 rfl (lv_at hl 0 rfl) ?_
  refine lv_if_gt (tgt := 17) B.1 B.2.1 dJ6_numberOfTrailingZeros_0f7a4_9 (by decide) (fun _ => ?_) (fun z => absurd (by decide) z)
  refine lv_iconst (v := nI 1) B.1 B.2.1 dJ6_numberOfTrailingZeros_0f7a4_17 (by decide) ?_
  refine lv_istore_n (lv' := [(1, .int (nI 1)), (0, .int (nI 31))]) B.1 B.2.1 dJ6_numberOfTrailingZeros_0f7a4_18 rfl hl (by decide) rfl (fun ls hl => ?_)
  refine lv_iload_n B.1 B.2.1 dJ6_numberOfTrailingZeros_0f7a4_19 rfl (lv_at hl 1 rfl) ?_
  refine lv_ldcw (own := RJ6) (v := nI 65536) B.1 B.2.1 B.2.2.2.1 (B.2.2.2.2.1 (.constant RJ6 264 (65536)) (by decide +kernel)) dJ6_numberOfTrailingZeros_0f7a4_20 ?_
  refine lv_icmp_le (tgt := 34) B.1 B.2.1 dJ6_numberOfTrailingZeros_0f7a4_23 (by decide) (fun _ => ?_) (fun z => absurd (by decide) z)
  refine lv_iload_n B.1 B.2.1 dJ6_numberOfTrailingZeros_0f7a4_34 rfl (lv_at hl 1 rfl) ?_
  refine lv_sipush (v := nI 256) B.1 B.2.1 dJ6_numberOfTrailingZeros_0f7a4_35 (by decide) ?_
  refine lv_icmp_le (tgt := 49) B.1 B.2.1 dJ6_numberOfTrailingZeros_0f7a4_38 (by decide) (fun _ => ?_) (fun z => absurd (by decide) z)
  refine lv_iload_n B.1 B.2.1 dJ6_numberOfTrailingZeros_0f7a4_49 rfl (lv_at hl 1 rfl) ?_
  refine lv_bipush (v := nI 16) B.1 B.2.1 dJ6_numberOfTrailingZeros_0f7a4_50 (by decide) ?_
  refine lv_icmp_le (tgt := 62) B.1 B.2.1 dJ6_numberOfTrailingZeros_0f7a4_52 (by decide) (fun z => absurd z (by decide)) (fun _ => ?_)
  refine lv_iinc (v := nI 5) (lv' := [(1, .int (nI 5)), (0, .int (nI 31))]) B.1 B.2.1 dJ6_numberOfTrailingZeros_0f7a4_55 hl (k := 0) rfl (by decide) (by decide) rfl (fun ls hl => ?_)
  refine lv_iload_n B.1 B.2.1 dJ6_numberOfTrailingZeros_0f7a4_58 rfl (lv_at hl 1 rfl) ?_
  refine lv_iconst (v := nI 4) B.1 B.2.1 dJ6_numberOfTrailingZeros_0f7a4_59 (by decide) ?_
  refine lv_iushr (v := nI 1) B.1 B.2.1 dJ6_numberOfTrailingZeros_0f7a4_60 (by decide) ?_
  refine lv_istore_n (lv' := [(0, .int (nI 1)), (1, .int (nI 5))]) B.1 B.2.1 dJ6_numberOfTrailingZeros_0f7a4_61 rfl hl (by decide) rfl (fun ls hl => ?_)
  refine lv_iload_n B.1 B.2.1 dJ6_numberOfTrailingZeros_0f7a4_62 rfl (lv_at hl 0 rfl) ?_
  refine lv_iconst (v := nI 4) B.1 B.2.1 dJ6_numberOfTrailingZeros_0f7a4_63 (by decide) ?_
  refine lv_icmp_le (tgt := 74) B.1 B.2.1 dJ6_numberOfTrailingZeros_0f7a4_64 (by decide) (fun _ => ?_) (fun z => absurd (by decide) z)
  refine lv_iload_n B.1 B.2.1 dJ6_numberOfTrailingZeros_0f7a4_74 rfl (lv_at hl 1 rfl) ?_
  refine lv_iload_n B.1 B.2.1 dJ6_numberOfTrailingZeros_0f7a4_75 rfl (lv_at hl 0 rfl) ?_
  refine lv_iconst (v := nI 1) B.1 B.2.1 dJ6_numberOfTrailingZeros_0f7a4_76 (by decide) ?_
  refine lv_iushr (v := nI 0) B.1 B.2.1 dJ6_numberOfTrailingZeros_0f7a4_77 (by decide) ?_
  refine lv_iadd B.1 B.2.1 dJ6_numberOfTrailingZeros_0f7a4_78 ?_
  refine r_tI (y := nI 5) (by decide) ?_
  exact r_eI B hC (v := nI 5) (⟨rfl, rfl⟩) dJ6_numberOfTrailingZeros_0f7a4_79
set_option maxHeartbeats 4000000 in
set_option maxRecDepth 100000 in
theorem ctJ6_ntz6 (l : Launch) (g : Gx) (lo : Nat) (ad : Nat → Nat) {F : Nat → va_E} : MI l g lo 196 ad yJ6_numberOfTrailingZeros_0f7a4 wsJ6_numberOfTrailingZeros_0f7a4 0 0 [.int (nI 64)] F (fun r F' => r = nI 6 ∧ F' = F) := by
  refine enter (cc := cJ6_numberOfTrailingZeros_0f7a4) (maxL := 2) (ret := some .int) (own := RJ6) (by decide +kernel) rfl rfl (Nat.le_of_ble_eq_true rfl) ?_
  intro pp ee ss mm below meth cc B hini hC ls hl
  have hl : lv_has ls 2 [(0, .int (nI 64))] := hl
  refine lv_iload_n B.1 B.2.1 dJ6_numberOfTrailingZeros_0f7a4_0 rfl (lv_at hl 0 rfl) ?_
  refine lv_iconst (v := (-1)) B.1 B.2.1 dJ6_numberOfTrailingZeros_0f7a4_1 (by decide) ?_
  refine lv_ixor B.1 B.2.1 dJ6_numberOfTrailingZeros_0f7a4_2 ?_
  refine r_tI (y := (-65)) (by decide) ?_
  refine lv_iload_n B.1 B.2.1 dJ6_numberOfTrailingZeros_0f7a4_3 rfl (lv_at hl 0 rfl) ?_
  refine lv_iconst (v := nI 1) B.1 B.2.1 dJ6_numberOfTrailingZeros_0f7a4_4 (by decide) ?_
  refine lv_isub B.1 B.2.1 dJ6_numberOfTrailingZeros_0f7a4_5 ?_
  refine r_tI (y := nI 63) (by decide) ?_
  refine lv_iand B.1 B.2.1 dJ6_numberOfTrailingZeros_0f7a4_6 ?_
  refine r_tI (y := nI 63) (by decide) ?_
  refine lv_istore_n (lv' := [(0, .int (nI 63))]) B.1 B.2.1 dJ6_numberOfTrailingZeros_0f7a4_7 rfl hl (by decide) rfl (fun ls hl => ?_)
  refine lv_iload_n B.1 B.2.1 dJ6_numberOfTrailingZeros_0f7a4_8 rfl (lv_at hl 0 rfl) ?_
  refine lv_if_gt (tgt := 17) B.1 B.2.1 dJ6_numberOfTrailingZeros_0f7a4_9 (by decide) (fun _ => ?_) (fun z => absurd (by decide) z)
  refine lv_iconst (v := nI 1) B.1 B.2.1 dJ6_numberOfTrailingZeros_0f7a4_17 (by decide) ?_
  refine lv_istore_n (lv' := [(1, .int (nI 1)), (0, .int (nI 63))]) B.1 B.2.1 dJ6_numberOfTrailingZeros_0f7a4_18 rfl hl (by decide) rfl (fun ls hl => ?_)
  refine lv_iload_n B.1 B.2.1 dJ6_numberOfTrailingZeros_0f7a4_19 rfl (lv_at hl 1 rfl) ?_
  refine lv_ldcw (own := RJ6) (v := nI 65536) B.1 B.2.1 B.2.2.2.1 (B.2.2.2.2.1 (.constant RJ6 264 (65536)) (by decide +kernel)) dJ6_numberOfTrailingZeros_0f7a4_20 ?_
  refine lv_icmp_le (tgt := 34) B.1 B.2.1 dJ6_numberOfTrailingZeros_0f7a4_23 (by decide) (fun _ => ?_) (fun z => absurd (by decide) z)
  refine lv_iload_n B.1 B.2.1 dJ6_numberOfTrailingZeros_0f7a4_34 rfl (lv_at hl 1 rfl) ?_
  refine lv_sipush (v := nI 256) B.1 B.2.1 dJ6_numberOfTrailingZeros_0f7a4_35 (by decide) ?_
  refine lv_icmp_le (tgt := 49) B.1 B.2.1 dJ6_numberOfTrailingZeros_0f7a4_38 (by decide) (fun _ => ?_) (fun z => absurd (by decide) z)
  refine lv_iload_n B.1 B.2.1 dJ6_numberOfTrailingZeros_0f7a4_49 rfl (lv_at hl 1 rfl) ?_
  refine lv_bipush (v := nI 16) B.1 B.2.1 dJ6_numberOfTrailingZeros_0f7a4_50 (by decide) ?_
  refine lv_icmp_le (tgt := 62) B.1 B.2.1 dJ6_numberOfTrailingZeros_0f7a4_52 (by decide) (fun z => absurd z (by decide)) (fun _ => ?_)
  refine lv_iinc (v := nI 5) (lv' := [(1, .int (nI 5)), (0, .int (nI 63))]) B.1 B.2.1 dJ6_numberOfTrailingZeros_0f7a4_55 hl (k := 0) rfl (by decide) (by decide) rfl (fun ls hl => ?_)
  refine lv_iload_n B.1 B.2.1 dJ6_numberOfTrailingZeros_0f7a4_58 rfl (lv_at hl 1 rfl) ?_
  refine lv_iconst (v := nI 4) B.1 B.2.1 dJ6_numberOfTrailingZeros_0f7a4_59 (by decide) ?_
  refine lv_iushr (v := nI 3) B.1 B.2.1 dJ6_numberOfTrailingZeros_0f7a4_60 (by decide) ?_
  refine lv_istore_n (lv' := [(0, .int (nI 3)), (1, .int (nI 5))]) B.1 B.2.1 dJ6_numberOfTrailingZeros_0f7a4_61 rfl hl (by decide) rfl (fun ls hl => ?_)
  refine lv_iload_n B.1 B.2.1 dJ6_numberOfTrailingZeros_0f7a4_62 rfl (lv_at hl 0 rfl) ?_
  refine lv_iconst (v := nI 4) B.1 B.2.1 dJ6_numberOfTrailingZeros_0f7a4_63 (by decide) ?_
  refine lv_icmp_le (tgt := 74) B.1 B.2.1 dJ6_numberOfTrailingZeros_0f7a4_64 (by decide) (fun _ => ?_) (fun z => absurd (by decide) z)
  refine lv_iload_n B.1 B.2.1 dJ6_numberOfTrailingZeros_0f7a4_74 rfl (lv_at hl 1 rfl) ?_
  refine lv_iload_n B.1 B.2.1 dJ6_numberOfTrailingZeros_0f7a4_75 rfl (lv_at hl 0 rfl) ?_
  refine lv_iconst (v := nI 1) B.1 B.2.1 dJ6_numberOfTrailingZeros_0f7a4_76 (by decide) ?_
  refine lv_iushr (v := nI 1) B.1 B.2.1 dJ6_numberOfTrailingZeros_0f7a4_77 (by decide) ?_
  refine lv_iadd B.1 B.2.1 dJ6_numberOfTrailingZeros_0f7a4_78 ?_
  refine r_tI (y := nI 6) (by decide) ?_
  exact r_eI B hC (v := nI 6) (⟨rfl, rfl⟩) dJ6_numberOfTrailingZeros_0f7a4_79
set_option maxHeartbeats 4000000 in
set_option maxRecDepth 100000 in
theorem ctJ6_ntz7 (l : Launch) (g : Gx) (lo : Nat) (ad : Nat → Nat) {F : Nat → va_E} : MI l g lo 196 ad yJ6_numberOfTrailingZeros_0f7a4 wsJ6_numberOfTrailingZeros_0f7a4 0 0 [.int (nI 128)] F (fun r F' => r = nI 7 ∧ F' = F) := by
  refine enter (cc := cJ6_numberOfTrailingZeros_0f7a4) (maxL := 2) (ret := some .int) (own := RJ6) (by decide +kernel) rfl rfl (Nat.le_of_ble_eq_true rfl) ?_
  intro pp ee ss mm below meth cc B hini hC ls hl
  have hl : lv_has ls 2 [(0, .int (nI 128))] := hl
  refine lv_iload_n B.1 B.2.1 dJ6_numberOfTrailingZeros_0f7a4_0 rfl (lv_at hl 0 rfl) ?_
  refine lv_iconst (v := (-1)) B.1 B.2.1 dJ6_numberOfTrailingZeros_0f7a4_1 (by decide) ?_
  refine lv_ixor B.1 B.2.1 dJ6_numberOfTrailingZeros_0f7a4_2 ?_
  refine r_tI (y := (-129)) (by decide) ?_
  refine lv_iload_n B.1 B.2.1 dJ6_numberOfTrailingZeros_0f7a4_3 rfl (lv_at hl 0 rfl) ?_
  refine lv_iconst (v := nI 1) B.1 B.2.1 dJ6_numberOfTrailingZeros_0f7a4_4 (by decide) ?_
  refine lv_isub B.1 B.2.1 dJ6_numberOfTrailingZeros_0f7a4_5 ?_
  refine r_tI (y := nI 127) (by decide) ?_
  refine lv_iand B.1 B.2.1 dJ6_numberOfTrailingZeros_0f7a4_6 ?_
  refine r_tI (y := nI 127) (by decide) ?_
  refine lv_istore_n (lv' := [(0, .int (nI 127))]) B.1 B.2.1 dJ6_numberOfTrailingZeros_0f7a4_7 rfl hl (by decide) rfl (fun ls hl => ?_)
  refine lv_iload_n B.1 B.2.1 dJ6_numberOfTrailingZeros_0f7a4_8 rfl (lv_at hl 0 rfl) ?_
  refine lv_if_gt (tgt := 17) B.1 B.2.1 dJ6_numberOfTrailingZeros_0f7a4_9 (by decide) (fun _ => ?_) (fun z => absurd (by decide) z)
  refine lv_iconst (v := nI 1) B.1 B.2.1 dJ6_numberOfTrailingZeros_0f7a4_17 (by decide) ?_
  refine lv_istore_n (lv' := [(1, .int (nI 1)), (0, .int (nI 127))]) B.1 B.2.1 dJ6_numberOfTrailingZeros_0f7a4_18 rfl hl (by decide) rfl (fun ls hl => ?_)
  refine lv_iload_n B.1 B.2.1 dJ6_numberOfTrailingZeros_0f7a4_19 rfl (lv_at hl 1 rfl) ?_
  refine lv_ldcw (own := RJ6) (v := nI 65536) B.1 B.2.1 B.2.2.2.1 (B.2.2.2.2.1 (.constant RJ6 264 (65536)) (by decide +kernel)) dJ6_numberOfTrailingZeros_0f7a4_20 ?_
  refine lv_icmp_le (tgt := 34) B.1 B.2.1 dJ6_numberOfTrailingZeros_0f7a4_23 (by decide) (fun _ => ?_) (fun z => absurd (by decide) z)
  refine lv_iload_n B.1 B.2.1 dJ6_numberOfTrailingZeros_0f7a4_34 rfl (lv_at hl 1 rfl) ?_
  refine lv_sipush (v := nI 256) B.1 B.2.1 dJ6_numberOfTrailingZeros_0f7a4_35 (by decide) ?_
  refine lv_icmp_le (tgt := 49) B.1 B.2.1 dJ6_numberOfTrailingZeros_0f7a4_38 (by decide) (fun _ => ?_) (fun z => absurd (by decide) z)
  refine lv_iload_n B.1 B.2.1 dJ6_numberOfTrailingZeros_0f7a4_49 rfl (lv_at hl 1 rfl) ?_
  refine lv_bipush (v := nI 16) B.1 B.2.1 dJ6_numberOfTrailingZeros_0f7a4_50 (by decide) ?_
  refine lv_icmp_le (tgt := 62) B.1 B.2.1 dJ6_numberOfTrailingZeros_0f7a4_52 (by decide) (fun z => absurd z (by decide)) (fun _ => ?_)
  refine lv_iinc (v := nI 5) (lv' := [(1, .int (nI 5)), (0, .int (nI 127))]) B.1 B.2.1 dJ6_numberOfTrailingZeros_0f7a4_55 hl (k := 0) rfl (by decide) (by decide) rfl (fun ls hl => ?_)
  refine lv_iload_n B.1 B.2.1 dJ6_numberOfTrailingZeros_0f7a4_58 rfl (lv_at hl 1 rfl) ?_
  refine lv_iconst (v := nI 4) B.1 B.2.1 dJ6_numberOfTrailingZeros_0f7a4_59 (by decide) ?_
  refine lv_iushr (v := nI 7) B.1 B.2.1 dJ6_numberOfTrailingZeros_0f7a4_60 (by decide) ?_
  refine lv_istore_n (lv' := [(0, .int (nI 7)), (1, .int (nI 5))]) B.1 B.2.1 dJ6_numberOfTrailingZeros_0f7a4_61 rfl hl (by decide) rfl (fun ls hl => ?_)
  refine lv_iload_n B.1 B.2.1 dJ6_numberOfTrailingZeros_0f7a4_62 rfl (lv_at hl 0 rfl) ?_
  refine lv_iconst (v := nI 4) B.1 B.2.1 dJ6_numberOfTrailingZeros_0f7a4_63 (by decide) ?_
  refine lv_icmp_le (tgt := 74) B.1 B.2.1 dJ6_numberOfTrailingZeros_0f7a4_64 (by decide) (fun z => absurd z (by decide)) (fun _ => ?_)
  refine lv_iinc (v := nI 7) (lv' := [(1, .int (nI 7)), (0, .int (nI 7))]) B.1 B.2.1 dJ6_numberOfTrailingZeros_0f7a4_67 hl (k := 1) rfl (by decide) (by decide) rfl (fun ls hl => ?_)
  refine lv_iload_n B.1 B.2.1 dJ6_numberOfTrailingZeros_0f7a4_70 rfl (lv_at hl 1 rfl) ?_
  refine lv_iconst (v := nI 2) B.1 B.2.1 dJ6_numberOfTrailingZeros_0f7a4_71 (by decide) ?_
  refine lv_iushr (v := nI 1) B.1 B.2.1 dJ6_numberOfTrailingZeros_0f7a4_72 (by decide) ?_
  refine lv_istore_n (lv' := [(0, .int (nI 1)), (1, .int (nI 7))]) B.1 B.2.1 dJ6_numberOfTrailingZeros_0f7a4_73 rfl hl (by decide) rfl (fun ls hl => ?_)
  refine lv_iload_n B.1 B.2.1 dJ6_numberOfTrailingZeros_0f7a4_74 rfl (lv_at hl 1 rfl) ?_
  refine lv_iload_n B.1 B.2.1 dJ6_numberOfTrailingZeros_0f7a4_75 rfl (lv_at hl 0 rfl) ?_
  refine lv_iconst (v := nI 1) B.1 B.2.1 dJ6_numberOfTrailingZeros_0f7a4_76 (by decide) ?_
  refine lv_iushr (v := nI 0) B.1 B.2.1 dJ6_numberOfTrailingZeros_0f7a4_77 (by decide) ?_
  refine lv_iadd B.1 B.2.1 dJ6_numberOfTrailingZeros_0f7a4_78 ?_
  refine r_tI (y := nI 7) (by decide) ?_
  exact r_eI B hC (v := nI 7) (⟨rfl, rfl⟩) dJ6_numberOfTrailingZeros_0f7a4_79
set_option maxHeartbeats 4000000 in
set_option maxRecDepth 100000 in
theorem ctJ6_ntz8 (l : Launch) (g : Gx) (lo : Nat) (ad : Nat → Nat) {F : Nat → va_E} : MI l g lo 196 ad yJ6_numberOfTrailingZeros_0f7a4 wsJ6_numberOfTrailingZeros_0f7a4 0 0 [.int (nI 256)] F (fun r F' => r = nI 8 ∧ F' = F) := by
  refine enter (cc := cJ6_numberOfTrailingZeros_0f7a4) (maxL := 2) (ret := some .int) (own := RJ6) (by decide +kernel) rfl rfl (Nat.le_of_ble_eq_true rfl) ?_
  intro pp ee ss mm below meth cc B hini hC ls hl
  have hl : lv_has ls 2 [(0, .int (nI 256))] := hl
  refine lv_iload_n B.1 B.2.1 dJ6_numberOfTrailingZeros_0f7a4_0 rfl (lv_at hl 0 rfl) ?_
  refine lv_iconst (v := (-1)) B.1 B.2.1 dJ6_numberOfTrailingZeros_0f7a4_1 (by decide) ?_
  refine lv_ixor B.1 B.2.1 dJ6_numberOfTrailingZeros_0f7a4_2 ?_
  refine r_tI (y := (-257)) (by decide) ?_
  refine lv_iload_n B.1 B.2.1 dJ6_numberOfTrailingZeros_0f7a4_3 rfl (lv_at hl 0 rfl) ?_
  refine lv_iconst (v := nI 1) B.1 B.2.1 dJ6_numberOfTrailingZeros_0f7a4_4 (by decide) ?_
  refine lv_isub B.1 B.2.1 dJ6_numberOfTrailingZeros_0f7a4_5 ?_
  refine r_tI (y := nI 255) (by decide) ?_
  refine lv_iand B.1 B.2.1 dJ6_numberOfTrailingZeros_0f7a4_6 ?_
  refine r_tI (y := nI 255) (by decide) ?_
  refine lv_istore_n (lv' := [(0, .int (nI 255))]) B.1 B.2.1 dJ6_numberOfTrailingZeros_0f7a4_7 rfl hl (by decide) rfl (fun ls hl => ?_)
  refine lv_iload_n B.1 B.2.1 dJ6_numberOfTrailingZeros_0f7a4_8 rfl (lv_at hl 0 rfl) ?_
  refine lv_if_gt (tgt := 17) B.1 B.2.1 dJ6_numberOfTrailingZeros_0f7a4_9 (by decide) (fun _ => ?_) (fun z => absurd (by decide) z)
  refine lv_iconst (v := nI 1) B.1 B.2.1 dJ6_numberOfTrailingZeros_0f7a4_17 (by decide) ?_
  refine lv_istore_n (lv' := [(1, .int (nI 1)), (0, .int (nI 255))]) B.1 B.2.1 dJ6_numberOfTrailingZeros_0f7a4_18 rfl hl (by decide) rfl (fun ls hl => ?_)
  refine lv_iload_n B.1 B.2.1 dJ6_numberOfTrailingZeros_0f7a4_19 rfl (lv_at hl 1 rfl) ?_
  refine lv_ldcw (own := RJ6) (v := nI 65536) B.1 B.2.1 B.2.2.2.1 (B.2.2.2.2.1 (.constant RJ6 264 (65536)) (by decide +kernel)) dJ6_numberOfTrailingZeros_0f7a4_20 ?_
  refine lv_icmp_le (tgt := 34) B.1 B.2.1 dJ6_numberOfTrailingZeros_0f7a4_23 (by decide) (fun _ => ?_) (fun z => absurd (by decide) z)
  refine lv_iload_n B.1 B.2.1 dJ6_numberOfTrailingZeros_0f7a4_34 rfl (lv_at hl 1 rfl) ?_
  refine lv_sipush (v := nI 256) B.1 B.2.1 dJ6_numberOfTrailingZeros_0f7a4_35 (by decide) ?_
  refine lv_icmp_le (tgt := 49) B.1 B.2.1 dJ6_numberOfTrailingZeros_0f7a4_38 (by decide) (fun _ => ?_) (fun z => absurd (by decide) z)
  refine lv_iload_n B.1 B.2.1 dJ6_numberOfTrailingZeros_0f7a4_49 rfl (lv_at hl 1 rfl) ?_
  refine lv_bipush (v := nI 16) B.1 B.2.1 dJ6_numberOfTrailingZeros_0f7a4_50 (by decide) ?_
  refine lv_icmp_le (tgt := 62) B.1 B.2.1 dJ6_numberOfTrailingZeros_0f7a4_52 (by decide) (fun z => absurd z (by decide)) (fun _ => ?_)
  refine lv_iinc (v := nI 5) (lv' := [(1, .int (nI 5)), (0, .int (nI 255))]) B.1 B.2.1 dJ6_numberOfTrailingZeros_0f7a4_55 hl (k := 0) rfl (by decide) (by decide) rfl (fun ls hl => ?_)
  refine lv_iload_n B.1 B.2.1 dJ6_numberOfTrailingZeros_0f7a4_58 rfl (lv_at hl 1 rfl) ?_
  refine lv_iconst (v := nI 4) B.1 B.2.1 dJ6_numberOfTrailingZeros_0f7a4_59 (by decide) ?_
  refine lv_iushr (v := nI 15) B.1 B.2.1 dJ6_numberOfTrailingZeros_0f7a4_60 (by decide) ?_
  refine lv_istore_n (lv' := [(0, .int (nI 15)), (1, .int (nI 5))]) B.1 B.2.1 dJ6_numberOfTrailingZeros_0f7a4_61 rfl hl (by decide) rfl (fun ls hl => ?_)
  refine lv_iload_n B.1 B.2.1 dJ6_numberOfTrailingZeros_0f7a4_62 rfl (lv_at hl 0 rfl) ?_
  refine lv_iconst (v := nI 4) B.1 B.2.1 dJ6_numberOfTrailingZeros_0f7a4_63 (by decide) ?_
  refine lv_icmp_le (tgt := 74) B.1 B.2.1 dJ6_numberOfTrailingZeros_0f7a4_64 (by decide) (fun z => absurd z (by decide)) (fun _ => ?_)
  refine lv_iinc (v := nI 7) (lv' := [(1, .int (nI 7)), (0, .int (nI 15))]) B.1 B.2.1 dJ6_numberOfTrailingZeros_0f7a4_67 hl (k := 1) rfl (by decide) (by decide) rfl (fun ls hl => ?_)
  refine lv_iload_n B.1 B.2.1 dJ6_numberOfTrailingZeros_0f7a4_70 rfl (lv_at hl 1 rfl) ?_
  refine lv_iconst (v := nI 2) B.1 B.2.1 dJ6_numberOfTrailingZeros_0f7a4_71 (by decide) ?_
  refine lv_iushr (v := nI 3) B.1 B.2.1 dJ6_numberOfTrailingZeros_0f7a4_72 (by decide) ?_
  refine lv_istore_n (lv' := [(0, .int (nI 3)), (1, .int (nI 7))]) B.1 B.2.1 dJ6_numberOfTrailingZeros_0f7a4_73 rfl hl (by decide) rfl (fun ls hl => ?_)
  refine lv_iload_n B.1 B.2.1 dJ6_numberOfTrailingZeros_0f7a4_74 rfl (lv_at hl 1 rfl) ?_
  refine lv_iload_n B.1 B.2.1 dJ6_numberOfTrailingZeros_0f7a4_75 rfl (lv_at hl 0 rfl) ?_
  refine lv_iconst (v := nI 1) B.1 B.2.1 dJ6_numberOfTrailingZeros_0f7a4_76 (by decide) ?_
  refine lv_iushr (v := nI 1) B.1 B.2.1 dJ6_numberOfTrailingZeros_0f7a4_77 (by decide) ?_
  refine lv_iadd B.1 B.2.1 dJ6_numberOfTrailingZeros_0f7a4_78 ?_
  refine r_tI (y := nI 8) (by decide) ?_
  exact r_eI B hC (v := nI 8) (⟨rfl, rfl⟩) dJ6_numberOfTrailingZeros_0f7a4_79
set_option maxHeartbeats 4000000 in
set_option maxRecDepth 100000 in
theorem ctJ6_ntz9 (l : Launch) (g : Gx) (lo : Nat) (ad : Nat → Nat) {F : Nat → va_E} : MI l g lo 196 ad yJ6_numberOfTrailingZeros_0f7a4 wsJ6_numberOfTrailingZeros_0f7a4 0 0 [.int (nI 512)] F (fun r F' => r = nI 9 ∧ F' = F) := by
  refine enter (cc := cJ6_numberOfTrailingZeros_0f7a4) (maxL := 2) (ret := some .int) (own := RJ6) (by decide +kernel) rfl rfl (Nat.le_of_ble_eq_true rfl) ?_
  intro pp ee ss mm below meth cc B hini hC ls hl
  have hl : lv_has ls 2 [(0, .int (nI 512))] := hl
  refine lv_iload_n B.1 B.2.1 dJ6_numberOfTrailingZeros_0f7a4_0 rfl (lv_at hl 0 rfl) ?_
  refine lv_iconst (v := (-1)) B.1 B.2.1 dJ6_numberOfTrailingZeros_0f7a4_1 (by decide) ?_
  refine lv_ixor B.1 B.2.1 dJ6_numberOfTrailingZeros_0f7a4_2 ?_
  refine r_tI (y := (-513)) (by decide) ?_
  refine lv_iload_n B.1 B.2.1 dJ6_numberOfTrailingZeros_0f7a4_3 rfl (lv_at hl 0 rfl) ?_
  refine lv_iconst (v := nI 1) B.1 B.2.1 dJ6_numberOfTrailingZeros_0f7a4_4 (by decide) ?_
  refine lv_isub B.1 B.2.1 dJ6_numberOfTrailingZeros_0f7a4_5 ?_
  refine r_tI (y := nI 511) (by decide) ?_
  refine lv_iand B.1 B.2.1 dJ6_numberOfTrailingZeros_0f7a4_6 ?_
  refine r_tI (y := nI 511) (by decide) ?_
  refine lv_istore_n (lv' := [(0, .int (nI 511))]) B.1 B.2.1 dJ6_numberOfTrailingZeros_0f7a4_7 rfl hl (by decide) rfl (fun ls hl => ?_)
  refine lv_iload_n B.1 B.2.1 dJ6_numberOfTrailingZeros_0f7a4_8 rfl (lv_at hl 0 rfl) ?_
  refine lv_if_gt (tgt := 17) B.1 B.2.1 dJ6_numberOfTrailingZeros_0f7a4_9 (by decide) (fun _ => ?_) (fun z => absurd (by decide) z)
  refine lv_iconst (v := nI 1) B.1 B.2.1 dJ6_numberOfTrailingZeros_0f7a4_17 (by decide) ?_
  refine lv_istore_n (lv' := [(1, .int (nI 1)), (0, .int (nI 511))]) B.1 B.2.1 dJ6_numberOfTrailingZeros_0f7a4_18 rfl hl (by decide) rfl (fun ls hl => ?_)
  refine lv_iload_n B.1 B.2.1 dJ6_numberOfTrailingZeros_0f7a4_19 rfl (lv_at hl 1 rfl) ?_
  refine lv_ldcw (own := RJ6) (v := nI 65536) B.1 B.2.1 B.2.2.2.1 (B.2.2.2.2.1 (.constant RJ6 264 (65536)) (by decide +kernel)) dJ6_numberOfTrailingZeros_0f7a4_20 ?_
  refine lv_icmp_le (tgt := 34) B.1 B.2.1 dJ6_numberOfTrailingZeros_0f7a4_23 (by decide) (fun _ => ?_) (fun z => absurd (by decide) z)
  refine lv_iload_n B.1 B.2.1 dJ6_numberOfTrailingZeros_0f7a4_34 rfl (lv_at hl 1 rfl) ?_
  refine lv_sipush (v := nI 256) B.1 B.2.1 dJ6_numberOfTrailingZeros_0f7a4_35 (by decide) ?_
  refine lv_icmp_le (tgt := 49) B.1 B.2.1 dJ6_numberOfTrailingZeros_0f7a4_38 (by decide) (fun z => absurd z (by decide)) (fun _ => ?_)
  refine lv_iinc (v := nI 9) (lv' := [(1, .int (nI 9)), (0, .int (nI 511))]) B.1 B.2.1 dJ6_numberOfTrailingZeros_0f7a4_41 hl (k := 0) rfl (by decide) (by decide) rfl (fun ls hl => ?_)
  refine lv_iload_n B.1 B.2.1 dJ6_numberOfTrailingZeros_0f7a4_44 rfl (lv_at hl 1 rfl) ?_
  refine lv_bipush (v := nI 8) B.1 B.2.1 dJ6_numberOfTrailingZeros_0f7a4_45 (by decide) ?_
  refine lv_iushr (v := nI 1) B.1 B.2.1 dJ6_numberOfTrailingZeros_0f7a4_47 (by decide) ?_
  refine lv_istore_n (lv' := [(0, .int (nI 1)), (1, .int (nI 9))]) B.1 B.2.1 dJ6_numberOfTrailingZeros_0f7a4_48 rfl hl (by decide) rfl (fun ls hl => ?_)
  refine lv_iload_n B.1 B.2.1 dJ6_numberOfTrailingZeros_0f7a4_49 rfl (lv_at hl 0 rfl) ?_
  refine lv_bipush (v := nI 16) B.1 B.2.1 dJ6_numberOfTrailingZeros_0f7a4_50 (by decide) ?_
  refine lv_icmp_le (tgt := 62) B.1 B.2.1 dJ6_numberOfTrailingZeros_0f7a4_52 (by decide) (fun _ => ?_) (fun z => absurd (by decide) z)
  refine lv_iload_n B.1 B.2.1 dJ6_numberOfTrailingZeros_0f7a4_62 rfl (lv_at hl 0 rfl) ?_
  refine lv_iconst (v := nI 4) B.1 B.2.1 dJ6_numberOfTrailingZeros_0f7a4_63 (by decide) ?_
  refine lv_icmp_le (tgt := 74) B.1 B.2.1 dJ6_numberOfTrailingZeros_0f7a4_64 (by decide) (fun _ => ?_) (fun z => absurd (by decide) z)
  refine lv_iload_n B.1 B.2.1 dJ6_numberOfTrailingZeros_0f7a4_74 rfl (lv_at hl 1 rfl) ?_
  refine lv_iload_n B.1 B.2.1 dJ6_numberOfTrailingZeros_0f7a4_75 rfl (lv_at hl 0 rfl) ?_
  refine lv_iconst (v := nI 1) B.1 B.2.1 dJ6_numberOfTrailingZeros_0f7a4_76 (by decide) ?_
  refine lv_iushr (v := nI 0) B.1 B.2.1 dJ6_numberOfTrailingZeros_0f7a4_77 (by decide) ?_
  refine lv_iadd B.1 B.2.1 dJ6_numberOfTrailingZeros_0f7a4_78 ?_
  refine r_tI (y := nI 9) (by decide) ?_
  exact r_eI B hC (v := nI 9) (⟨rfl, rfl⟩) dJ6_numberOfTrailingZeros_0f7a4_79
theorem ctJ6_ntz (l : Launch) (g : Gx) (lo : Nat) (ad : Nat → Nat) {F : Nat → va_E} {p : Nat} (hp : p < 10) : MI l g lo 196 ad yJ6_numberOfTrailingZeros_0f7a4 wsJ6_numberOfTrailingZeros_0f7a4 0 0 [.int (nI (2 ^ p))] F (fun r F' => r = nI p ∧ F' = F) := by
  match p, hp with
  | 0, _ => exact ctJ6_ntz0 l g lo ad
  | 1, _ => exact ctJ6_ntz1 l g lo ad
  | 2, _ => exact ctJ6_ntz2 l g lo ad
  | 3, _ => exact ctJ6_ntz3 l g lo ad
  | 4, _ => exact ctJ6_ntz4 l g lo ad
  | 5, _ => exact ctJ6_ntz5 l g lo ad
  | 6, _ => exact ctJ6_ntz6 l g lo ad
  | 7, _ => exact ctJ6_ntz7 l g lo ad
  | 8, _ => exact ctJ6_ntz8 l g lo ad
  | 9, _ => exact ctJ6_ntz9 l g lo ad
  | p + 10, hp => exact absurd hp (by omega)
