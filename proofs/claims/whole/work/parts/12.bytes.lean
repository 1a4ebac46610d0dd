/-! THE BYTES of a long: the i-th of eight, the lowest is the 0th -/
def byteOf (x : Int64) (i : Nat) : Nat := x.toBitVec.toNat / 2 ^ (8 * i) % 256
theorem byteOf_lt (x : Int64) (i : Nat) : byteOf x i < 256 := Nat.mod_lt _ (by decide)
theorem sh_amt : ∀ i, i < 8 → ((Int32.toInt64 (nI (8 * i)) &&& 63).toBitVec.smod 64).toNat = 8 * i := by decide
theorem sh_bits (x : Int64) {i : Nat} (hi : i < 8) : (x >>> (Int32.toInt64 (nI (8 * i)) &&& 63)).toBitVec = x.toBitVec.sshiftRight (8 * i) := by
  rw [Int64.toBitVec_shiftRight, BitVec.sshiftRight_eq', sh_amt i hi]
theorem by_bits (x : Int64) {i j : Nat} (hi : i < 8) (hj : j < 8) : (x.toBitVec.sshiftRight (8 * i)).getLsbD j = (byteOf x i).testBit j := by
  rw [BitVec.getLsbD_sshiftRight]
  have h1 : ¬ 64 ≤ j := by omega
  have h2 : 8 * i + j < 64 := by omega
  simp only [h1, h2, decide_false, Bool.not_false, Bool.true_and, if_true]
  rw [byteOf, show (256 : Nat) = 2 ^ 8 from rfl, Nat.testBit_mod_two_pow, Nat.testBit_div_two_pow]
  simp only [hj, decide_true, Bool.true_and]
  rw [BitVec.getLsbD, Nat.add_comm]
theorem by_8 (x : Int64) {i : Nat} (hi : i < 8) : Int32.toInt8 (Int64.toInt32 (x >>> (Int32.toInt64 (nI (8 * i)) &&& 63))) = (nI (byteOf x i)).toInt8 := by
  apply Int8.toBitVec_inj.mp
  apply BitVec.eq_of_getLsbD_eq
  intro j hj
  have hj8 : j < 8 := hj
  have h32 : j < 32 := by omega
  rw [Int32.toBitVec_toInt8, Int64.toBitVec_toInt32, sh_bits x hi, Int32.toBitVec_toInt8]
  rw [show (nI (byteOf x i)).toBitVec = BitVec.ofNat 32 (byteOf x i) from rfl]
  simp only [BitVec.getLsbD_setWidth, BitVec.getLsbD_signExtend, BitVec.getLsbD_ofNat, by_bits x hi hj8, hj8, h32, decide_true, Bool.true_and, if_true, show j < 64 by omega]
theorem bo_nar (x : Int64) {i : Nat} (hi : i < 8) : vp_nar .byte (Int8.toInt32 (Int32.toInt8 (Int64.toInt32 (x >>> (Int32.toInt64 (nI (8 * i)) &&& 63))))) = sB (byteOf x i) := by
  rw [pk_vb, by_8 x hi]; rfl
theorem bo_int (x : Int64) {i : Nat} (hi : i < 8) : Int64.toInt32 ((x >>> (Int32.toInt64 (nI (8 * i)) &&& 63)) &&& 255) = nI (byteOf x i) := by
  apply Int32.toBitVec_inj.mp
  apply BitVec.eq_of_getLsbD_eq
  intro j hj
  have h64 : j < 64 := by omega
  rw [Int64.toBitVec_toInt32, Int64.toBitVec_and, sh_bits x hi]
  rw [show (nI (byteOf x i)).toBitVec = BitVec.ofNat 32 (byteOf x i) from rfl]
  have h255 : (255 : Int64).toBitVec.getLsbD j = decide (j < 8) := by
    rw [show (255 : Int64).toBitVec = BitVec.ofNat 64 (2 ^ 8 - 1) from rfl, BitVec.getLsbD_ofNat, Nat.testBit_two_pow_sub_one]
    simp [h64]
  simp only [BitVec.getLsbD_setWidth, BitVec.getLsbD_signExtend, BitVec.getLsbD_and, BitVec.getLsbD_ofNat, hj, decide_true, Bool.true_and, h255]
  by_cases h8 : j < 8
  · simp [by_bits x hi h8, h8]; omega
  · have : (byteOf x i).testBit j = false := Nat.testBit_lt_two_pow (Nat.lt_of_lt_of_le (byteOf_lt x i) (by rw [show (256 : Nat) = 2 ^ 8 from rfl]; exact Nat.pow_le_pow_right (by decide) (by omega)))
    simp [h8, this]; omega
