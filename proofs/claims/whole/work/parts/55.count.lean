/-! TWINS: bitCount is the number of bits -/
abbrev nN (x : Int32) : Nat := x.toBitVec.toNat
theorem us_n (x k : Int32) {j : Nat} (hk : ((k.toUInt32 &&& Int32.toUInt32 31).toBitVec % 32).toNat = j) : nN (us x k) = nN x / 2 ^ j := by
  show ((x.toUInt32 >>> (k.toUInt32 &&& Int32.toUInt32 31)).toBitVec).toNat = _
  rw [UInt32.toBitVec_shiftRight, BitVec.ushiftRight_eq', BitVec.toNat_ushiftRight, hk, Nat.shiftRight_eq_div_pow]
  rfl
theorem nN_and (x y : Int32) : nN (x &&& y) = nN x &&& nN y := by
  show (x &&& y).toBitVec.toNat = _
  rw [Int32.toBitVec_and, BitVec.toNat_and]
theorem nN_add (x y : Int32) (h : nN x + nN y < 2 ^ 32) : nN (x + y) = nN x + nN y := by
  show (x + y).toBitVec.toNat = _
  rw [Int32.toBitVec_add, BitVec.toNat_add, Nat.mod_eq_of_lt h]
theorem nN_sub (x y : Int32) (h : nN y ≤ nN x) : nN (x - y) = nN x - nN y := by
  show (x - y).toBitVec.toNat = _
  rw [Int32.toBitVec_sub, BitVec.toNat_sub]
  have := x.toBitVec.isLt
  have h2 : nN y ≤ nN x := h
  unfold nN at *
  omega
