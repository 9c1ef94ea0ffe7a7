theorem fg_i8 (w : Int32) : nI (fg_nat w.toInt8.toInt32 % 256) = w &&& nI 255 := by
  apply Int32.toBitVec_inj.mp
  apply BitVec.eq_of_toNat_eq
  have h1 : (nI (fg_nat w.toInt8.toInt32 % 256)).toBitVec.toNat = fg_nat w.toInt8.toInt32 % 256 := by
    rw [nI_bv, BitVec.toNat_ofNat]
    exact Nat.mod_eq_of_lt (by have := Nat.mod_lt (fg_nat w.toInt8.toInt32) (show 0 < 256 by decide); omega)
  rw [h1]
  unfold fg_nat
  rw [Int8.toBitVec_toInt32, Int32.toBitVec_toInt8, Int32.toBitVec_and, BitVec.signExtend_eq_setWidth_of_le w.toBitVec (show 8 ≤ 32 by decide)]
  exact fg_bv8 w.toBitVec
theorem fg_byt_nat (x : Int32) (s : Nat) : nI (fg_nat (fg_byt x s) % 256) = (x >>> (nI s &&& 31)) &&& nI 255 := by
  have h1 : fg_byt x s = (x >>> (nI s &&& 31)).toInt8.toInt32.toInt8.toInt32 := rfl
  rw [h1, Int8.toInt8_toInt32]
  exact fg_i8 _
