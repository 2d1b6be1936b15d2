/-! the class: what is fed -/
theorem fd_bv (y : BitVec 64) (s : Nat) (hs : s ≤ 56) : ((y >>> s).signExtend 32).signExtend 8 = (((y.sshiftRight s) &&& 255#64).signExtend 32).signExtend 8 := by
  apply BitVec.eq_of_getLsbD_eq
  intro i hi
  rw [BitVec.signExtend_eq_setWidth_of_le _ (by decide), BitVec.signExtend_eq_setWidth_of_le _ (by decide), BitVec.signExtend_eq_setWidth_of_le _ (by decide), BitVec.signExtend_eq_setWidth_of_le _ (by decide)]
  have h255 : (255#64).getLsbD i = true := by
    rcases (show i = 0 ∨ i = 1 ∨ i = 2 ∨ i = 3 ∨ i = 4 ∨ i = 5 ∨ i = 6 ∨ i = 7 by omega) with rfl | rfl | rfl | rfl | rfl | rfl | rfl | rfl <;> rfl
  rw [BitVec.getLsbD_setWidth, BitVec.getLsbD_setWidth, BitVec.getLsbD_setWidth, BitVec.getLsbD_setWidth, BitVec.getLsbD_ushiftRight, BitVec.getLsbD_and, BitVec.getLsbD_sshiftRight, h255]
  simp [show i < 64 by omega, show s + i < 64 by omega, show ¬ 64 ≤ i by omega, hi]
theorem fd_by (x : Int64) {k : Nat} (hk : k < 8) : ((x.toUInt64 >>> ((nI (8 * k)).toInt64.toUInt64 &&& Int64.toUInt64 63)).toInt64).toInt32.toInt8 = (x >>> ((nI (8 * k)).toInt64 &&& 63) &&& 255).toInt32.toInt8 := by
  apply Int8.toBitVec_inj.mp
  rw [Int32.toBitVec_toInt8, Int64.toBitVec_toInt32, Int32.toBitVec_toInt8, Int64.toBitVec_toInt32, Int64.toBitVec_and, UInt64.toBitVec_toInt64, UInt64.toBitVec_shiftRight, Int64.toBitVec_shiftRight]
  rcases (show k = 0 ∨ k = 1 ∨ k = 2 ∨ k = 3 ∨ k = 4 ∨ k = 5 ∨ k = 6 ∨ k = 7 by omega) with rfl | rfl | rfl | rfl | rfl | rfl | rfl | rfl
  · exact fd_bv x.toBitVec 0 (by omega)
  · exact fd_bv x.toBitVec 8 (by omega)
  · exact fd_bv x.toBitVec 16 (by omega)
  · exact fd_bv x.toBitVec 24 (by omega)
  · exact fd_bv x.toBitVec 32 (by omega)
  · exact fd_bv x.toBitVec 40 (by omega)
  · exact fd_bv x.toBitVec 48 (by omega)
  · exact fd_bv x.toBitVec 56 (by omega)
