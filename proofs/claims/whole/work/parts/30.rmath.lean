/-! the reference's own ways of writing the same -/
theorem z_shb (x : Int32) {k : Nat} (hk : k ≤ 24) : (x >>> (nI k &&& 31)).toInt8 = ((x.toUInt32 >>> ((nI k).toUInt32 &&& Int32.toUInt32 31)).toInt32).toInt8 := by
  apply Int8.toBitVec_inj.1
  show (x >>> (nI k &&& 31)).toBitVec.signExtend 8 = ((x.toUInt32 >>> ((nI k).toUInt32 &&& Int32.toUInt32 31)).toInt32).toBitVec.signExtend 8
  rw [BitVec.signExtend_eq_setWidth_of_le _ (by decide), BitVec.signExtend_eq_setWidth_of_le _ (by decide)]
  apply BitVec.eq_of_getLsbD_eq
  intro i hi
  rw [BitVec.getLsbD_setWidth, BitVec.getLsbD_setWidth]
  congr 1
  have e1 : (x >>> (nI k &&& 31)).toBitVec.getLsbD i = x.toBitVec.getLsbD (k + i) := by
    rw [Int32.toBitVec_shiftRight]
    show (x.toBitVec.sshiftRight ((nI k &&& 31).toBitVec.smod 32).toNat).getLsbD i = _
    rw [zs_l k (by omega), BitVec.getLsbD_sshiftRight]
    simp [show i < 32 by omega, show k + i < 32 by omega, show ¬ 32 ≤ i by omega]
  have e2 : ((x.toUInt32 >>> ((nI k).toUInt32 &&& Int32.toUInt32 31)).toInt32).toBitVec.getLsbD i = x.toBitVec.getLsbD (k + i) := by
    show (x.toUInt32 >>> ((nI k).toUInt32 &&& Int32.toUInt32 31)).toBitVec.getLsbD i = x.toUInt32.toBitVec.getLsbD (k + i)
    rw [UInt32.toBitVec_shiftRight]
    show (x.toUInt32.toBitVec >>> (((nI k).toUInt32 &&& Int32.toUInt32 31).toBitVec % 32).toNat).getLsbD i = _
    rw [zs_u k (by omega), BitVec.getLsbD_ushiftRight]
  rw [e1, e2]
theorem z_and64 (x : Int32) : (x &&& 255).toInt64 = x.toInt64 &&& 255 := by
  apply Int64.toBitVec_inj.1
  show (x &&& 255).toBitVec.signExtend 64 = x.toBitVec.signExtend 64 &&& (255 : Int64).toBitVec
  have h255 : (255 : Int64).toBitVec = ((255 : Int32).toBitVec).signExtend 64 := by decide
  rw [h255, Int32.toBitVec_and, BitVec.signExtend_and]
