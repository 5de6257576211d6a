theorem zn_b8 (v : Int32) : (v <<< ((24 : Int32) &&& 31)) >>> ((24 : Int32) &&& 31) = v.toInt8.toInt32 := by
  apply Int32.toBitVec_inj.mp
  rw [Int32.toBitVec_shiftRight, Int32.toBitVec_shiftLeft, Int8.toBitVec_toInt32, Int32.toBitVec_toInt8, show (((24 : Int32) &&& 31).toBitVec.smod 32) = 24#32 from by decide]
  apply BitVec.eq_of_getLsbD_eq
  intro i hi
  rw [BitVec.sshiftRight_eq', BitVec.getLsbD_sshiftRight, BitVec.getLsbD_signExtend]
  simp only [BitVec.shiftLeft_eq', BitVec.getLsbD_shiftLeft, BitVec.msb_eq_getLsbD_last, BitVec.getLsbD_signExtend, BitVec.getLsbD_setWidth]
  simp
  have h2 : ¬ 32 ≤ i := by omega
  have h3 : ¬ 24 + i < 24 := by omega
  by_cases h : i < 8
  · have h1 : 24 + i < 32 := by omega
    simp [h, h1, h2, h3, hi]
  · have h1 : ¬ 24 + i < 32 := by omega
    simp [h, h1, h2, h3, hi]
theorem zn_b16 (v : Int32) : (v <<< ((16 : Int32) &&& 31)) >>> ((16 : Int32) &&& 31) = v.toInt16.toInt32 := by
  apply Int32.toBitVec_inj.mp
  rw [Int32.toBitVec_shiftRight, Int32.toBitVec_shiftLeft, Int16.toBitVec_toInt32, Int32.toBitVec_toInt16, show (((16 : Int32) &&& 31).toBitVec.smod 32) = 16#32 from by decide]
  apply BitVec.eq_of_getLsbD_eq
  intro i hi
  rw [BitVec.sshiftRight_eq', BitVec.getLsbD_sshiftRight, BitVec.getLsbD_signExtend]
  simp only [BitVec.shiftLeft_eq', BitVec.getLsbD_shiftLeft, BitVec.msb_eq_getLsbD_last, BitVec.getLsbD_signExtend, BitVec.getLsbD_setWidth]
  simp
  have h2 : ¬ 32 ≤ i := by omega
  have h3 : ¬ 16 + i < 16 := by omega
  by_cases h : i < 16
  · have h1 : 16 + i < 32 := by omega
    simp [h, h1, h2, h3, hi]
  · have h1 : ¬ 16 + i < 32 := by omega
    simp [h, h1, h2, h3, hi]

