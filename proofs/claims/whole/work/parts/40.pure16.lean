/-- a number cut to the sheet's bits, as the class does it -/
def nrC (b : Int32) (v : Int64) : Int64 := if b = nI 8 then v.toInt32.toInt8.toInt32.toInt64 else if b = nI 16 then v.toInt32.toInt16.toInt32.toInt64 else v
theorem nr_8 (v : Int64) : v.toInt32.toInt8.toInt32.toInt64 = (v <<< ((nI 56).toInt64 &&& 63)) >>> ((nI 56).toInt64 &&& 63) := by
  rw [show (nI 56).toInt64 &&& 63 = 56 by decide +kernel]
  apply Int64.toBitVec_inj.mp
  simp only [Int32.toBitVec_toInt64, Int8.toBitVec_toInt32, Int32.toBitVec_toInt8, Int64.toBitVec_toInt32, Int64.toBitVec_shiftRight, Int64.toBitVec_shiftLeft]
  apply BitVec.eq_of_getLsbD_eq
  intro i hi
  have e7 : (BitVec.signExtend 8 (BitVec.signExtend 32 v.toBitVec))[7] = v.toBitVec[7] := by simp [BitVec.getElem_signExtend]
  have e31 : (BitVec.signExtend 32 (BitVec.signExtend 8 (BitVec.signExtend 32 v.toBitVec)))[31] = v.toBitVec[7] := by simp [BitVec.getElem_signExtend, BitVec.msb_eq_getLsbD_last]
  simp [BitVec.getLsbD_signExtend, BitVec.getLsbD_sshiftRight, BitVec.msb_eq_getLsbD_last]
  rw [e31, e7]
  by_cases h8 : i < 8
  · simp [h8, show i < 32 by omega, show 56 + i < 64 by omega, hi, show ¬ 64 ≤ i by omega]
  · by_cases h32 : i < 32
    · simp [h8, h32, show ¬ 56 + i < 64 by omega, hi, show ¬ 64 ≤ i by omega]
    · simp [h8, h32, show ¬ 56 + i < 64 by omega, hi, show ¬ 64 ≤ i by omega]
theorem nr_16 (v : Int64) : v.toInt32.toInt16.toInt32.toInt64 = (v <<< ((nI 48).toInt64 &&& 63)) >>> ((nI 48).toInt64 &&& 63) := by
  rw [show (nI 48).toInt64 &&& 63 = 48 by decide +kernel]
  apply Int64.toBitVec_inj.mp
  simp only [Int32.toBitVec_toInt64, Int16.toBitVec_toInt32, Int32.toBitVec_toInt16, Int64.toBitVec_toInt32, Int64.toBitVec_shiftRight, Int64.toBitVec_shiftLeft]
  apply BitVec.eq_of_getLsbD_eq
  intro i hi
  have e7 : (BitVec.signExtend 16 (BitVec.signExtend 32 v.toBitVec))[15] = v.toBitVec[15] := by simp [BitVec.getElem_signExtend]
  have e31 : (BitVec.signExtend 32 (BitVec.signExtend 16 (BitVec.signExtend 32 v.toBitVec)))[31] = v.toBitVec[15] := by simp [BitVec.getElem_signExtend, BitVec.msb_eq_getLsbD_last]
  simp [BitVec.getLsbD_signExtend, BitVec.getLsbD_sshiftRight, BitVec.msb_eq_getLsbD_last]
  rw [e31, e7]
  by_cases h8 : i < 16
  · simp [h8, show i < 32 by omega, show 48 + i < 64 by omega, hi, show ¬ 64 ≤ i by omega]
  · by_cases h32 : i < 32
    · simp [h8, h32, show ¬ 48 + i < 64 by omega, hi, show ¬ 64 ≤ i by omega]
    · simp [h8, h32, show ¬ 48 + i < 64 by omega, hi, show ¬ 64 ≤ i by omega]
theorem nrC_M (b : Int32) (v : Int64) : nrC b v = nrM b v := by
  unfold nrC nrM
  by_cases h : b = nI 8
  · rw [if_pos h, if_pos h, nr_8]
  · rw [if_neg h, if_neg h]
    by_cases h2 : b = nI 16
    · rw [if_pos h2, if_pos h2, nr_16]
    · rw [if_neg h2, if_neg h2]
