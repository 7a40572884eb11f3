/-! the reference's input -/
theorem by_sh (b : BitVec 32) (s : Nat) (hs : s ≤ 24) : (b.sshiftRight s).signExtend 8 = (b >>> s).signExtend 8 := by
  apply BitVec.eq_of_getLsbD_eq
  intro i hi
  rw [BitVec.getLsbD_signExtend, BitVec.getLsbD_signExtend, BitVec.getLsbD_sshiftRight, BitVec.getLsbD_ushiftRight]
  have h1 : s + i < 32 := by omega
  have h2 : i < 32 := by omega
  have h3 : ¬ 32 ≤ i := by omega
  simp [h1, h2, h3, hi]
theorem by_24 (x : Int32) : (x >>> ((24 : Int32) &&& 31)).toInt8.toInt32 = (x.toUInt32 >>> ((24 : Int32).toUInt32 &&& Int32.toUInt32 31)).toInt32.toInt8.toInt32 := by
  congr 1
  apply Int8.toBitVec_inj.mp
  exact by_sh x.toBitVec 24 (by decide)
theorem by_16 (x : Int32) : (x >>> ((16 : Int32) &&& 31)).toInt8.toInt32 = (x.toUInt32 >>> ((16 : Int32).toUInt32 &&& Int32.toUInt32 31)).toInt32.toInt8.toInt32 := by
  congr 1
  apply Int8.toBitVec_inj.mp
  exact by_sh x.toBitVec 16 (by decide)
theorem by_8 (x : Int32) : (x >>> ((8 : Int32) &&& 31)).toInt8.toInt32 = (x.toUInt32 >>> ((8 : Int32).toUInt32 &&& Int32.toUInt32 31)).toInt32.toInt8.toInt32 := by
  congr 1
  apply Int8.toBitVec_inj.mp
  exact by_sh x.toBitVec 8 (by decide)
theorem by_0 (x : Int32) : (x >>> ((0 : Int32) &&& 31)).toInt8.toInt32 = x.toInt8.toInt32 := by
  congr 1
  apply Int8.toBitVec_inj.mp
  exact (by_sh x.toBitVec 0 (by decide)).trans (by rw [show x.toBitVec >>> 0 = x.toBitVec from BitVec.ushiftRight_zero _]; rfl)
