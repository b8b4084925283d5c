/-! A byte kept as a byte. -/
theorem byt_nar (v : Int32) : byt (v.toInt8.toInt32) = byt v := by
  have e : (v.toInt8.toInt32 &&& nN 255) = (v &&& nN 255) := by
    refine Int32.toBitVec_inj.mp ?_
    rw [Int32.toBitVec_and, Int32.toBitVec_and]
    refine BitVec.eq_of_getLsbD_eq fun i hi => ?_
    rw [BitVec.getLsbD_and, BitVec.getLsbD_and]
    by_cases z : i < 8
    · have : (v.toInt8.toInt32).toBitVec.getLsbD i = v.toBitVec.getLsbD i := by
        rw [Int8.toBitVec_toInt32, Int32.toBitVec_toInt8, BitVec.getLsbD_signExtend, BitVec.getLsbD_signExtend]
        simp only [hi, z, if_true, decide_true, Bool.true_and, show i < 32 from hi]
      rw [this]
    · have : (nN 255).toBitVec.getLsbD i = false := by
        have h2 : 8 ≤ i := by omega
        have h3 : (nN 255).toBitVec = BitVec.ofNat 32 255 := by decide
        rw [h3, BitVec.getLsbD_ofNat]
        have : Nat.testBit 255 i = false := Nat.testBit_lt_two_pow (Nat.lt_of_lt_of_le (show 255 < 2 ^ 8 by decide) (Nat.pow_le_pow_right (by decide) h2))
        rw [this, Bool.and_false]
      rw [this, Bool.and_false, Bool.and_false]
  unfold byt
  rw [e]
