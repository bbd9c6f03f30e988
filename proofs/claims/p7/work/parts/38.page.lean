theorem pg_12 (x : Int64) : x <<< (((12 : Int32)).toInt64 &&& 63) = x * 4096 := by
  apply Int64.toBitVec_inj.mp
  show x.toBitVec <<< ((((12 : Int32)).toInt64 &&& 63).toBitVec.smod 64) = x.toBitVec * 4096#64
  rw [show ((((12 : Int32)).toInt64 &&& 63).toBitVec.smod 64) = 12#64 from by decide]
  apply BitVec.eq_of_toNat_eq
  rw [BitVec.shiftLeft_eq', BitVec.toNat_shiftLeft, BitVec.toNat_mul, Nat.shiftLeft_eq]
  rfl
theorem pg_shr (a : Int64) : (a >>> (((12 : Int32)).toInt64 &&& 63)).toInt = a.toInt / 4096 := by
  show (a.toBitVec.sshiftRight' ((((12 : Int32)).toInt64 &&& 63).toBitVec.smod 64)).toInt = _
  rw [show ((((12 : Int32)).toInt64 &&& 63).toBitVec.smod 64) = 12#64 from by decide, BitVec.toInt_sshiftRight']
  exact Int.shiftRight_eq_div_pow a.toInt 12
theorem pg_and (a : Int64) : (a &&& 4095).toInt = a.toInt % 4096 := by
  have e : (a &&& 4095).toBitVec.toNat = a.toBitVec.toNat % 4096 := by
    rw [Int64.toBitVec_and, BitVec.toNat_and]
    exact Nat.and_two_pow_sub_one_eq_mod a.toBitVec.toNat 12
  rw [rz_i (a &&& 4095), rz_i a, e]
  have hn := a.toBitVec.isLt
  split <;> split <;> omega
theorem pg_low (a : Int64) : (a >>> (((12 : Int32)).toInt64 &&& 63)) * 4096 = a - (a &&& 4095) := by
  have h1 := a.toInt_lt
  have h2 := a.le_toInt
  apply Int64.toInt_inj.mp
  rw [Int64.toInt_mul, Int64.toInt_sub, pg_shr, pg_and, show (4096 : Int64).toInt = 4096 from by decide, Int.bmod_eq_of_le_mul_two (by omega) (by omega), Int.bmod_eq_of_le_mul_two (by omega) (by omega)]
  omega
theorem pg_b (w : Int32) : fX0_bits w (29 : Int32) (2 : Int32) = fX1_bits w (29 : Int32) (30 : Int32) := (wd_b0 w _ _ 29 2 (by decide) (by decide)).trans (wd_b1 w _ _ 29 1 2 (by decide) (by decide) (by decide)).symm
theorem eq_page (w : Int32) (a : Int64) : fX0_page w a = fX1_page w a := by
  unfold fX0_page fX1_page
  rw [eq_kind]
  by_cases h : fX1_kind w = 5
  · rw [if_pos h, if_pos h, pg_12, Int64.add_mul, pg_low, sb_19, pg_b, Int64.mul_comm _ (4 : Int64), Int64.mul_comm _ (4096 : Int64)]
  · rw [if_neg h, if_neg h]
