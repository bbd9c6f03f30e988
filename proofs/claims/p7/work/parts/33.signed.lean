theorem sb_26 (w : Int32) : fX0_signedBits w 0 26 = fX1_signed w 0 25 := by
  unfold fX0_signedBits fX1_signed
  rw [show ((((32 : Int32) - 0) - 26) &&& 31) = (((31 : Int32) - 25) &&& 31) from by decide, show (((32 : Int32) - 26) &&& 31) = ((((31 : Int32) - 25) + 0) &&& 31) from by decide]
theorem sb_19 (w : Int32) : fX0_signedBits w 5 19 = fX1_signed w 5 23 := by
  unfold fX0_signedBits fX1_signed
  rw [show ((((32 : Int32) - 5) - 19) &&& 31) = (((31 : Int32) - 23) &&& 31) from by decide, show (((32 : Int32) - 19) &&& 31) = ((((31 : Int32) - 23) + 5) &&& 31) from by decide]
theorem sb_14 (w : Int32) : fX0_signedBits w 5 14 = fX1_signed w 5 18 := by
  unfold fX0_signedBits fX1_signed
  rw [show ((((32 : Int32) - 5) - 14) &&& 31) = (((31 : Int32) - 18) &&& 31) from by decide, show (((32 : Int32) - 14) &&& 31) = ((((31 : Int32) - 18) + 5) &&& 31) from by decide]
