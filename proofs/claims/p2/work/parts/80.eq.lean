theorem eq_kind (w : Int32) : fX0_kind w = fX1_kind w := by
  sorry
