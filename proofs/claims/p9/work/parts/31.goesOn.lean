set_option maxRecDepth 100000 in
theorem eq_goesOn (w : Int32) : fX0_goesOn w = fX1_goesOn w := by
  unfold fX0_goesOn fX1_goesOn
  rw [eq_kind]
  obtain ⟨j, hj, e⟩ := kd_j w
  rw [e]
  clear e
  revert j
  decide
