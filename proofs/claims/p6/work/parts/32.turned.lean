theorem tw_add (x y : BitVec 32) (h : x &&& y = 0#32) : x ^^^ y = x + y := by
  rw [BitVec.add_eq_or_of_and_eq_zero x y h]
  apply BitVec.eq_of_getLsbD_eq
  intro i hi
  have a := congrArg (fun z => z.getLsbD i) h
  simp only [BitVec.getLsbD_and, BitVec.getLsbD_zero] at a
  simp only [BitVec.getLsbD_xor, BitVec.getLsbD_or]
  revert a
  cases x.getLsbD i <;> cases y.getLsbD i <;> simp
theorem tw_sub (x y : BitVec 32) (h : x &&& y = y) : x ^^^ y = x - y := by
  have e : (x ^^^ y) + y = x := by
    have h0 : (x ^^^ y) &&& y = 0#32 := by
      apply BitVec.eq_of_getLsbD_eq
      intro i hi
      have a := congrArg (fun z => z.getLsbD i) h
      simp only [BitVec.getLsbD_and] at a
      simp only [BitVec.getLsbD_xor, BitVec.getLsbD_and, BitVec.getLsbD_zero]
      revert a
      cases x.getLsbD i <;> cases y.getLsbD i <;> simp
    rw [BitVec.add_eq_or_of_and_eq_zero _ _ h0]
    apply BitVec.eq_of_getLsbD_eq
    intro i hi
    have a := congrArg (fun z => z.getLsbD i) h
    simp only [BitVec.getLsbD_and] at a
    simp only [BitVec.getLsbD_xor, BitVec.getLsbD_or]
    revert a
    cases x.getLsbD i <;> cases y.getLsbD i <;> simp
  calc x ^^^ y = (x ^^^ y) + y - y := (BitVec.add_sub_cancel _ _).symm
    _ = x - y := by rw [e]
theorem tw_int (w b : Int32) (h : (w &&& b) = 0 ∨ (w &&& b) = b) : (w ^^^ b) = if (w &&& b) = 0 then w + b else w - b := by
  by_cases h0 : (w &&& b) = 0
  · rw [if_pos h0]
    exact Int32.toBitVec_inj.mp (tw_add _ _ (congrArg Int32.toBitVec h0))
  · rw [if_neg h0]
    rcases h with h | h
    · exact absurd h h0
    · exact Int32.toBitVec_inj.mp (tw_sub _ _ (congrArg Int32.toBitVec h))
theorem tw_1 (w : Int32) : (w &&& 1) = 0 ∨ (w &&& 1) = 1 := by
  rcases Nat.mod_two_eq_zero_or_one (w.toBitVec.toNat / 2 ^ 0) with h | h
  · exact Or.inl ((wd_mk 0 1 0 (by decide) (by decide)).mpr h)
  · exact Or.inr ((wd_mk 0 1 1 (by decide) (by decide)).mpr h)
theorem tw_24 (w : Int32) : (w &&& 16777216) = 0 ∨ (w &&& 16777216) = 16777216 := by
  rcases Nat.mod_two_eq_zero_or_one (w.toBitVec.toNat / 2 ^ 24) with h | h
  · exact Or.inl ((wd_mk 24 1 0 (by decide) (by decide)).mpr h)
  · exact Or.inr ((wd_mk 24 1 1 (by decide) (by decide)).mpr h)
theorem tw_0 (w : Int32) : (w &&& (0 : Int32)) = 0 := Int32.toBitVec_inj.mp BitVec.and_zero
theorem eq_turned (w : Int32) : fX0_turned w = fX1_turned w := by
  unfold fX0_turned fX1_turned
  rw [eq_kind]
  by_cases h1 : fX1_kind w = 14
  · rw [if_pos h1, if_pos h1]
    exact tw_int w 1 (tw_1 w)
  · rw [if_neg h1, if_neg h1]
    by_cases h2 : fX1_kind w = 15
    · rw [if_pos h2, if_pos h2]
      exact tw_int w 16777216 (tw_24 w)
    · rw [if_neg h2, if_neg h2]
      by_cases h3 : fX1_kind w = 16
      · rw [if_pos h3, if_pos h3]
        exact tw_int w 16777216 (tw_24 w)
      · rw [if_neg h3, if_neg h3, if_pos (tw_0 w), Int32.add_zero]
