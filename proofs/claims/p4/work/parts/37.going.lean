theorem go_div (b : Int32) (h : (b.toInt64 &&& 3) = 0) : b >>> ((2 : Int32) &&& 31) = b / 4 := by
  have h4 := (rz_n b.toInt64).mp h
  rw [Int32.toInt_toInt64] at h4
  apply Int32.toInt_inj.mp
  rw [pk_shr b _ 2 (by decide), Int32.toInt_div_of_ne_right b 4 (by decide), show (4 : Int32).toInt = 4 from by decide, Int.shiftRight_eq_div_pow]
  have ht := rz_t b.toInt
  show b.toInt / 4 = _
  omega
theorem go_bv (x F Y O : BitVec 32) (hO : ∀ i, i < 32 → O.getLsbD i = true) : (x &&& (F ^^^ O)) ||| (Y &&& F) = (x - (x &&& F)) + (Y &&& F) := by
  have h0 : (x &&& (F ^^^ O)) &&& (x &&& F) = 0#32 := by
    apply BitVec.eq_of_getLsbD_eq
    intro i hi
    have a := hO i hi
    simp only [BitVec.getLsbD_and, BitVec.getLsbD_xor, BitVec.getLsbD_zero, a]
    cases x.getLsbD i <;> cases F.getLsbD i <;> rfl
  have h1 : (x &&& (F ^^^ O)) &&& (Y &&& F) = 0#32 := by
    apply BitVec.eq_of_getLsbD_eq
    intro i hi
    have a := hO i hi
    simp only [BitVec.getLsbD_and, BitVec.getLsbD_xor, BitVec.getLsbD_zero, a]
    cases x.getLsbD i <;> cases F.getLsbD i <;> cases Y.getLsbD i <;> rfl
  have e : (x &&& (F ^^^ O)) + (x &&& F) = x := by
    rw [BitVec.add_eq_or_of_and_eq_zero _ _ h0]
    apply BitVec.eq_of_getLsbD_eq
    intro i hi
    have a := hO i hi
    simp only [BitVec.getLsbD_and, BitVec.getLsbD_xor, BitVec.getLsbD_or, a]
    cases x.getLsbD i <;> cases F.getLsbD i <;> rfl
  have e2 : x - (x &&& F) = x &&& (F ^^^ O) := by
    have := BitVec.add_sub_cancel (x &&& (F ^^^ O)) (x &&& F)
    rw [e] at this
    exact this
  rw [e2, BitVec.add_eq_or_of_and_eq_zero _ _ h1]
theorem go_mix (x F Y : Int32) : ((x &&& (F ^^^ (-1 : Int32))) ||| (Y &&& F)) = ((x - (x &&& F)) + (Y &&& F)) :=
  Int32.toBitVec_inj.mp (go_bv x.toBitVec F.toBitVec Y.toBitVec (-1 : Int32).toBitVec (by decide))
theorem go_sh (x y s : Int32) : ((x <<< s) &&& (y <<< s)) = ((x &&& y) <<< s) :=
  Int32.toBitVec_inj.mp (BitVec.shiftLeft_and_distrib x.toBitVec y.toBitVec (s.toBitVec.smod 32).toNat).symm
theorem go_in {k : Int32} {d : Int64} (h : ¬ fX0_isWithinReach k d = 0) : (d &&& 3) = 0 ∧ ¬ fX0_isGoing k = 0 := by
  unfold fX0_isWithinReach at h
  by_cases a : fX0_isGoing k = 0
  · rw [if_pos a] at h
    exact absurd rfl h
  · rw [if_neg a] at h
    by_cases b : lg_cmp (d &&& 3) 0 = 0
    · exact ⟨(lg_cmp_eq _ _).mp b, a⟩
    · rw [if_neg b] at h
      exact absurd rfl h
set_option maxHeartbeats 4000000 in
set_option maxRecDepth 100000 in
theorem eq_going (w b : Int32) : fX0_going w b = fX1_going w b := by
  have er : fX1_reaches w b.toInt64 = fX0_isWithinReach (fX0_kind w) b.toInt64 := (eq_reaches w b.toInt64).symm
  unfold fX0_going fX1_going
  rw [er, eq_kind]
  by_cases h : fX0_isWithinReach (fX1_kind w) b.toInt64 = 0
  · rw [if_pos h, if_pos h]
  · rw [if_neg h, if_neg h]
    obtain ⟨h3, hg⟩ := go_in h
    clear h er
    obtain ⟨j, hj, e⟩ := kd_j w
    rw [e] at hg ⊢
    clear e
    rw [go_div b h3]
    clear h3
    rcases (show j = 0 ∨ j = 1 ∨ j = 2 ∨ j = 3 ∨ j = 4 ∨ j = 5 ∨ j = 6 ∨ j = 7 ∨ j = 8 ∨ j = 9 ∨ j = 10 ∨ j = 11 ∨ j = 12 ∨ j = 13 ∨ j = 14 ∨ j = 15 ∨ j = 16 ∨ j = 17 ∨ j = 18 ∨ j = 19 ∨ j = 20 ∨ j = 21 from by omega) with rfl | rfl | rfl | rfl | rfl | rfl | rfl | rfl | rfl | rfl | rfl | rfl | rfl | rfl | rfl | rfl | rfl | rfl | rfl | rfl | rfl | rfl
    · exact absurd (by decide) hg
    · exact absurd (by decide) hg
    · exact absurd (by decide) hg
    · exact absurd (by decide) hg
    · exact absurd (by decide) hg
    · exact absurd (by decide) hg
    · exact absurd (by decide) hg
    · exact absurd (by decide) hg
    · exact absurd (by decide) hg
    · exact absurd (by decide) hg
    · exact absurd (by decide) hg
    · exact absurd (by decide) hg
    · rw [if_neg (by decide), show fX0_distancePlace (nI 12) = 0 from by decide, show fX0_lowBits (fX0_distanceWidth (nI 12)) = 67108863 from by decide, show (fX1_reach (nI 12) / 2 - 1) = 67108863 from by decide, go_mix, go_sh]
    · rw [if_neg (by decide), show fX0_distancePlace (nI 13) = 0 from by decide, show fX0_lowBits (fX0_distanceWidth (nI 13)) = 67108863 from by decide, show (fX1_reach (nI 13) / 2 - 1) = 67108863 from by decide, go_mix, go_sh]
    · rw [if_pos (by decide), show fX0_distancePlace (nI 14) = 5 from by decide, show fX0_lowBits (fX0_distanceWidth (nI 14)) = 524287 from by decide, show (fX1_reach (nI 14) / 2 - 1) = 524287 from by decide, go_mix, go_sh]
    · rw [if_pos (by decide), show fX0_distancePlace (nI 15) = 5 from by decide, show fX0_lowBits (fX0_distanceWidth (nI 15)) = 524287 from by decide, show (fX1_reach (nI 15) / 2 - 1) = 524287 from by decide, go_mix, go_sh]
    · rw [if_pos (by decide), show fX0_distancePlace (nI 16) = 5 from by decide, show fX0_lowBits (fX0_distanceWidth (nI 16)) = 16383 from by decide, show (fX1_reach (nI 16) / 2 - 1) = 16383 from by decide, go_mix, go_sh]
    · exact absurd (by decide) hg
    · exact absurd (by decide) hg
    · exact absurd (by decide) hg
    · exact absurd (by decide) hg
    · exact absurd (by decide) hg
