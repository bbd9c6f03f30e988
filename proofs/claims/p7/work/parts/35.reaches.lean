theorem rz_i (d : Int64) : d.toInt = if 2 * d.toBitVec.toNat < 18446744073709551616 then (d.toBitVec.toNat : Int) else (d.toBitVec.toNat : Int) - 18446744073709551616 := BitVec.toInt_eq_toNat_cond d.toBitVec
theorem rz_n (d : Int64) : (d &&& 3) = 0 ↔ d.toInt % 4 = 0 := by
  have e : (d &&& 3).toBitVec.toNat = d.toBitVec.toNat % 4 := by
    rw [Int64.toBitVec_and, BitVec.toNat_and]
    exact Nat.and_two_pow_sub_one_eq_mod d.toBitVec.toNat 2
  have hd : (d &&& 3) = 0 ↔ d.toBitVec.toNat % 4 = 0 := by
    rw [← e]
    constructor
    · intro h
      rw [h]
      rfl
    · intro h
      exact Int64.toBitVec_inj.mp (BitVec.eq_of_toNat_eq h)
  rw [hd, rz_i]
  split <;> omega
theorem rz_t (z : Int) : (0 ≤ z ∧ z.tdiv 4 = z / 4) ∨ (z < 0 ∧ z.tdiv 4 = -((-z) / 4)) := by
  by_cases h : 0 ≤ z
  · exact Or.inl ⟨h, Int.tdiv_eq_ediv_of_nonneg h⟩
  · refine Or.inr ⟨by omega, ?_⟩
    rw [← Int.tdiv_eq_ediv_of_nonneg (show 0 ≤ -z from by omega), Int.neg_tdiv, Int.neg_neg]
theorem rz_s (d : Int64) : (d - d / 4 * 4) = 0 ↔ d.toInt % 4 = 0 := by
  have h1 := d.toInt_lt
  have h2 := d.le_toInt
  have ed : (d / 4).toInt = d.toInt.tdiv 4 := Int64.toInt_div_of_ne_right d 4 (by decide)
  have ht := rz_t d.toInt
  generalize hz : d.toInt = z at *
  generalize hq : z.tdiv 4 = q at *
  have em : (d / 4 * 4).toInt = q * 4 := by
    rw [Int64.toInt_mul, ed, show (4 : Int64).toInt = 4 from by decide]
    exact Int.bmod_eq_of_le_mul_two (by omega) (by omega)
  have es : (d - d / 4 * 4).toInt = z - q * 4 := by
    rw [Int64.toInt_sub, em, hz]
    exact Int.bmod_eq_of_le_mul_two (by omega) (by omega)
  rw [← Int64.toInt_inj, es, show (0 : Int64).toInt = 0 from by decide]
  omega
theorem rz_e (d : Int64) : (d &&& 3) = 0 ↔ (d - d / 4 * 4) = 0 := (rz_n d).trans (rz_s d).symm
set_option maxHeartbeats 4000000 in
set_option maxRecDepth 100000 in
theorem eq_reaches (w : Int32) (d : Int64) : fX0_reaches w d = fX1_reaches w d := by
  unfold fX0_reaches fX0_isWithinReach fX1_reaches
  rw [eq_kind]
  obtain ⟨j, hj, e⟩ := kd_j w
  rw [e]
  clear e
  simp only [lg_cmp_eq, rz_e]
  rcases (show j = 0 ∨ j = 1 ∨ j = 2 ∨ j = 3 ∨ j = 4 ∨ j = 5 ∨ j = 6 ∨ j = 7 ∨ j = 8 ∨ j = 9 ∨ j = 10 ∨ j = 11 ∨ j = 12 ∨ j = 13 ∨ j = 14 ∨ j = 15 ∨ j = 16 ∨ j = 17 ∨ j = 18 ∨ j = 19 ∨ j = 20 ∨ j = 21 from by omega) with rfl | rfl | rfl | rfl | rfl | rfl | rfl | rfl | rfl | rfl | rfl | rfl | rfl | rfl | rfl | rfl | rfl | rfl | rfl | rfl | rfl | rfl
  · rw [if_pos (show fX0_isGoing (nI 0) = 0 from by decide), if_pos (show fX1_reach (nI 0) ≤ 0 from by decide)]
  · rw [if_pos (show fX0_isGoing (nI 1) = 0 from by decide), if_pos (show fX1_reach (nI 1) ≤ 0 from by decide)]
  · rw [if_pos (show fX0_isGoing (nI 2) = 0 from by decide), if_pos (show fX1_reach (nI 2) ≤ 0 from by decide)]
  · rw [if_pos (show fX0_isGoing (nI 3) = 0 from by decide), if_pos (show fX1_reach (nI 3) ≤ 0 from by decide)]
  · rw [if_pos (show fX0_isGoing (nI 4) = 0 from by decide), if_pos (show fX1_reach (nI 4) ≤ 0 from by decide)]
  · rw [if_pos (show fX0_isGoing (nI 5) = 0 from by decide), if_pos (show fX1_reach (nI 5) ≤ 0 from by decide)]
  · rw [if_pos (show fX0_isGoing (nI 6) = 0 from by decide), if_pos (show fX1_reach (nI 6) ≤ 0 from by decide)]
  · rw [if_pos (show fX0_isGoing (nI 7) = 0 from by decide), if_pos (show fX1_reach (nI 7) ≤ 0 from by decide)]
  · rw [if_pos (show fX0_isGoing (nI 8) = 0 from by decide), if_pos (show fX1_reach (nI 8) ≤ 0 from by decide)]
  · rw [if_pos (show fX0_isGoing (nI 9) = 0 from by decide), if_pos (show fX1_reach (nI 9) ≤ 0 from by decide)]
  · rw [if_pos (show fX0_isGoing (nI 10) = 0 from by decide), if_pos (show fX1_reach (nI 10) ≤ 0 from by decide)]
  · rw [if_pos (show fX0_isGoing (nI 11) = 0 from by decide), if_pos (show fX1_reach (nI 11) ≤ 0 from by decide)]
  · rw [if_neg (show ¬ fX0_isGoing (nI 12) = 0 from by decide), if_neg (show ¬ fX1_reach (nI 12) ≤ 0 from by decide), show (-((1 : Int64) <<< (((fX0_distanceWidth (nI 12)) + (1 : Int32)).toInt64 &&& 63))) = ((-(fX1_reach (nI 12))).toInt64) from by decide, show ((1 : Int64) <<< (((fX0_distanceWidth (nI 12)) + (1 : Int32)).toInt64 &&& 63)) = ((fX1_reach (nI 12)).toInt64) from by decide]
  · rw [if_neg (show ¬ fX0_isGoing (nI 13) = 0 from by decide), if_neg (show ¬ fX1_reach (nI 13) ≤ 0 from by decide), show (-((1 : Int64) <<< (((fX0_distanceWidth (nI 13)) + (1 : Int32)).toInt64 &&& 63))) = ((-(fX1_reach (nI 13))).toInt64) from by decide, show ((1 : Int64) <<< (((fX0_distanceWidth (nI 13)) + (1 : Int32)).toInt64 &&& 63)) = ((fX1_reach (nI 13)).toInt64) from by decide]
  · rw [if_neg (show ¬ fX0_isGoing (nI 14) = 0 from by decide), if_neg (show ¬ fX1_reach (nI 14) ≤ 0 from by decide), show (-((1 : Int64) <<< (((fX0_distanceWidth (nI 14)) + (1 : Int32)).toInt64 &&& 63))) = ((-(fX1_reach (nI 14))).toInt64) from by decide, show ((1 : Int64) <<< (((fX0_distanceWidth (nI 14)) + (1 : Int32)).toInt64 &&& 63)) = ((fX1_reach (nI 14)).toInt64) from by decide]
  · rw [if_neg (show ¬ fX0_isGoing (nI 15) = 0 from by decide), if_neg (show ¬ fX1_reach (nI 15) ≤ 0 from by decide), show (-((1 : Int64) <<< (((fX0_distanceWidth (nI 15)) + (1 : Int32)).toInt64 &&& 63))) = ((-(fX1_reach (nI 15))).toInt64) from by decide, show ((1 : Int64) <<< (((fX0_distanceWidth (nI 15)) + (1 : Int32)).toInt64 &&& 63)) = ((fX1_reach (nI 15)).toInt64) from by decide]
  · rw [if_neg (show ¬ fX0_isGoing (nI 16) = 0 from by decide), if_neg (show ¬ fX1_reach (nI 16) ≤ 0 from by decide), show (-((1 : Int64) <<< (((fX0_distanceWidth (nI 16)) + (1 : Int32)).toInt64 &&& 63))) = ((-(fX1_reach (nI 16))).toInt64) from by decide, show ((1 : Int64) <<< (((fX0_distanceWidth (nI 16)) + (1 : Int32)).toInt64 &&& 63)) = ((fX1_reach (nI 16)).toInt64) from by decide]
  · rw [if_pos (show fX0_isGoing (nI 17) = 0 from by decide), if_pos (show fX1_reach (nI 17) ≤ 0 from by decide)]
  · rw [if_pos (show fX0_isGoing (nI 18) = 0 from by decide), if_pos (show fX1_reach (nI 18) ≤ 0 from by decide)]
  · rw [if_pos (show fX0_isGoing (nI 19) = 0 from by decide), if_pos (show fX1_reach (nI 19) ≤ 0 from by decide)]
  · rw [if_pos (show fX0_isGoing (nI 20) = 0 from by decide), if_pos (show fX1_reach (nI 20) ≤ 0 from by decide)]
  · rw [if_pos (show fX0_isGoing (nI 21) = 0 from by decide), if_pos (show fX1_reach (nI 21) ≤ 0 from by decide)]
