set_option maxHeartbeats 4000000 in
set_option maxRecDepth 100000 in
theorem eq_by (w : Int32) : fX0_by w = fX1_by w := by
  unfold fX0_by fX1_by
  rw [eq_kind]
  obtain ⟨j, hj, e⟩ := kd_j w
  rw [e]
  clear e
  rcases (show j = 0 ∨ j = 1 ∨ j = 2 ∨ j = 3 ∨ j = 4 ∨ j = 5 ∨ j = 6 ∨ j = 7 ∨ j = 8 ∨ j = 9 ∨ j = 10 ∨ j = 11 ∨ j = 12 ∨ j = 13 ∨ j = 14 ∨ j = 15 ∨ j = 16 ∨ j = 17 ∨ j = 18 ∨ j = 19 ∨ j = 20 ∨ j = 21 from by omega) with rfl | rfl | rfl | rfl | rfl | rfl | rfl | rfl | rfl | rfl | rfl | rfl | rfl | rfl | rfl | rfl | rfl | rfl | rfl | rfl | rfl | rfl
  · rw [if_pos (show fX0_isGoing (nI 0) = 0 from by decide), if_pos (by decide)]
  · rw [if_pos (show fX0_isGoing (nI 1) = 0 from by decide), if_pos (by decide)]
  · rw [if_pos (show fX0_isGoing (nI 2) = 0 from by decide), if_pos (by decide)]
  · rw [if_pos (show fX0_isGoing (nI 3) = 0 from by decide), if_pos (by decide)]
  · rw [if_pos (show fX0_isGoing (nI 4) = 0 from by decide), if_pos (by decide)]
  · rw [if_pos (show fX0_isGoing (nI 5) = 0 from by decide), if_pos (by decide)]
  · rw [if_pos (show fX0_isGoing (nI 6) = 0 from by decide), if_pos (by decide)]
  · rw [if_pos (show fX0_isGoing (nI 7) = 0 from by decide), if_pos (by decide)]
  · rw [if_pos (show fX0_isGoing (nI 8) = 0 from by decide), if_pos (by decide)]
  · rw [if_pos (show fX0_isGoing (nI 9) = 0 from by decide), if_pos (by decide)]
  · rw [if_pos (show fX0_isGoing (nI 10) = 0 from by decide), if_pos (by decide)]
  · rw [if_pos (show fX0_isGoing (nI 11) = 0 from by decide), if_pos (by decide)]
  · rw [if_neg (show ¬ fX0_isGoing (nI 12) = 0 from by decide), show fX0_distancePlace (nI 12) = 0 from by decide, show fX0_distanceWidth (nI 12) = 26 from by decide, if_neg (by decide), if_pos (by decide), if_neg (by decide), sb_26, Int32.mul_comm]
  · rw [if_neg (show ¬ fX0_isGoing (nI 13) = 0 from by decide), show fX0_distancePlace (nI 13) = 0 from by decide, show fX0_distanceWidth (nI 13) = 26 from by decide, if_neg (by decide), if_pos (by decide), if_neg (by decide), sb_26, Int32.mul_comm]
  · rw [if_neg (show ¬ fX0_isGoing (nI 14) = 0 from by decide), show fX0_distancePlace (nI 14) = 5 from by decide, show fX0_distanceWidth (nI 14) = 19 from by decide, if_neg (by decide), if_pos (by decide), if_pos (by decide), if_neg (by decide), sb_19, Int32.mul_comm]
  · rw [if_neg (show ¬ fX0_isGoing (nI 15) = 0 from by decide), show fX0_distancePlace (nI 15) = 5 from by decide, show fX0_distanceWidth (nI 15) = 19 from by decide, if_neg (by decide), if_pos (by decide), if_pos (by decide), if_neg (by decide), sb_19, Int32.mul_comm]
  · rw [if_neg (show ¬ fX0_isGoing (nI 16) = 0 from by decide), show fX0_distancePlace (nI 16) = 5 from by decide, show fX0_distanceWidth (nI 16) = 14 from by decide, if_neg (by decide), if_pos (by decide), if_pos (by decide), if_pos (by decide), sb_14, Int32.mul_comm]
  · rw [if_pos (show fX0_isGoing (nI 17) = 0 from by decide), if_neg (by decide), if_neg (by decide)]
  · rw [if_pos (show fX0_isGoing (nI 18) = 0 from by decide), if_neg (by decide), if_neg (by decide)]
  · rw [if_pos (show fX0_isGoing (nI 19) = 0 from by decide), if_neg (by decide), if_neg (by decide)]
  · rw [if_pos (show fX0_isGoing (nI 20) = 0 from by decide), if_neg (by decide), if_neg (by decide)]
  · rw [if_pos (show fX0_isGoing (nI 21) = 0 from by decide), if_neg (by decide), if_neg (by decide)]
