theorem rg_0 (w : Int32) : fX0_bits w (0 : Int32) (5 : Int32) = fX1_bits w (0 : Int32) ((0 : Int32) + (4 : Int32)) := (wd_b0 w _ _ 0 5 (by decide) (by decide)).trans (wd_b1 w _ _ 0 27 5 (by decide) (by decide) (by decide)).symm
theorem rg_5 (w : Int32) : fX0_bits w (5 : Int32) (5 : Int32) = fX1_bits w (5 : Int32) ((5 : Int32) + (4 : Int32)) := (wd_b0 w _ _ 5 5 (by decide) (by decide)).trans (wd_b1 w _ _ 5 22 5 (by decide) (by decide) (by decide)).symm
theorem rg_16 (w : Int32) : fX0_bits w (16 : Int32) (5 : Int32) = fX1_bits w (16 : Int32) ((16 : Int32) + (4 : Int32)) := (wd_b0 w _ _ 16 5 (by decide) (by decide)).trans (wd_b1 w _ _ 16 11 5 (by decide) (by decide) (by decide)).symm
theorem rg_10 (w : Int32) : fX0_bits w (10 : Int32) (5 : Int32) = fX1_bits w (10 : Int32) ((10 : Int32) + (4 : Int32)) := (wd_b0 w _ _ 10 5 (by decide) (by decide)).trans (wd_b1 w _ _ 10 17 5 (by decide) (by decide) (by decide)).symm
set_option maxHeartbeats 8000000 in
set_option maxRecDepth 100000 in
theorem eq_register (w what : Int32) : fX0_register w what = fX1_register w what := by
  unfold fX0_register fX1_register
  rw [eq_kind]
  obtain ⟨j, hj, e⟩ := kd_j w
  rw [e, rg_0, rg_5, rg_16, rg_10]
  clear e
  by_cases h0 : what = 0
  · rw [if_pos h0, if_pos h0]
    rcases (show j = 0 ∨ j = 1 ∨ j = 2 ∨ j = 3 ∨ j = 4 ∨ j = 5 ∨ j = 6 ∨ j = 7 ∨ j = 8 ∨ j = 9 ∨ j = 10 ∨ j = 11 ∨ j = 12 ∨ j = 13 ∨ j = 14 ∨ j = 15 ∨ j = 16 ∨ j = 17 ∨ j = 18 ∨ j = 19 ∨ j = 20 ∨ j = 21 from by omega) with rfl | rfl | rfl | rfl | rfl | rfl | rfl | rfl | rfl | rfl | rfl | rfl | rfl | rfl | rfl | rfl | rfl | rfl | rfl | rfl | rfl | rfl <;> simp (disch := decide) only [↓if_pos, ↓if_neg]
  rw [if_neg h0, if_neg h0]
  by_cases h1 : what = 1
  · rw [if_pos h1, if_pos h1]
    rcases (show j = 0 ∨ j = 1 ∨ j = 2 ∨ j = 3 ∨ j = 4 ∨ j = 5 ∨ j = 6 ∨ j = 7 ∨ j = 8 ∨ j = 9 ∨ j = 10 ∨ j = 11 ∨ j = 12 ∨ j = 13 ∨ j = 14 ∨ j = 15 ∨ j = 16 ∨ j = 17 ∨ j = 18 ∨ j = 19 ∨ j = 20 ∨ j = 21 from by omega) with rfl | rfl | rfl | rfl | rfl | rfl | rfl | rfl | rfl | rfl | rfl | rfl | rfl | rfl | rfl | rfl | rfl | rfl | rfl | rfl | rfl | rfl <;> simp (disch := decide) only [↓if_pos, ↓if_neg]
  rw [if_neg h1, if_neg h1]
  by_cases h2 : what = 2
  · rw [if_pos h2, if_pos h2]
    rcases (show j = 0 ∨ j = 1 ∨ j = 2 ∨ j = 3 ∨ j = 4 ∨ j = 5 ∨ j = 6 ∨ j = 7 ∨ j = 8 ∨ j = 9 ∨ j = 10 ∨ j = 11 ∨ j = 12 ∨ j = 13 ∨ j = 14 ∨ j = 15 ∨ j = 16 ∨ j = 17 ∨ j = 18 ∨ j = 19 ∨ j = 20 ∨ j = 21 from by omega) with rfl | rfl | rfl | rfl | rfl | rfl | rfl | rfl | rfl | rfl | rfl | rfl | rfl | rfl | rfl | rfl | rfl | rfl | rfl | rfl | rfl | rfl <;> simp (disch := decide) only [↓if_pos, ↓if_neg]
  rw [if_neg h2, if_neg h2]
  by_cases h3 : what = 3
  · rw [if_pos h3, if_pos h3]
    rcases (show j = 0 ∨ j = 1 ∨ j = 2 ∨ j = 3 ∨ j = 4 ∨ j = 5 ∨ j = 6 ∨ j = 7 ∨ j = 8 ∨ j = 9 ∨ j = 10 ∨ j = 11 ∨ j = 12 ∨ j = 13 ∨ j = 14 ∨ j = 15 ∨ j = 16 ∨ j = 17 ∨ j = 18 ∨ j = 19 ∨ j = 20 ∨ j = 21 from by omega) with rfl | rfl | rfl | rfl | rfl | rfl | rfl | rfl | rfl | rfl | rfl | rfl | rfl | rfl | rfl | rfl | rfl | rfl | rfl | rfl | rfl | rfl <;> simp (disch := decide) only [↓if_pos, ↓if_neg]
  rw [if_neg h3, if_neg h3]
