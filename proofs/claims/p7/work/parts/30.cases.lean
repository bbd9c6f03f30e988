def kd_P (x : Int32) : Prop := 0 ≤ x ∧ x ≤ 21
theorem kd_ite {c : Prop} [Decidable c] {a b : Int32} (ha : kd_P a) (hb : kd_P b) : kd_P (if c then a else b) := by
  split
  · exact ha
  · exact hb
set_option maxHeartbeats 8000000 in
set_option maxRecDepth 100000 in
theorem kd_rng (w : Int32) : kd_P (fX1_kind w) := by
  obtain ⟨d0, d4, d5, d10, d11, d12, d13, d15, d16, d21, d22, d23, d24, d25, d26, d29, d30, d31, h⟩ := dg_all w
  rw [k1_N h]
  clear h
  unfold kN jN i2N
  repeat' (with_reducible refine kd_ite ?_ ?_)
  all_goals (unfold kd_P; decide)
theorem kd_j (w : Int32) : ∃ j : Nat, j < 22 ∧ fX1_kind w = nI j := by
  obtain ⟨h1, h2⟩ := kd_rng w
  obtain ⟨j, hj, e⟩ := nI_of2 (M := 21) (n := 21) (by decide) (Int32.not_lt.mpr h1) h2
  exact ⟨j, by omega, e⟩
