set_option maxHeartbeats 40000000 in
set_option maxRecDepth 100000 in
theorem kk_eq {d0 d4 d5 d10 d11 d12 d13 d15 d16 d21 d22 d23 d24 d25 d26 d29 d30 d31 : Nat} (hb : d0 < 16 ∧ d4 < 2 ∧ d5 < 32 ∧ d10 < 2 ∧ d11 < 2 ∧ d12 < 2 ∧ d13 < 4 ∧ d15 < 2 ∧ d16 < 32 ∧ d21 < 2 ∧ d22 < 2 ∧ d23 < 2 ∧ d24 < 2 ∧ d25 < 2 ∧ d26 < 8 ∧ d29 < 2 ∧ d30 < 2 ∧ d31 < 2) : cN d0 d4 d5 d10 d11 d12 d13 d15 d16 d21 d22 d23 d24 d25 d26 d29 d30 d31 = kN d0 d4 d5 d10 d11 d12 d13 d15 d16 d21 d22 d23 d24 d25 d26 d29 d30 d31 := by
  obtain ⟨b0, b4, b5, b10, b11, b12, b13, b15, b16, b21, b22, b23, b24, b25, b26, b29, b30, b31⟩ := hb
  unfold cN
  by_cases r1 : d23 + 2 * d24 + 4 * d25 + 8 * d26 = 34
  · rw [if_pos r1]
    unfold kN
    simp (disch := omega) only [↓if_pos, ↓if_neg]
  rw [if_neg r1]
  have g1 : Unit → ¬ (d23 + 2 * d24 + 4 * d25 + 8 * d26 = 34) := fun _ => r1
  clear r1
  by_cases r2 : d24 + 2 * d25 + 4 * d26 = 11 ∧ d21 = 0
  · rw [if_pos r2]
    unfold kN
    simp (disch := omega) only [↓if_pos, ↓if_neg]
    repeat' split
    all_goals first | rfl | (exfalso; omega)
  rw [if_neg r2]
  have g2 : Unit → ¬ (d24 + 2 * d25 + 4 * d26 = 11 ∧ d21 = 0) := fun _ => r2
  clear r2
  by_cases r3 : d24 + 2 * d25 + 4 * d26 = 10
  · rw [if_pos r3]
    unfold kN
    simp (disch := omega) only [↓if_pos, ↓if_neg]
    repeat' split
    all_goals first | rfl | (exfalso; omega)
  rw [if_neg r3]
  have g3 : Unit → ¬ (d24 + 2 * d25 + 4 * d26 = 10) := fun _ => r3
  clear r3
  by_cases r4 : d23 + 2 * d24 + 4 * d25 + 8 * d26 = 37
  · rw [if_pos r4]
    unfold kN
    simp (disch := omega) only [↓if_pos, ↓if_neg]
    repeat' split
    all_goals first | rfl | (exfalso; omega)
  rw [if_neg r4]
  have g4 : Unit → ¬ (d23 + 2 * d24 + 4 * d25 + 8 * d26 = 37) := fun _ => r4
  clear r4
  by_cases r5 : d31 = 1 ∧ d24 + 2 * d25 + 4 * d26 = 16
  · rw [if_pos r5]
    unfold kN
    simp (disch := omega) only [↓if_pos, ↓if_neg]
  rw [if_neg r5]
  have g5 : Unit → ¬ (d31 = 1 ∧ d24 + 2 * d25 + 4 * d26 = 16) := fun _ => r5
  clear r5
  by_cases r6 : d21 + 2 * d22 + 4 * d23 + 8 * d24 + 16 * d25 + 32 * d26 + 256 * d29 + 512 * d30 = 216
  · rw [if_pos r6]
    unfold kN
    simp (disch := omega) only [↓if_pos, ↓if_neg]
  rw [if_neg r6]
  have g6 : Unit → ¬ (d21 + 2 * d22 + 4 * d23 + 8 * d24 + 16 * d25 + 32 * d26 + 256 * d29 + 512 * d30 = 216) := fun _ => r6
  clear r6
  by_cases r7 : d21 + 2 * d22 + 4 * d23 + 8 * d24 + 16 * d25 + 32 * d26 + 256 * d29 + 512 * d30 = 214
  · rw [if_pos r7]
    unfold kN
    simp (disch := omega) only [↓if_pos, ↓if_neg]
    unfold i2N
    simp (disch := omega) only [↓if_pos, ↓if_neg]
    repeat' split
    all_goals first | rfl | (exfalso; omega)
  rw [if_neg r7]
  have g7 : Unit → ¬ (d21 + 2 * d22 + 4 * d23 + 8 * d24 + 16 * d25 + 32 * d26 + 256 * d29 + 512 * d30 = 214) := fun _ => r7
  clear r7
  by_cases r8 : d21 + 2 * d22 + 4 * d23 + 8 * d24 + 16 * d25 + 32 * d26 + 256 * d29 + 512 * d30 = 212 ∧ d11 = 0
  · rw [if_pos r8]
    unfold kN
    simp (disch := omega) only [↓if_pos, ↓if_neg]
    unfold i2N
    simp (disch := omega) only [↓if_pos, ↓if_neg]
    repeat' split
    all_goals first | rfl | (exfalso; omega)
  rw [if_neg r8]
  have g8 : Unit → ¬ (d21 + 2 * d22 + 4 * d23 + 8 * d24 + 16 * d25 + 32 * d26 + 256 * d29 + 512 * d30 = 212 ∧ d11 = 0) := fun _ => r8
  clear r8
  by_cases r9 : d24 + 2 * d25 + 4 * d26 + 32 * d29 = 57
  · rw [if_pos r9]
    unfold kN
    simp (disch := omega) only [↓if_pos, ↓if_neg]
    repeat' split
    all_goals first | rfl | (exfalso; omega)
  rw [if_neg r9]
  have g9 : Unit → ¬ (d24 + 2 * d25 + 4 * d26 + 32 * d29 = 57) := fun _ => r9
  clear r9
  by_cases r10 : d24 + 2 * d25 + 4 * d26 + 32 * d29 = 56 ∧ d21 = 1 ∧ d13 + 4 * d15 = 3 ∧ d10 + 2 * d11 = 2
  · rw [if_pos r10]
    unfold kN
    simp (disch := omega) only [↓if_pos, ↓if_neg]
    repeat' split
    all_goals first | rfl | (exfalso; omega)
  rw [if_neg r10]
  have g10 : Unit → ¬ (d24 + 2 * d25 + 4 * d26 + 32 * d29 = 56 ∧ d21 = 1 ∧ d13 + 4 * d15 = 3 ∧ d10 + 2 * d11 = 2) := fun _ => r10
  clear r10
  by_cases r11 : d25 + 2 * d26 + 16 * d29 + 32 * d30 + 64 * d31 = 84
  · rw [if_pos r11]
    unfold kN
    simp (disch := omega) only [↓if_pos, ↓if_neg]
    repeat' split
    all_goals first | rfl | (exfalso; omega)
  rw [if_neg r11]
  have g11 : Unit → ¬ (d25 + 2 * d26 + 16 * d29 + 32 * d30 + 64 * d31 = 84) := fun _ => r11
  clear r11
  by_cases r12 : d26 + 8 * d29 + 16 * d30 + 32 * d31 = 5
  · rw [if_pos r12]
    unfold kN
    simp (disch := omega) only [↓if_pos, ↓if_neg]
    unfold jN
    simp (disch := omega) only [↓if_pos, ↓if_neg]
  rw [if_neg r12]
  have g12 : Unit → ¬ (d26 + 8 * d29 + 16 * d30 + 32 * d31 = 5) := fun _ => r12
  clear r12
  by_cases r13 : d26 + 8 * d29 + 16 * d30 + 32 * d31 = 37
  · rw [if_pos r13]
    unfold kN
    simp (disch := omega) only [↓if_pos, ↓if_neg]
    unfold jN
    simp (disch := omega) only [↓if_pos, ↓if_neg]
  rw [if_neg r13]
  have g13 : Unit → ¬ (d26 + 8 * d29 + 16 * d30 + 32 * d31 = 37) := fun _ => r13
  clear r13
  by_cases r14 : d24 + 2 * d25 + 4 * d26 + 32 * d29 + 64 * d30 + 128 * d31 = 84 ∧ d4 = 0
  · rw [if_pos r14]
    unfold kN
    simp (disch := omega) only [↓if_pos, ↓if_neg]
    unfold jN
    simp (disch := omega) only [↓if_pos, ↓if_neg]
    repeat' split
    all_goals first | rfl | (exfalso; omega)
  rw [if_neg r14]
  have g14 : Unit → ¬ (d24 + 2 * d25 + 4 * d26 + 32 * d29 + 64 * d30 + 128 * d31 = 84 ∧ d4 = 0) := fun _ => r14
  clear r14
  by_cases r15 : d25 + 2 * d26 + 16 * d29 + 32 * d30 = 26
  · rw [if_pos r15]
    unfold kN
    simp (disch := omega) only [↓if_pos, ↓if_neg]
    unfold jN
    simp (disch := omega) only [↓if_pos, ↓if_neg]
  rw [if_neg r15]
  have g15 : Unit → ¬ (d25 + 2 * d26 + 16 * d29 + 32 * d30 = 26) := fun _ => r15
  clear r15
  by_cases r16 : d25 + 2 * d26 + 16 * d29 + 32 * d30 = 27
  · rw [if_pos r16]
    unfold kN
    simp (disch := omega) only [↓if_pos, ↓if_neg]
    unfold jN
    simp (disch := omega) only [↓if_pos, ↓if_neg]
  rw [if_neg r16]
  have g16 : Unit → ¬ (d25 + 2 * d26 + 16 * d29 + 32 * d30 = 27) := fun _ => r16
  clear r16
  by_cases r17 : d10 + 2 * d11 + 4 * d12 + 8 * d13 + 32 * d15 + 64 * d16 + 2048 * d21 + 4096 * d22 + 8192 * d23 + 16384 * d24 + 32768 * d25 + 65536 * d26 + 524288 * d29 + 1048576 * d30 + 2097152 * d31 = 3508160 ∧ d0 + 16 * d4 = 0
  · rw [if_pos r17]
    unfold kN
    simp (disch := omega) only [↓if_pos, ↓if_neg]
    unfold jN
    simp (disch := omega) only [↓if_pos, ↓if_neg]
  rw [if_neg r17]
  have g17 : Unit → ¬ (d10 + 2 * d11 + 4 * d12 + 8 * d13 + 32 * d15 + 64 * d16 + 2048 * d21 + 4096 * d22 + 8192 * d23 + 16384 * d24 + 32768 * d25 + 65536 * d26 + 524288 * d29 + 1048576 * d30 + 2097152 * d31 = 3508160 ∧ d0 + 16 * d4 = 0) := fun _ => r17
  clear r17
  by_cases r18 : d10 + 2 * d11 + 4 * d12 + 8 * d13 + 32 * d15 + 64 * d16 + 2048 * d21 + 4096 * d22 + 8192 * d23 + 16384 * d24 + 32768 * d25 + 65536 * d26 + 524288 * d29 + 1048576 * d30 + 2097152 * d31 = 3510208 ∧ d0 + 16 * d4 = 0
  · rw [if_pos r18]
    unfold kN
    simp (disch := omega) only [↓if_pos, ↓if_neg]
    unfold jN
    simp (disch := omega) only [↓if_pos, ↓if_neg]
  rw [if_neg r18]
  have g18 : Unit → ¬ (d10 + 2 * d11 + 4 * d12 + 8 * d13 + 32 * d15 + 64 * d16 + 2048 * d21 + 4096 * d22 + 8192 * d23 + 16384 * d24 + 32768 * d25 + 65536 * d26 + 524288 * d29 + 1048576 * d30 + 2097152 * d31 = 3510208 ∧ d0 + 16 * d4 = 0) := fun _ => r18
  clear r18
  by_cases r19 : d10 + 2 * d11 + 4 * d12 + 8 * d13 + 32 * d15 + 64 * d16 + 2048 * d21 + 4096 * d22 + 8192 * d23 + 16384 * d24 + 32768 * d25 + 65536 * d26 + 524288 * d29 + 1048576 * d30 + 2097152 * d31 = 3512256 ∧ d0 + 16 * d4 = 0
  · rw [if_pos r19]
    unfold kN
    simp (disch := omega) only [↓if_pos, ↓if_neg]
    unfold jN
    simp (disch := omega) only [↓if_pos, ↓if_neg]
  rw [if_neg r19]
  have g19 : Unit → ¬ (d10 + 2 * d11 + 4 * d12 + 8 * d13 + 32 * d15 + 64 * d16 + 2048 * d21 + 4096 * d22 + 8192 * d23 + 16384 * d24 + 32768 * d25 + 65536 * d26 + 524288 * d29 + 1048576 * d30 + 2097152 * d31 = 3512256 ∧ d0 + 16 * d4 = 0) := fun _ => r19
  clear r19
  by_cases r20 : d21 + 2 * d22 + 4 * d23 + 8 * d24 + 16 * d25 + 32 * d26 + 256 * d29 + 512 * d30 + 1024 * d31 = 1696 ∧ d0 + 16 * d4 = 1
  · rw [if_pos r20]
    unfold kN
    simp (disch := omega) only [↓if_pos, ↓if_neg]
    unfold jN
    simp (disch := omega) only [↓if_pos, ↓if_neg]
  rw [if_neg r20]
  have g20 : Unit → ¬ (d21 + 2 * d22 + 4 * d23 + 8 * d24 + 16 * d25 + 32 * d26 + 256 * d29 + 512 * d30 + 1024 * d31 = 1696 ∧ d0 + 16 * d4 = 1) := fun _ => r20
  clear r20
  by_cases r21 : d0 + 16 * d4 + 32 * d5 + 1024 * d10 + 2048 * d11 + 4096 * d12 + 8192 * d13 + 32768 * d15 + 65536 * d16 + 2097152 * d21 + 4194304 * d22 + 8388608 * d23 + 16777216 * d24 + 33554432 * d25 + 67108864 * d26 + 536870912 * d29 + 1073741824 * d30 + 2147483648 * d31 = 3573751839
  · rw [if_pos r21]
    unfold kN
    simp (disch := omega) only [↓if_pos, ↓if_neg]
    unfold jN
    simp (disch := omega) only [↓if_pos, ↓if_neg]
  rw [if_neg r21]
  have g21 : Unit → ¬ (d0 + 16 * d4 + 32 * d5 + 1024 * d10 + 2048 * d11 + 4096 * d12 + 8192 * d13 + 32768 * d15 + 65536 * d16 + 2097152 * d21 + 4194304 * d22 + 8388608 * d23 + 16777216 * d24 + 33554432 * d25 + 67108864 * d26 + 536870912 * d29 + 1073741824 * d30 + 2147483648 * d31 = 3573751839) := fun _ => r21
  clear r21
  unfold kN
  by_cases n1 : d24 + 2 * d25 + 4 * d26 = 8
  · rw [if_pos n1]
    by_cases n2 : d25 + 2 * d26 + 16 * d29 + 32 * d30 + 64 * d31 = 84
    · rw [if_pos n2]
      by_cases n3 : d23 + 2 * d24 = 0 ∨ (¬ d23 + 2 * d24 = 2 ∧ ¬ d5 = 31 ∧ (d5 = d0 + 16 * d4 ∨ d5 = d10 + 2 * d11 + 4 * d12 + 8 * d13)) ∨ (d22 = 1 ∧ d0 + 16 * d4 = d10 + 2 * d11 + 4 * d12 + 8 * d13)
      · rw [if_pos n3]
      rw [if_neg n3]
      exact absurd (by omega) (g11 ())
    rw [if_neg n2]
  rw [if_neg n1]
  by_cases n4 : d24 + 2 * d25 + 4 * d26 = 9
  · rw [if_pos n4]
    by_cases n5 : d25 + 2 * d26 + 16 * d29 + 32 * d30 + 64 * d31 = 84
    · rw [if_pos n5]
      by_cases n6 : d23 + 2 * d24 = 0 ∨ (¬ d23 + 2 * d24 = 2 ∧ ¬ d5 = 31 ∧ (d5 = d0 + 16 * d4 ∨ d5 = d10 + 2 * d11 + 4 * d12 + 8 * d13)) ∨ (d22 = 1 ∧ d0 + 16 * d4 = d10 + 2 * d11 + 4 * d12 + 8 * d13)
      · rw [if_pos n6]
      rw [if_neg n6]
      exact absurd (by omega) (g11 ())
    rw [if_neg n5]
  rw [if_neg n4]
  by_cases n7 : d24 + 2 * d25 + 4 * d26 = 10
  · rw [if_pos n7]
    by_cases n8 : d31 = 0 ∧ d15 = 1
    · rw [if_pos n8]
    rw [if_neg n8]
    exact absurd (by omega) (g3 ())
  rw [if_neg n7]
  by_cases n9 : d24 + 2 * d25 + 4 * d26 = 11
  · rw [if_pos n9]
    by_cases n10 : d21 = 0
    · rw [if_pos n10]
      by_cases n11 : d22 + 2 * d23 = 3
      · rw [if_pos n11]
      rw [if_neg n11]
      by_cases n12 : d31 = 0 ∧ d15 = 1
      · rw [if_pos n12]
      rw [if_neg n12]
      exact absurd (by omega) (g2 ())
    rw [if_neg n10]
  rw [if_neg n9]
  by_cases n13 : d24 + 2 * d25 + 4 * d26 = 16
  · rw [if_pos n13]
    by_cases n14 : d31 = 0
    · rw [if_pos n14]
    rw [if_neg n14]
    exact absurd (by omega) (g5 ())
  rw [if_neg n13]
  by_cases n15 : d24 + 2 * d25 + 4 * d26 = 17
  · rw [if_pos n15]
    by_cases n16 : d23 = 0
    · rw [if_pos n16]
      exact absurd (by omega) (g1 ())
    rw [if_neg n16]
  rw [if_neg n15]
  by_cases n17 : d24 + 2 * d25 + 4 * d26 = 18
  · rw [if_pos n17]
    by_cases n18 : d23 = 1
    · rw [if_pos n18]
      by_cases n19 : d29 + 2 * d30 = 1
      · rw [if_pos n19]
      rw [if_neg n19]
      by_cases n20 : d31 = 1
      · rw [if_pos n20]
        exact absurd (by omega) (g4 ())
      rw [if_neg n20]
      by_cases n21 : d22 = 0
      · rw [if_pos n21]
        exact absurd (by omega) (g4 ())
      rw [if_neg n21]
    rw [if_neg n18]
  rw [if_neg n17]
  by_cases n22 : d24 + 2 * d25 + 4 * d26 = 24
  · rw [if_pos n22]
    by_cases n23 : d29 = 1
    · rw [if_pos n23]
      by_cases n24 : ¬ (d21 = 1 ∧ d13 + 4 * d15 = 3 ∧ d10 + 2 * d11 = 2)
      · rw [if_pos n24]
      rw [if_neg n24]
      by_cases n25 : (d22 + 2 * d23 = 3) ∨ (d22 + 2 * d23 = 2 ∧ ¬ d30 + 2 * d31 = 2) ∨ (¬ d22 + 2 * d23 = 2 ∧ d30 + 2 * d31 = 1)
      · rw [if_pos n25]
      rw [if_neg n25]
      exact absurd (by omega) (g10 ())
    rw [if_neg n23]
  rw [if_neg n22]
  by_cases n26 : d24 + 2 * d25 + 4 * d26 = 25
  · rw [if_pos n26]
    by_cases n27 : d29 = 1
    · rw [if_pos n27]
      by_cases n28 : (d22 + 2 * d23 = 3) ∨ (d22 + 2 * d23 = 2 ∧ ¬ d30 + 2 * d31 = 2) ∨ (¬ d22 + 2 * d23 = 2 ∧ d30 + 2 * d31 = 1)
      · rw [if_pos n28]
      rw [if_neg n28]
      exact absurd (by omega) (g9 ())
    rw [if_neg n27]
  rw [if_neg n26]
  by_cases n29 : d24 + 2 * d25 + 4 * d26 = 26
  · rw [if_pos n29]
    by_cases n30 : d29 + 2 * d30 ≤ 0
    · rw [if_pos n30]
      unfold i2N
      by_cases n31 : d21 + 2 * d22 + 4 * d23 = 6
      · rw [if_pos n31]
        by_cases n32 : d10 + 2 * d11 + 4 * d12 + 8 * d13 + 32 * d15 = 2
        · rw [if_pos n32]
          exact absurd (by omega) (g7 ())
        rw [if_neg n32]
        by_cases n33 : d10 + 2 * d11 + 4 * d12 + 8 * d13 + 32 * d15 = 3
        · rw [if_pos n33]
          exact absurd (by omega) (g7 ())
        rw [if_neg n33]
        by_cases n34 : d10 + 2 * d11 + 4 * d12 + 8 * d13 + 32 * d15 ≤ 7
        · rw [if_pos n34]
        rw [if_neg n34]
        by_cases n35 : 11 ≤ d10 + 2 * d11 + 4 * d12 + 8 * d13 + 32 * d15
        · rw [if_pos n35]
        rw [if_neg n35]
        exact absurd (by omega) (g7 ())
      rw [if_neg n31]
      by_cases n36 : d21 + 2 * d22 + 4 * d23 = 4
      · rw [if_pos n36]
        by_cases n37 : d11 = 0
        · rw [if_pos n37]
          by_cases n38 : 14 ≤ d12 + 2 * d13 + 8 * d15
          · rw [if_pos n38]
          rw [if_neg n38]
          exact absurd (by omega) (g8 ())
        rw [if_neg n37]
      rw [if_neg n36]
    rw [if_neg n30]
  rw [if_neg n29]
  by_cases n39 : d24 + 2 * d25 + 4 * d26 = 27
  · rw [if_pos n39]
    by_cases n40 : d21 + 2 * d22 + 4 * d23 = 0
    · rw [if_pos n40]
      by_cases n41 : d29 + 2 * d30 = 0
      · rw [if_pos n41]
        exact absurd (by omega) (g6 ())
      rw [if_neg n41]
    rw [if_neg n40]
  rw [if_neg n39]
  unfold jN
  by_cases n42 : d26 + 8 * d29 + 16 * d30 + 32 * d31 = 5
  · rw [if_pos n42]
    exact absurd (by omega) (g12 ())
  rw [if_neg n42]
  by_cases n43 : d26 + 8 * d29 + 16 * d30 + 32 * d31 = 37
  · rw [if_pos n43]
    exact absurd (by omega) (g13 ())
  rw [if_neg n43]
  by_cases n44 : d24 + 2 * d25 + 4 * d26 + 32 * d29 + 64 * d30 + 128 * d31 = 84
  · rw [if_pos n44]
    by_cases n45 : d4 = 0
    · rw [if_pos n45]
      by_cases n46 : 14 ≤ d0
      · rw [if_pos n46]
      rw [if_neg n46]
      exact absurd (by omega) (g14 ())
    rw [if_neg n45]
  rw [if_neg n44]
  by_cases n47 : d25 + 2 * d26 + 16 * d29 + 32 * d30 = 26
  · rw [if_pos n47]
    exact absurd (by omega) (g15 ())
  rw [if_neg n47]
  by_cases n48 : d25 + 2 * d26 + 16 * d29 + 32 * d30 = 27
  · rw [if_pos n48]
    exact absurd (by omega) (g16 ())
  rw [if_neg n48]
  by_cases n49 : d24 + 2 * d25 + 4 * d26 + 32 * d29 + 64 * d30 + 128 * d31 = 214
  · rw [if_pos n49]
    by_cases n50 : 0 < d0 + 16 * d4
    · rw [if_pos n50]
    rw [if_neg n50]
    by_cases n51 : 0 < d10 + 2 * d11 + 4 * d12 + 8 * d13 + 32 * d15
    · rw [if_pos n51]
    rw [if_neg n51]
    by_cases n52 : d16 = 31
    · rw [if_pos n52]
      by_cases n53 : 3 ≤ d21 + 2 * d22 + 4 * d23
      · rw [if_pos n53]
      rw [if_neg n53]
      by_cases n54 : d21 + 2 * d22 + 4 * d23 = 0
      · rw [if_pos n54]
        exact absurd (by omega) (g17 ())
      rw [if_neg n54]
      by_cases n55 : d21 + 2 * d22 + 4 * d23 = 1
      · rw [if_pos n55]
        exact absurd (by omega) (g18 ())
      rw [if_neg n55]
      exact absurd (by omega) (g19 ())
    rw [if_neg n52]
  rw [if_neg n49]
  by_cases n56 : d21 + 2 * d22 + 4 * d23 + 8 * d24 + 16 * d25 + 32 * d26 + 256 * d29 + 512 * d30 + 1024 * d31 = 1696
  · rw [if_pos n56]
    by_cases n57 : d0 + 16 * d4 = 1
    · rw [if_pos n57]
      exact absurd (by omega) (g20 ())
    rw [if_neg n57]
    by_cases n58 : d0 + 16 * d4 + 32 * d5 + 1024 * d10 + 2048 * d11 + 4096 * d12 + 8192 * d13 + 32768 * d15 + 65536 * d16 + 2097152 * d21 + 4194304 * d22 + 8388608 * d23 + 16777216 * d24 + 33554432 * d25 + 67108864 * d26 + 536870912 * d29 + 1073741824 * d30 + 2147483648 * d31 = 3573751839
    · rw [if_pos n58]
      exact absurd (by omega) (g21 ())
    rw [if_neg n58]
  rw [if_neg n56]
  by_cases n59 : d0 + 16 * d4 + 32 * d5 + 1024 * d10 + 2048 * d11 + 4096 * d12 + 8192 * d13 + 32768 * d15 + 65536 * d16 + 2097152 * d21 + 4194304 * d22 + 8388608 * d23 + 16777216 * d24 + 33554432 * d25 + 67108864 * d26 + 536870912 * d29 + 1073741824 * d30 + 2147483648 * d31 = 3573751839
  · rw [if_pos n59]
    exact absurd (by omega) (g21 ())
  rw [if_neg n59]
theorem eq_kind (w : Int32) : fX0_kind w = fX1_kind w := by
  obtain ⟨d0, d4, d5, d10, d11, d12, d13, d15, d16, d21, d22, d23, d24, d25, d26, d29, d30, d31, h⟩ := dg_all w
  rw [k0_N h, k1_N h]
  exact kk_eq h.1
