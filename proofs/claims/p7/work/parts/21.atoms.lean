def dg_ok (w : Int32) (d0 d4 d5 d10 d11 d12 d13 d15 d16 d21 d22 d23 d24 d25 d26 d29 d30 d31 : Nat) : Prop := (d0 < 16 ∧ d4 < 2 ∧ d5 < 32 ∧ d10 < 2 ∧ d11 < 2 ∧ d12 < 2 ∧ d13 < 4 ∧ d15 < 2 ∧ d16 < 32 ∧ d21 < 2 ∧ d22 < 2 ∧ d23 < 2 ∧ d24 < 2 ∧ d25 < 2 ∧ d26 < 8 ∧ d29 < 2 ∧ d30 < 2 ∧ d31 < 2) ∧ w.toBitVec.toNat = d0 + 16 * d4 + 32 * d5 + 1024 * d10 + 2048 * d11 + 4096 * d12 + 8192 * d13 + 32768 * d15 + 65536 * d16 + 2097152 * d21 + 4194304 * d22 + 8388608 * d23 + 16777216 * d24 + 33554432 * d25 + 67108864 * d26 + 536870912 * d29 + 1073741824 * d30 + 2147483648 * d31
theorem dg_all (w : Int32) : ∃ d0 d4 d5 d10 d11 d12 d13 d15 d16 d21 d22 d23 d24 d25 d26 d29 d30 d31 : Nat, dg_ok w d0 d4 d5 d10 d11 d12 d13 d15 d16 d21 d22 d23 d24 d25 d26 d29 d30 d31 := by
  have hn : w.toBitVec.toNat < 4294967296 := w.toBitVec.isLt
  refine ⟨w.toBitVec.toNat % 16, (w.toBitVec.toNat / 16) % 2, ((w.toBitVec.toNat / 16) / 2) % 32, (((w.toBitVec.toNat / 16) / 2) / 32) % 2, ((((w.toBitVec.toNat / 16) / 2) / 32) / 2) % 2, (((((w.toBitVec.toNat / 16) / 2) / 32) / 2) / 2) % 2, ((((((w.toBitVec.toNat / 16) / 2) / 32) / 2) / 2) / 2) % 4, (((((((w.toBitVec.toNat / 16) / 2) / 32) / 2) / 2) / 2) / 4) % 2, ((((((((w.toBitVec.toNat / 16) / 2) / 32) / 2) / 2) / 2) / 4) / 2) % 32, (((((((((w.toBitVec.toNat / 16) / 2) / 32) / 2) / 2) / 2) / 4) / 2) / 32) % 2, ((((((((((w.toBitVec.toNat / 16) / 2) / 32) / 2) / 2) / 2) / 4) / 2) / 32) / 2) % 2, (((((((((((w.toBitVec.toNat / 16) / 2) / 32) / 2) / 2) / 2) / 4) / 2) / 32) / 2) / 2) % 2, ((((((((((((w.toBitVec.toNat / 16) / 2) / 32) / 2) / 2) / 2) / 4) / 2) / 32) / 2) / 2) / 2) % 2, (((((((((((((w.toBitVec.toNat / 16) / 2) / 32) / 2) / 2) / 2) / 4) / 2) / 32) / 2) / 2) / 2) / 2) % 2, ((((((((((((((w.toBitVec.toNat / 16) / 2) / 32) / 2) / 2) / 2) / 4) / 2) / 32) / 2) / 2) / 2) / 2) / 2) % 8, (((((((((((((((w.toBitVec.toNat / 16) / 2) / 32) / 2) / 2) / 2) / 4) / 2) / 32) / 2) / 2) / 2) / 2) / 2) / 8) % 2, ((((((((((((((((w.toBitVec.toNat / 16) / 2) / 32) / 2) / 2) / 2) / 4) / 2) / 32) / 2) / 2) / 2) / 2) / 2) / 8) / 2) % 2, (((((((((((((((((w.toBitVec.toNat / 16) / 2) / 32) / 2) / 2) / 2) / 4) / 2) / 32) / 2) / 2) / 2) / 2) / 2) / 8) / 2) / 2), ⟨by omega, by omega, by omega, by omega, by omega, by omega, by omega, by omega, by omega, by omega, by omega, by omega, by omega, by omega, by omega, by omega, by omega, by omega⟩, by omega⟩
theorem q_0 {w : Int32} {d0 d4 d5 d10 d11 d12 d13 d15 d16 d21 d22 d23 d24 d25 d26 d29 d30 d31 : Nat} (h : dg_ok w d0 d4 d5 d10 d11 d12 d13 d15 d16 d21 d22 d23 d24 d25 d26 d29 d30 d31) : (0 ≤ w) ↔ (d31 = 0) := by
  obtain ⟨⟨b0, b4, b5, b10, b11, b12, b13, b15, b16, b21, b22, b23, b24, b25, b26, b29, b30, b31⟩, hn⟩ := h
  exact wd_pos (A := d0 + 16 * d4 + 32 * d5 + 1024 * d10 + 2048 * d11 + 4096 * d12 + 8192 * d13 + 32768 * d15 + 65536 * d16 + 2097152 * d21 + 4194304 * d22 + 8388608 * d23 + 16777216 * d24 + 33554432 * d25 + 67108864 * d26 + 536870912 * d29 + 1073741824 * d30) (by omega) (by omega) b31
theorem sg_10_6 {w : Int32} {d0 d4 d5 d10 d11 d12 d13 d15 d16 d21 d22 d23 d24 d25 d26 d29 d30 d31 : Nat} (h : dg_ok w d0 d4 d5 d10 d11 d12 d13 d15 d16 d21 d22 d23 d24 d25 d26 d29 d30 d31) : w.toBitVec.toNat / 2 ^ 10 % 2 ^ 6 = d10 + 2 * d11 + 4 * d12 + 8 * d13 + 32 * d15 := by
  obtain ⟨⟨b0, b4, b5, b10, b11, b12, b13, b15, b16, b21, b22, b23, b24, b25, b26, b29, b30, b31⟩, hn⟩ := h
  exact wd_cut (A := d0 + 16 * d4 + 32 * d5) (C := d10 + 2 * d11 + 4 * d12 + 8 * d13 + 32 * d15) (D := d16 + 32 * d21 + 64 * d22 + 128 * d23 + 256 * d24 + 512 * d25 + 1024 * d26 + 8192 * d29 + 16384 * d30 + 32768 * d31) (by omega) (by omega) (by omega)
theorem a0_10_6 {w : Int32} {d0 d4 d5 d10 d11 d12 d13 d15 d16 d21 d22 d23 d24 d25 d26 d29 d30 d31 : Nat} (h : dg_ok w d0 d4 d5 d10 d11 d12 d13 d15 d16 d21 d22 d23 d24 d25 d26 d29 d30 d31) : fX0_bits w (10 : Int32) (6 : Int32) = nI (d10 + 2 * d11 + 4 * d12 + 8 * d13 + 32 * d15) := (wd_b0 w _ _ 10 6 (by decide) (by decide)).trans (congrArg nI (sg_10_6 h))
theorem q_1 {w : Int32} {d0 d4 d5 d10 d11 d12 d13 d15 d16 d21 d22 d23 d24 d25 d26 d29 d30 d31 : Nat} (h : dg_ok w d0 d4 d5 d10 d11 d12 d13 d15 d16 d21 d22 d23 d24 d25 d26 d29 d30 d31) : ((32 : Int32) ≤ (fX0_bits w (10 : Int32) (6 : Int32))) ↔ (32 ≤ d10 + 2 * d11 + 4 * d12 + 8 * d13 + 32 * d15) := by
  have h9 := h
  obtain ⟨⟨b0, b4, b5, b10, b11, b12, b13, b15, b16, b21, b22, b23, b24, b25, b26, b29, b30, b31⟩, hn⟩ := h9
  clear hn
  exact wd_ge (a0_10_6 h) (by omega) 32 (by decide)
theorem sg_22_1 {w : Int32} {d0 d4 d5 d10 d11 d12 d13 d15 d16 d21 d22 d23 d24 d25 d26 d29 d30 d31 : Nat} (h : dg_ok w d0 d4 d5 d10 d11 d12 d13 d15 d16 d21 d22 d23 d24 d25 d26 d29 d30 d31) : w.toBitVec.toNat / 2 ^ 22 % 2 ^ 1 = d22 := by
  obtain ⟨⟨b0, b4, b5, b10, b11, b12, b13, b15, b16, b21, b22, b23, b24, b25, b26, b29, b30, b31⟩, hn⟩ := h
  exact wd_cut (A := d0 + 16 * d4 + 32 * d5 + 1024 * d10 + 2048 * d11 + 4096 * d12 + 8192 * d13 + 32768 * d15 + 65536 * d16 + 2097152 * d21) (C := d22) (D := d23 + 2 * d24 + 4 * d25 + 8 * d26 + 64 * d29 + 128 * d30 + 256 * d31) (by omega) (by omega) (by omega)
theorem a0_22_1 {w : Int32} {d0 d4 d5 d10 d11 d12 d13 d15 d16 d21 d22 d23 d24 d25 d26 d29 d30 d31 : Nat} (h : dg_ok w d0 d4 d5 d10 d11 d12 d13 d15 d16 d21 d22 d23 d24 d25 d26 d29 d30 d31) : fX0_bits w (22 : Int32) (1 : Int32) = nI (d22) := (wd_b0 w _ _ 22 1 (by decide) (by decide)).trans (congrArg nI (sg_22_1 h))
theorem q_2 {w : Int32} {d0 d4 d5 d10 d11 d12 d13 d15 d16 d21 d22 d23 d24 d25 d26 d29 d30 d31 : Nat} (h : dg_ok w d0 d4 d5 d10 d11 d12 d13 d15 d16 d21 d22 d23 d24 d25 d26 d29 d30 d31) : ((fX0_bits w (22 : Int32) (1 : Int32)) = (1 : Int32)) ↔ (d22 = 1) := by
  have h9 := h
  obtain ⟨⟨b0, b4, b5, b10, b11, b12, b13, b15, b16, b21, b22, b23, b24, b25, b26, b29, b30, b31⟩, hn⟩ := h9
  clear hn
  exact wd_e (a0_22_1 h) (by omega) 1 (by decide)
theorem sg_23_2 {w : Int32} {d0 d4 d5 d10 d11 d12 d13 d15 d16 d21 d22 d23 d24 d25 d26 d29 d30 d31 : Nat} (h : dg_ok w d0 d4 d5 d10 d11 d12 d13 d15 d16 d21 d22 d23 d24 d25 d26 d29 d30 d31) : w.toBitVec.toNat / 2 ^ 23 % 2 ^ 2 = d23 + 2 * d24 := by
  obtain ⟨⟨b0, b4, b5, b10, b11, b12, b13, b15, b16, b21, b22, b23, b24, b25, b26, b29, b30, b31⟩, hn⟩ := h
  exact wd_cut (A := d0 + 16 * d4 + 32 * d5 + 1024 * d10 + 2048 * d11 + 4096 * d12 + 8192 * d13 + 32768 * d15 + 65536 * d16 + 2097152 * d21 + 4194304 * d22) (C := d23 + 2 * d24) (D := d25 + 2 * d26 + 16 * d29 + 32 * d30 + 64 * d31) (by omega) (by omega) (by omega)
theorem a0_23_2 {w : Int32} {d0 d4 d5 d10 d11 d12 d13 d15 d16 d21 d22 d23 d24 d25 d26 d29 d30 d31 : Nat} (h : dg_ok w d0 d4 d5 d10 d11 d12 d13 d15 d16 d21 d22 d23 d24 d25 d26 d29 d30 d31) : fX0_bits w (23 : Int32) (2 : Int32) = nI (d23 + 2 * d24) := (wd_b0 w _ _ 23 2 (by decide) (by decide)).trans (congrArg nI (sg_23_2 h))
theorem q_3 {w : Int32} {d0 d4 d5 d10 d11 d12 d13 d15 d16 d21 d22 d23 d24 d25 d26 d29 d30 d31 : Nat} (h : dg_ok w d0 d4 d5 d10 d11 d12 d13 d15 d16 d21 d22 d23 d24 d25 d26 d29 d30 d31) : ((fX0_bits w (23 : Int32) (2 : Int32)) = 0) ↔ (d23 + 2 * d24 = 0) := by
  have h9 := h
  obtain ⟨⟨b0, b4, b5, b10, b11, b12, b13, b15, b16, b21, b22, b23, b24, b25, b26, b29, b30, b31⟩, hn⟩ := h9
  clear hn
  exact wd_e (a0_23_2 h) (by omega) 0 (by decide)
theorem sg_0_5 {w : Int32} {d0 d4 d5 d10 d11 d12 d13 d15 d16 d21 d22 d23 d24 d25 d26 d29 d30 d31 : Nat} (h : dg_ok w d0 d4 d5 d10 d11 d12 d13 d15 d16 d21 d22 d23 d24 d25 d26 d29 d30 d31) : w.toBitVec.toNat / 2 ^ 0 % 2 ^ 5 = d0 + 16 * d4 := by
  obtain ⟨⟨b0, b4, b5, b10, b11, b12, b13, b15, b16, b21, b22, b23, b24, b25, b26, b29, b30, b31⟩, hn⟩ := h
  exact wd_cut (A := 0) (C := d0 + 16 * d4) (D := d5 + 32 * d10 + 64 * d11 + 128 * d12 + 256 * d13 + 1024 * d15 + 2048 * d16 + 65536 * d21 + 131072 * d22 + 262144 * d23 + 524288 * d24 + 1048576 * d25 + 2097152 * d26 + 16777216 * d29 + 33554432 * d30 + 67108864 * d31) (by omega) (by omega) (by omega)
theorem a0_0_5 {w : Int32} {d0 d4 d5 d10 d11 d12 d13 d15 d16 d21 d22 d23 d24 d25 d26 d29 d30 d31 : Nat} (h : dg_ok w d0 d4 d5 d10 d11 d12 d13 d15 d16 d21 d22 d23 d24 d25 d26 d29 d30 d31) : fX0_bits w (0 : Int32) (5 : Int32) = nI (d0 + 16 * d4) := (wd_b0 w _ _ 0 5 (by decide) (by decide)).trans (congrArg nI (sg_0_5 h))
theorem sg_10_5 {w : Int32} {d0 d4 d5 d10 d11 d12 d13 d15 d16 d21 d22 d23 d24 d25 d26 d29 d30 d31 : Nat} (h : dg_ok w d0 d4 d5 d10 d11 d12 d13 d15 d16 d21 d22 d23 d24 d25 d26 d29 d30 d31) : w.toBitVec.toNat / 2 ^ 10 % 2 ^ 5 = d10 + 2 * d11 + 4 * d12 + 8 * d13 := by
  obtain ⟨⟨b0, b4, b5, b10, b11, b12, b13, b15, b16, b21, b22, b23, b24, b25, b26, b29, b30, b31⟩, hn⟩ := h
  exact wd_cut (A := d0 + 16 * d4 + 32 * d5) (C := d10 + 2 * d11 + 4 * d12 + 8 * d13) (D := d15 + 2 * d16 + 64 * d21 + 128 * d22 + 256 * d23 + 512 * d24 + 1024 * d25 + 2048 * d26 + 16384 * d29 + 32768 * d30 + 65536 * d31) (by omega) (by omega) (by omega)
theorem a0_10_5 {w : Int32} {d0 d4 d5 d10 d11 d12 d13 d15 d16 d21 d22 d23 d24 d25 d26 d29 d30 d31 : Nat} (h : dg_ok w d0 d4 d5 d10 d11 d12 d13 d15 d16 d21 d22 d23 d24 d25 d26 d29 d30 d31) : fX0_bits w (10 : Int32) (5 : Int32) = nI (d10 + 2 * d11 + 4 * d12 + 8 * d13) := (wd_b0 w _ _ 10 5 (by decide) (by decide)).trans (congrArg nI (sg_10_5 h))
theorem q_4 {w : Int32} {d0 d4 d5 d10 d11 d12 d13 d15 d16 d21 d22 d23 d24 d25 d26 d29 d30 d31 : Nat} (h : dg_ok w d0 d4 d5 d10 d11 d12 d13 d15 d16 d21 d22 d23 d24 d25 d26 d29 d30 d31) : ((fX0_bits w (0 : Int32) (5 : Int32)) = (fX0_bits w (10 : Int32) (5 : Int32))) ↔ (d0 + 16 * d4 = d10 + 2 * d11 + 4 * d12 + 8 * d13) := by
  have h9 := h
  obtain ⟨⟨b0, b4, b5, b10, b11, b12, b13, b15, b16, b21, b22, b23, b24, b25, b26, b29, b30, b31⟩, hn⟩ := h9
  clear hn
  exact wd_ee (a0_0_5 h) (a0_10_5 h) (by omega) (by omega)
theorem q_5 {w : Int32} {d0 d4 d5 d10 d11 d12 d13 d15 d16 d21 d22 d23 d24 d25 d26 d29 d30 d31 : Nat} (h : dg_ok w d0 d4 d5 d10 d11 d12 d13 d15 d16 d21 d22 d23 d24 d25 d26 d29 d30 d31) : ((fX0_bits w (23 : Int32) (2 : Int32)) = (2 : Int32)) ↔ (d23 + 2 * d24 = 2) := by
  have h9 := h
  obtain ⟨⟨b0, b4, b5, b10, b11, b12, b13, b15, b16, b21, b22, b23, b24, b25, b26, b29, b30, b31⟩, hn⟩ := h9
  clear hn
  exact wd_e (a0_23_2 h) (by omega) 2 (by decide)
theorem sg_5_5 {w : Int32} {d0 d4 d5 d10 d11 d12 d13 d15 d16 d21 d22 d23 d24 d25 d26 d29 d30 d31 : Nat} (h : dg_ok w d0 d4 d5 d10 d11 d12 d13 d15 d16 d21 d22 d23 d24 d25 d26 d29 d30 d31) : w.toBitVec.toNat / 2 ^ 5 % 2 ^ 5 = d5 := by
  obtain ⟨⟨b0, b4, b5, b10, b11, b12, b13, b15, b16, b21, b22, b23, b24, b25, b26, b29, b30, b31⟩, hn⟩ := h
  exact wd_cut (A := d0 + 16 * d4) (C := d5) (D := d10 + 2 * d11 + 4 * d12 + 8 * d13 + 32 * d15 + 64 * d16 + 2048 * d21 + 4096 * d22 + 8192 * d23 + 16384 * d24 + 32768 * d25 + 65536 * d26 + 524288 * d29 + 1048576 * d30 + 2097152 * d31) (by omega) (by omega) (by omega)
theorem a0_5_5 {w : Int32} {d0 d4 d5 d10 d11 d12 d13 d15 d16 d21 d22 d23 d24 d25 d26 d29 d30 d31 : Nat} (h : dg_ok w d0 d4 d5 d10 d11 d12 d13 d15 d16 d21 d22 d23 d24 d25 d26 d29 d30 d31) : fX0_bits w (5 : Int32) (5 : Int32) = nI (d5) := (wd_b0 w _ _ 5 5 (by decide) (by decide)).trans (congrArg nI (sg_5_5 h))
theorem q_6 {w : Int32} {d0 d4 d5 d10 d11 d12 d13 d15 d16 d21 d22 d23 d24 d25 d26 d29 d30 d31 : Nat} (h : dg_ok w d0 d4 d5 d10 d11 d12 d13 d15 d16 d21 d22 d23 d24 d25 d26 d29 d30 d31) : ((fX0_bits w (5 : Int32) (5 : Int32)) = (31 : Int32)) ↔ (d5 = 31) := by
  have h9 := h
  obtain ⟨⟨b0, b4, b5, b10, b11, b12, b13, b15, b16, b21, b22, b23, b24, b25, b26, b29, b30, b31⟩, hn⟩ := h9
  clear hn
  exact wd_e (a0_5_5 h) (by omega) 31 (by decide)
theorem q_7 {w : Int32} {d0 d4 d5 d10 d11 d12 d13 d15 d16 d21 d22 d23 d24 d25 d26 d29 d30 d31 : Nat} (h : dg_ok w d0 d4 d5 d10 d11 d12 d13 d15 d16 d21 d22 d23 d24 d25 d26 d29 d30 d31) : ((fX0_bits w (5 : Int32) (5 : Int32)) = (fX0_bits w (0 : Int32) (5 : Int32))) ↔ (d5 = d0 + 16 * d4) := by
  have h9 := h
  obtain ⟨⟨b0, b4, b5, b10, b11, b12, b13, b15, b16, b21, b22, b23, b24, b25, b26, b29, b30, b31⟩, hn⟩ := h9
  clear hn
  exact wd_ee (a0_5_5 h) (a0_0_5 h) (by omega) (by omega)
theorem q_8 {w : Int32} {d0 d4 d5 d10 d11 d12 d13 d15 d16 d21 d22 d23 d24 d25 d26 d29 d30 d31 : Nat} (h : dg_ok w d0 d4 d5 d10 d11 d12 d13 d15 d16 d21 d22 d23 d24 d25 d26 d29 d30 d31) : ((fX0_bits w (5 : Int32) (5 : Int32)) = (fX0_bits w (10 : Int32) (5 : Int32))) ↔ (d5 = d10 + 2 * d11 + 4 * d12 + 8 * d13) := by
  have h9 := h
  obtain ⟨⟨b0, b4, b5, b10, b11, b12, b13, b15, b16, b21, b22, b23, b24, b25, b26, b29, b30, b31⟩, hn⟩ := h9
  clear hn
  exact wd_ee (a0_5_5 h) (a0_10_5 h) (by omega) (by omega)
theorem a1_23_24 {w : Int32} {d0 d4 d5 d10 d11 d12 d13 d15 d16 d21 d22 d23 d24 d25 d26 d29 d30 d31 : Nat} (h : dg_ok w d0 d4 d5 d10 d11 d12 d13 d15 d16 d21 d22 d23 d24 d25 d26 d29 d30 d31) : fX1_bits w (23 : Int32) (24 : Int32) = nI (d23 + 2 * d24) := (wd_b1 w _ _ 23 7 2 (by decide) (by decide) (by decide)).trans (congrArg nI (sg_23_2 h))
theorem q_9 {w : Int32} {d0 d4 d5 d10 d11 d12 d13 d15 d16 d21 d22 d23 d24 d25 d26 d29 d30 d31 : Nat} (h : dg_ok w d0 d4 d5 d10 d11 d12 d13 d15 d16 d21 d22 d23 d24 d25 d26 d29 d30 d31) : ((fX1_bits w (23 : Int32) (24 : Int32)) = (2 : Int32)) ↔ (d23 + 2 * d24 = 2) := by
  have h9 := h
  obtain ⟨⟨b0, b4, b5, b10, b11, b12, b13, b15, b16, b21, b22, b23, b24, b25, b26, b29, b30, b31⟩, hn⟩ := h9
  clear hn
  exact wd_e (a1_23_24 h) (by omega) 2 (by decide)
theorem q_10 {w : Int32} {d0 d4 d5 d10 d11 d12 d13 d15 d16 d21 d22 d23 d24 d25 d26 d29 d30 d31 : Nat} (h : dg_ok w d0 d4 d5 d10 d11 d12 d13 d15 d16 d21 d22 d23 d24 d25 d26 d29 d30 d31) : ((fX1_bits w (23 : Int32) (24 : Int32)) = 0) ↔ (d23 + 2 * d24 = 0) := by
  have h9 := h
  obtain ⟨⟨b0, b4, b5, b10, b11, b12, b13, b15, b16, b21, b22, b23, b24, b25, b26, b29, b30, b31⟩, hn⟩ := h9
  clear hn
  exact wd_e (a1_23_24 h) (by omega) 0 (by decide)
theorem a1_22_22 {w : Int32} {d0 d4 d5 d10 d11 d12 d13 d15 d16 d21 d22 d23 d24 d25 d26 d29 d30 d31 : Nat} (h : dg_ok w d0 d4 d5 d10 d11 d12 d13 d15 d16 d21 d22 d23 d24 d25 d26 d29 d30 d31) : fX1_bits w (22 : Int32) (22 : Int32) = nI (d22) := (wd_b1 w _ _ 22 9 1 (by decide) (by decide) (by decide)).trans (congrArg nI (sg_22_1 h))
theorem q_11 {w : Int32} {d0 d4 d5 d10 d11 d12 d13 d15 d16 d21 d22 d23 d24 d25 d26 d29 d30 d31 : Nat} (h : dg_ok w d0 d4 d5 d10 d11 d12 d13 d15 d16 d21 d22 d23 d24 d25 d26 d29 d30 d31) : ((fX1_bits w (22 : Int32) (22 : Int32)) = 0) ↔ (d22 = 0) := by
  have h9 := h
  obtain ⟨⟨b0, b4, b5, b10, b11, b12, b13, b15, b16, b21, b22, b23, b24, b25, b26, b29, b30, b31⟩, hn⟩ := h9
  clear hn
  exact wd_e (a1_22_22 h) (by omega) 0 (by decide)
theorem a1_0_4 {w : Int32} {d0 d4 d5 d10 d11 d12 d13 d15 d16 d21 d22 d23 d24 d25 d26 d29 d30 d31 : Nat} (h : dg_ok w d0 d4 d5 d10 d11 d12 d13 d15 d16 d21 d22 d23 d24 d25 d26 d29 d30 d31) : fX1_bits w (0 : Int32) (4 : Int32) = nI (d0 + 16 * d4) := (wd_b1 w _ _ 0 27 5 (by decide) (by decide) (by decide)).trans (congrArg nI (sg_0_5 h))
theorem a1_10_14 {w : Int32} {d0 d4 d5 d10 d11 d12 d13 d15 d16 d21 d22 d23 d24 d25 d26 d29 d30 d31 : Nat} (h : dg_ok w d0 d4 d5 d10 d11 d12 d13 d15 d16 d21 d22 d23 d24 d25 d26 d29 d30 d31) : fX1_bits w (10 : Int32) (14 : Int32) = nI (d10 + 2 * d11 + 4 * d12 + 8 * d13) := (wd_b1 w _ _ 10 17 5 (by decide) (by decide) (by decide)).trans (congrArg nI (sg_10_5 h))
theorem q_12 {w : Int32} {d0 d4 d5 d10 d11 d12 d13 d15 d16 d21 d22 d23 d24 d25 d26 d29 d30 d31 : Nat} (h : dg_ok w d0 d4 d5 d10 d11 d12 d13 d15 d16 d21 d22 d23 d24 d25 d26 d29 d30 d31) : ((fX1_bits w (0 : Int32) (4 : Int32)) = (fX1_bits w (10 : Int32) (14 : Int32))) ↔ (d0 + 16 * d4 = d10 + 2 * d11 + 4 * d12 + 8 * d13) := by
  have h9 := h
  obtain ⟨⟨b0, b4, b5, b10, b11, b12, b13, b15, b16, b21, b22, b23, b24, b25, b26, b29, b30, b31⟩, hn⟩ := h9
  clear hn
  exact wd_ee (a1_0_4 h) (a1_10_14 h) (by omega) (by omega)
theorem a1_5_9 {w : Int32} {d0 d4 d5 d10 d11 d12 d13 d15 d16 d21 d22 d23 d24 d25 d26 d29 d30 d31 : Nat} (h : dg_ok w d0 d4 d5 d10 d11 d12 d13 d15 d16 d21 d22 d23 d24 d25 d26 d29 d30 d31) : fX1_bits w (5 : Int32) (9 : Int32) = nI (d5) := (wd_b1 w _ _ 5 22 5 (by decide) (by decide) (by decide)).trans (congrArg nI (sg_5_5 h))
theorem q_13 {w : Int32} {d0 d4 d5 d10 d11 d12 d13 d15 d16 d21 d22 d23 d24 d25 d26 d29 d30 d31 : Nat} (h : dg_ok w d0 d4 d5 d10 d11 d12 d13 d15 d16 d21 d22 d23 d24 d25 d26 d29 d30 d31) : ((fX1_bits w (5 : Int32) (9 : Int32)) = (31 : Int32)) ↔ (d5 = 31) := by
  have h9 := h
  obtain ⟨⟨b0, b4, b5, b10, b11, b12, b13, b15, b16, b21, b22, b23, b24, b25, b26, b29, b30, b31⟩, hn⟩ := h9
  clear hn
  exact wd_e (a1_5_9 h) (by omega) 31 (by decide)
theorem q_14 {w : Int32} {d0 d4 d5 d10 d11 d12 d13 d15 d16 d21 d22 d23 d24 d25 d26 d29 d30 d31 : Nat} (h : dg_ok w d0 d4 d5 d10 d11 d12 d13 d15 d16 d21 d22 d23 d24 d25 d26 d29 d30 d31) : ((fX1_bits w (5 : Int32) (9 : Int32)) = (fX1_bits w (0 : Int32) (4 : Int32))) ↔ (d5 = d0 + 16 * d4) := by
  have h9 := h
  obtain ⟨⟨b0, b4, b5, b10, b11, b12, b13, b15, b16, b21, b22, b23, b24, b25, b26, b29, b30, b31⟩, hn⟩ := h9
  clear hn
  exact wd_ee (a1_5_9 h) (a1_0_4 h) (by omega) (by omega)
theorem q_15 {w : Int32} {d0 d4 d5 d10 d11 d12 d13 d15 d16 d21 d22 d23 d24 d25 d26 d29 d30 d31 : Nat} (h : dg_ok w d0 d4 d5 d10 d11 d12 d13 d15 d16 d21 d22 d23 d24 d25 d26 d29 d30 d31) : ((fX1_bits w (5 : Int32) (9 : Int32)) = (fX1_bits w (10 : Int32) (14 : Int32))) ↔ (d5 = d10 + 2 * d11 + 4 * d12 + 8 * d13) := by
  have h9 := h
  obtain ⟨⟨b0, b4, b5, b10, b11, b12, b13, b15, b16, b21, b22, b23, b24, b25, b26, b29, b30, b31⟩, hn⟩ := h9
  clear hn
  exact wd_ee (a1_5_9 h) (a1_10_14 h) (by omega) (by omega)
theorem q_16 {w : Int32} {d0 d4 d5 d10 d11 d12 d13 d15 d16 d21 d22 d23 d24 d25 d26 d29 d30 d31 : Nat} (h : dg_ok w d0 d4 d5 d10 d11 d12 d13 d15 d16 d21 d22 d23 d24 d25 d26 d29 d30 d31) : (w < 0) ↔ (d31 = 1) := by
  obtain ⟨⟨b0, b4, b5, b10, b11, b12, b13, b15, b16, b21, b22, b23, b24, b25, b26, b29, b30, b31⟩, hn⟩ := h
  exact wd_neg (A := d0 + 16 * d4 + 32 * d5 + 1024 * d10 + 2048 * d11 + 4096 * d12 + 8192 * d13 + 32768 * d15 + 65536 * d16 + 2097152 * d21 + 4194304 * d22 + 8388608 * d23 + 16777216 * d24 + 33554432 * d25 + 67108864 * d26 + 536870912 * d29 + 1073741824 * d30) (by omega) (by omega) b31
theorem sg_15_1 {w : Int32} {d0 d4 d5 d10 d11 d12 d13 d15 d16 d21 d22 d23 d24 d25 d26 d29 d30 d31 : Nat} (h : dg_ok w d0 d4 d5 d10 d11 d12 d13 d15 d16 d21 d22 d23 d24 d25 d26 d29 d30 d31) : w.toBitVec.toNat / 2 ^ 15 % 2 ^ 1 = d15 := by
  obtain ⟨⟨b0, b4, b5, b10, b11, b12, b13, b15, b16, b21, b22, b23, b24, b25, b26, b29, b30, b31⟩, hn⟩ := h
  exact wd_cut (A := d0 + 16 * d4 + 32 * d5 + 1024 * d10 + 2048 * d11 + 4096 * d12 + 8192 * d13) (C := d15) (D := d16 + 32 * d21 + 64 * d22 + 128 * d23 + 256 * d24 + 512 * d25 + 1024 * d26 + 8192 * d29 + 16384 * d30 + 32768 * d31) (by omega) (by omega) (by omega)
theorem a1_15_15 {w : Int32} {d0 d4 d5 d10 d11 d12 d13 d15 d16 d21 d22 d23 d24 d25 d26 d29 d30 d31 : Nat} (h : dg_ok w d0 d4 d5 d10 d11 d12 d13 d15 d16 d21 d22 d23 d24 d25 d26 d29 d30 d31) : fX1_bits w (15 : Int32) (15 : Int32) = nI (d15) := (wd_b1 w _ _ 15 16 1 (by decide) (by decide) (by decide)).trans (congrArg nI (sg_15_1 h))
theorem q_17 {w : Int32} {d0 d4 d5 d10 d11 d12 d13 d15 d16 d21 d22 d23 d24 d25 d26 d29 d30 d31 : Nat} (h : dg_ok w d0 d4 d5 d10 d11 d12 d13 d15 d16 d21 d22 d23 d24 d25 d26 d29 d30 d31) : ((fX1_bits w (15 : Int32) (15 : Int32)) = 0) ↔ (d15 = 0) := by
  have h9 := h
  obtain ⟨⟨b0, b4, b5, b10, b11, b12, b13, b15, b16, b21, b22, b23, b24, b25, b26, b29, b30, b31⟩, hn⟩ := h9
  clear hn
  exact wd_e (a1_15_15 h) (by omega) 0 (by decide)
theorem sg_21_1 {w : Int32} {d0 d4 d5 d10 d11 d12 d13 d15 d16 d21 d22 d23 d24 d25 d26 d29 d30 d31 : Nat} (h : dg_ok w d0 d4 d5 d10 d11 d12 d13 d15 d16 d21 d22 d23 d24 d25 d26 d29 d30 d31) : w.toBitVec.toNat / 2 ^ 21 % 2 ^ 1 = d21 := by
  obtain ⟨⟨b0, b4, b5, b10, b11, b12, b13, b15, b16, b21, b22, b23, b24, b25, b26, b29, b30, b31⟩, hn⟩ := h
  exact wd_cut (A := d0 + 16 * d4 + 32 * d5 + 1024 * d10 + 2048 * d11 + 4096 * d12 + 8192 * d13 + 32768 * d15 + 65536 * d16) (C := d21) (D := d22 + 2 * d23 + 4 * d24 + 8 * d25 + 16 * d26 + 128 * d29 + 256 * d30 + 512 * d31) (by omega) (by omega) (by omega)
theorem a1_21_21 {w : Int32} {d0 d4 d5 d10 d11 d12 d13 d15 d16 d21 d22 d23 d24 d25 d26 d29 d30 d31 : Nat} (h : dg_ok w d0 d4 d5 d10 d11 d12 d13 d15 d16 d21 d22 d23 d24 d25 d26 d29 d30 d31) : fX1_bits w (21 : Int32) (21 : Int32) = nI (d21) := (wd_b1 w _ _ 21 10 1 (by decide) (by decide) (by decide)).trans (congrArg nI (sg_21_1 h))
theorem q_18 {w : Int32} {d0 d4 d5 d10 d11 d12 d13 d15 d16 d21 d22 d23 d24 d25 d26 d29 d30 d31 : Nat} (h : dg_ok w d0 d4 d5 d10 d11 d12 d13 d15 d16 d21 d22 d23 d24 d25 d26 d29 d30 d31) : ((fX1_bits w (21 : Int32) (21 : Int32)) = (1 : Int32)) ↔ (d21 = 1) := by
  have h9 := h
  obtain ⟨⟨b0, b4, b5, b10, b11, b12, b13, b15, b16, b21, b22, b23, b24, b25, b26, b29, b30, b31⟩, hn⟩ := h9
  clear hn
  exact wd_e (a1_21_21 h) (by omega) 1 (by decide)
theorem sg_13_3 {w : Int32} {d0 d4 d5 d10 d11 d12 d13 d15 d16 d21 d22 d23 d24 d25 d26 d29 d30 d31 : Nat} (h : dg_ok w d0 d4 d5 d10 d11 d12 d13 d15 d16 d21 d22 d23 d24 d25 d26 d29 d30 d31) : w.toBitVec.toNat / 2 ^ 13 % 2 ^ 3 = d13 + 4 * d15 := by
  obtain ⟨⟨b0, b4, b5, b10, b11, b12, b13, b15, b16, b21, b22, b23, b24, b25, b26, b29, b30, b31⟩, hn⟩ := h
  exact wd_cut (A := d0 + 16 * d4 + 32 * d5 + 1024 * d10 + 2048 * d11 + 4096 * d12) (C := d13 + 4 * d15) (D := d16 + 32 * d21 + 64 * d22 + 128 * d23 + 256 * d24 + 512 * d25 + 1024 * d26 + 8192 * d29 + 16384 * d30 + 32768 * d31) (by omega) (by omega) (by omega)
theorem a1_13_15 {w : Int32} {d0 d4 d5 d10 d11 d12 d13 d15 d16 d21 d22 d23 d24 d25 d26 d29 d30 d31 : Nat} (h : dg_ok w d0 d4 d5 d10 d11 d12 d13 d15 d16 d21 d22 d23 d24 d25 d26 d29 d30 d31) : fX1_bits w (13 : Int32) (15 : Int32) = nI (d13 + 4 * d15) := (wd_b1 w _ _ 13 16 3 (by decide) (by decide) (by decide)).trans (congrArg nI (sg_13_3 h))
theorem q_19 {w : Int32} {d0 d4 d5 d10 d11 d12 d13 d15 d16 d21 d22 d23 d24 d25 d26 d29 d30 d31 : Nat} (h : dg_ok w d0 d4 d5 d10 d11 d12 d13 d15 d16 d21 d22 d23 d24 d25 d26 d29 d30 d31) : ((fX1_bits w (13 : Int32) (15 : Int32)) = (3 : Int32)) ↔ (d13 + 4 * d15 = 3) := by
  have h9 := h
  obtain ⟨⟨b0, b4, b5, b10, b11, b12, b13, b15, b16, b21, b22, b23, b24, b25, b26, b29, b30, b31⟩, hn⟩ := h9
  clear hn
  exact wd_e (a1_13_15 h) (by omega) 3 (by decide)
theorem sg_10_2 {w : Int32} {d0 d4 d5 d10 d11 d12 d13 d15 d16 d21 d22 d23 d24 d25 d26 d29 d30 d31 : Nat} (h : dg_ok w d0 d4 d5 d10 d11 d12 d13 d15 d16 d21 d22 d23 d24 d25 d26 d29 d30 d31) : w.toBitVec.toNat / 2 ^ 10 % 2 ^ 2 = d10 + 2 * d11 := by
  obtain ⟨⟨b0, b4, b5, b10, b11, b12, b13, b15, b16, b21, b22, b23, b24, b25, b26, b29, b30, b31⟩, hn⟩ := h
  exact wd_cut (A := d0 + 16 * d4 + 32 * d5) (C := d10 + 2 * d11) (D := d12 + 2 * d13 + 8 * d15 + 16 * d16 + 512 * d21 + 1024 * d22 + 2048 * d23 + 4096 * d24 + 8192 * d25 + 16384 * d26 + 131072 * d29 + 262144 * d30 + 524288 * d31) (by omega) (by omega) (by omega)
theorem a1_10_11 {w : Int32} {d0 d4 d5 d10 d11 d12 d13 d15 d16 d21 d22 d23 d24 d25 d26 d29 d30 d31 : Nat} (h : dg_ok w d0 d4 d5 d10 d11 d12 d13 d15 d16 d21 d22 d23 d24 d25 d26 d29 d30 d31) : fX1_bits w (10 : Int32) (11 : Int32) = nI (d10 + 2 * d11) := (wd_b1 w _ _ 10 20 2 (by decide) (by decide) (by decide)).trans (congrArg nI (sg_10_2 h))
theorem q_20 {w : Int32} {d0 d4 d5 d10 d11 d12 d13 d15 d16 d21 d22 d23 d24 d25 d26 d29 d30 d31 : Nat} (h : dg_ok w d0 d4 d5 d10 d11 d12 d13 d15 d16 d21 d22 d23 d24 d25 d26 d29 d30 d31) : ((fX1_bits w (10 : Int32) (11 : Int32)) = (2 : Int32)) ↔ (d10 + 2 * d11 = 2) := by
  have h9 := h
  obtain ⟨⟨b0, b4, b5, b10, b11, b12, b13, b15, b16, b21, b22, b23, b24, b25, b26, b29, b30, b31⟩, hn⟩ := h9
  clear hn
  exact wd_e (a1_10_11 h) (by omega) 2 (by decide)
theorem sg_30_2 {w : Int32} {d0 d4 d5 d10 d11 d12 d13 d15 d16 d21 d22 d23 d24 d25 d26 d29 d30 d31 : Nat} (h : dg_ok w d0 d4 d5 d10 d11 d12 d13 d15 d16 d21 d22 d23 d24 d25 d26 d29 d30 d31) : w.toBitVec.toNat / 2 ^ 30 % 2 ^ 2 = d30 + 2 * d31 := by
  obtain ⟨⟨b0, b4, b5, b10, b11, b12, b13, b15, b16, b21, b22, b23, b24, b25, b26, b29, b30, b31⟩, hn⟩ := h
  exact wd_cut (A := d0 + 16 * d4 + 32 * d5 + 1024 * d10 + 2048 * d11 + 4096 * d12 + 8192 * d13 + 32768 * d15 + 65536 * d16 + 2097152 * d21 + 4194304 * d22 + 8388608 * d23 + 16777216 * d24 + 33554432 * d25 + 67108864 * d26 + 536870912 * d29) (C := d30 + 2 * d31) (D := 0) (by omega) (by omega) (by omega)
theorem a1_30_31 {w : Int32} {d0 d4 d5 d10 d11 d12 d13 d15 d16 d21 d22 d23 d24 d25 d26 d29 d30 d31 : Nat} (h : dg_ok w d0 d4 d5 d10 d11 d12 d13 d15 d16 d21 d22 d23 d24 d25 d26 d29 d30 d31) : fX1_bits w (30 : Int32) (31 : Int32) = nI (d30 + 2 * d31) := (wd_b1 w _ _ 30 0 2 (by decide) (by decide) (by decide)).trans (congrArg nI (sg_30_2 h))
theorem q_21 {w : Int32} {d0 d4 d5 d10 d11 d12 d13 d15 d16 d21 d22 d23 d24 d25 d26 d29 d30 d31 : Nat} (h : dg_ok w d0 d4 d5 d10 d11 d12 d13 d15 d16 d21 d22 d23 d24 d25 d26 d29 d30 d31) : ((fX1_bits w (30 : Int32) (31 : Int32)) = (1 : Int32)) ↔ (d30 + 2 * d31 = 1) := by
  have h9 := h
  obtain ⟨⟨b0, b4, b5, b10, b11, b12, b13, b15, b16, b21, b22, b23, b24, b25, b26, b29, b30, b31⟩, hn⟩ := h9
  clear hn
  exact wd_e (a1_30_31 h) (by omega) 1 (by decide)
theorem sg_22_2 {w : Int32} {d0 d4 d5 d10 d11 d12 d13 d15 d16 d21 d22 d23 d24 d25 d26 d29 d30 d31 : Nat} (h : dg_ok w d0 d4 d5 d10 d11 d12 d13 d15 d16 d21 d22 d23 d24 d25 d26 d29 d30 d31) : w.toBitVec.toNat / 2 ^ 22 % 2 ^ 2 = d22 + 2 * d23 := by
  obtain ⟨⟨b0, b4, b5, b10, b11, b12, b13, b15, b16, b21, b22, b23, b24, b25, b26, b29, b30, b31⟩, hn⟩ := h
  exact wd_cut (A := d0 + 16 * d4 + 32 * d5 + 1024 * d10 + 2048 * d11 + 4096 * d12 + 8192 * d13 + 32768 * d15 + 65536 * d16 + 2097152 * d21) (C := d22 + 2 * d23) (D := d24 + 2 * d25 + 4 * d26 + 32 * d29 + 64 * d30 + 128 * d31) (by omega) (by omega) (by omega)
theorem a1_22_23 {w : Int32} {d0 d4 d5 d10 d11 d12 d13 d15 d16 d21 d22 d23 d24 d25 d26 d29 d30 d31 : Nat} (h : dg_ok w d0 d4 d5 d10 d11 d12 d13 d15 d16 d21 d22 d23 d24 d25 d26 d29 d30 d31) : fX1_bits w (22 : Int32) (23 : Int32) = nI (d22 + 2 * d23) := (wd_b1 w _ _ 22 8 2 (by decide) (by decide) (by decide)).trans (congrArg nI (sg_22_2 h))
theorem q_22 {w : Int32} {d0 d4 d5 d10 d11 d12 d13 d15 d16 d21 d22 d23 d24 d25 d26 d29 d30 d31 : Nat} (h : dg_ok w d0 d4 d5 d10 d11 d12 d13 d15 d16 d21 d22 d23 d24 d25 d26 d29 d30 d31) : ((fX1_bits w (22 : Int32) (23 : Int32)) < (2 : Int32)) ↔ (d22 + 2 * d23 < 2) := by
  have h9 := h
  obtain ⟨⟨b0, b4, b5, b10, b11, b12, b13, b15, b16, b21, b22, b23, b24, b25, b26, b29, b30, b31⟩, hn⟩ := h9
  clear hn
  exact wd_lt (a1_22_23 h) (by omega) 2 (by decide)
theorem q_23 {w : Int32} {d0 d4 d5 d10 d11 d12 d13 d15 d16 d21 d22 d23 d24 d25 d26 d29 d30 d31 : Nat} (h : dg_ok w d0 d4 d5 d10 d11 d12 d13 d15 d16 d21 d22 d23 d24 d25 d26 d29 d30 d31) : ((fX1_bits w (22 : Int32) (23 : Int32)) = (2 : Int32)) ↔ (d22 + 2 * d23 = 2) := by
  have h9 := h
  obtain ⟨⟨b0, b4, b5, b10, b11, b12, b13, b15, b16, b21, b22, b23, b24, b25, b26, b29, b30, b31⟩, hn⟩ := h9
  clear hn
  exact wd_e (a1_22_23 h) (by omega) 2 (by decide)
theorem q_24 {w : Int32} {d0 d4 d5 d10 d11 d12 d13 d15 d16 d21 d22 d23 d24 d25 d26 d29 d30 d31 : Nat} (h : dg_ok w d0 d4 d5 d10 d11 d12 d13 d15 d16 d21 d22 d23 d24 d25 d26 d29 d30 d31) : ((fX1_bits w (30 : Int32) (31 : Int32)) = (2 : Int32)) ↔ (d30 + 2 * d31 = 2) := by
  have h9 := h
  obtain ⟨⟨b0, b4, b5, b10, b11, b12, b13, b15, b16, b21, b22, b23, b24, b25, b26, b29, b30, b31⟩, hn⟩ := h9
  clear hn
  exact wd_e (a1_30_31 h) (by omega) 2 (by decide)
theorem sg_21_3 {w : Int32} {d0 d4 d5 d10 d11 d12 d13 d15 d16 d21 d22 d23 d24 d25 d26 d29 d30 d31 : Nat} (h : dg_ok w d0 d4 d5 d10 d11 d12 d13 d15 d16 d21 d22 d23 d24 d25 d26 d29 d30 d31) : w.toBitVec.toNat / 2 ^ 21 % 2 ^ 3 = d21 + 2 * d22 + 4 * d23 := by
  obtain ⟨⟨b0, b4, b5, b10, b11, b12, b13, b15, b16, b21, b22, b23, b24, b25, b26, b29, b30, b31⟩, hn⟩ := h
  exact wd_cut (A := d0 + 16 * d4 + 32 * d5 + 1024 * d10 + 2048 * d11 + 4096 * d12 + 8192 * d13 + 32768 * d15 + 65536 * d16) (C := d21 + 2 * d22 + 4 * d23) (D := d24 + 2 * d25 + 4 * d26 + 32 * d29 + 64 * d30 + 128 * d31) (by omega) (by omega) (by omega)
theorem a1_21_23 {w : Int32} {d0 d4 d5 d10 d11 d12 d13 d15 d16 d21 d22 d23 d24 d25 d26 d29 d30 d31 : Nat} (h : dg_ok w d0 d4 d5 d10 d11 d12 d13 d15 d16 d21 d22 d23 d24 d25 d26 d29 d30 d31) : fX1_bits w (21 : Int32) (23 : Int32) = nI (d21 + 2 * d22 + 4 * d23) := (wd_b1 w _ _ 21 8 3 (by decide) (by decide) (by decide)).trans (congrArg nI (sg_21_3 h))
theorem q_25 {w : Int32} {d0 d4 d5 d10 d11 d12 d13 d15 d16 d21 d22 d23 d24 d25 d26 d29 d30 d31 : Nat} (h : dg_ok w d0 d4 d5 d10 d11 d12 d13 d15 d16 d21 d22 d23 d24 d25 d26 d29 d30 d31) : (0 < (fX1_bits w (0 : Int32) (4 : Int32))) ↔ (0 < d0 + 16 * d4) := by
  have h9 := h
  obtain ⟨⟨b0, b4, b5, b10, b11, b12, b13, b15, b16, b21, b22, b23, b24, b25, b26, b29, b30, b31⟩, hn⟩ := h9
  clear hn
  exact wd_gt (a1_0_4 h) (by omega) 0 (by decide)
theorem a1_10_15 {w : Int32} {d0 d4 d5 d10 d11 d12 d13 d15 d16 d21 d22 d23 d24 d25 d26 d29 d30 d31 : Nat} (h : dg_ok w d0 d4 d5 d10 d11 d12 d13 d15 d16 d21 d22 d23 d24 d25 d26 d29 d30 d31) : fX1_bits w (10 : Int32) (15 : Int32) = nI (d10 + 2 * d11 + 4 * d12 + 8 * d13 + 32 * d15) := (wd_b1 w _ _ 10 16 6 (by decide) (by decide) (by decide)).trans (congrArg nI (sg_10_6 h))
theorem q_26 {w : Int32} {d0 d4 d5 d10 d11 d12 d13 d15 d16 d21 d22 d23 d24 d25 d26 d29 d30 d31 : Nat} (h : dg_ok w d0 d4 d5 d10 d11 d12 d13 d15 d16 d21 d22 d23 d24 d25 d26 d29 d30 d31) : (0 < (fX1_bits w (10 : Int32) (15 : Int32))) ↔ (0 < d10 + 2 * d11 + 4 * d12 + 8 * d13 + 32 * d15) := by
  have h9 := h
  obtain ⟨⟨b0, b4, b5, b10, b11, b12, b13, b15, b16, b21, b22, b23, b24, b25, b26, b29, b30, b31⟩, hn⟩ := h9
  clear hn
  exact wd_gt (a1_10_15 h) (by omega) 0 (by decide)
theorem sg_16_5 {w : Int32} {d0 d4 d5 d10 d11 d12 d13 d15 d16 d21 d22 d23 d24 d25 d26 d29 d30 d31 : Nat} (h : dg_ok w d0 d4 d5 d10 d11 d12 d13 d15 d16 d21 d22 d23 d24 d25 d26 d29 d30 d31) : w.toBitVec.toNat / 2 ^ 16 % 2 ^ 5 = d16 := by
  obtain ⟨⟨b0, b4, b5, b10, b11, b12, b13, b15, b16, b21, b22, b23, b24, b25, b26, b29, b30, b31⟩, hn⟩ := h
  exact wd_cut (A := d0 + 16 * d4 + 32 * d5 + 1024 * d10 + 2048 * d11 + 4096 * d12 + 8192 * d13 + 32768 * d15) (C := d16) (D := d21 + 2 * d22 + 4 * d23 + 8 * d24 + 16 * d25 + 32 * d26 + 256 * d29 + 512 * d30 + 1024 * d31) (by omega) (by omega) (by omega)
theorem a1_16_20 {w : Int32} {d0 d4 d5 d10 d11 d12 d13 d15 d16 d21 d22 d23 d24 d25 d26 d29 d30 d31 : Nat} (h : dg_ok w d0 d4 d5 d10 d11 d12 d13 d15 d16 d21 d22 d23 d24 d25 d26 d29 d30 d31) : fX1_bits w (16 : Int32) (20 : Int32) = nI (d16) := (wd_b1 w _ _ 16 11 5 (by decide) (by decide) (by decide)).trans (congrArg nI (sg_16_5 h))
theorem q_27 {w : Int32} {d0 d4 d5 d10 d11 d12 d13 d15 d16 d21 d22 d23 d24 d25 d26 d29 d30 d31 : Nat} (h : dg_ok w d0 d4 d5 d10 d11 d12 d13 d15 d16 d21 d22 d23 d24 d25 d26 d29 d30 d31) : ((fX1_bits w (16 : Int32) (20 : Int32)) = (31 : Int32)) ↔ (d16 = 31) := by
  have h9 := h
  obtain ⟨⟨b0, b4, b5, b10, b11, b12, b13, b15, b16, b21, b22, b23, b24, b25, b26, b29, b30, b31⟩, hn⟩ := h9
  clear hn
  exact wd_e (a1_16_20 h) (by omega) 31 (by decide)
theorem q_28 {w : Int32} {d0 d4 d5 d10 d11 d12 d13 d15 d16 d21 d22 d23 d24 d25 d26 d29 d30 d31 : Nat} (h : dg_ok w d0 d4 d5 d10 d11 d12 d13 d15 d16 d21 d22 d23 d24 d25 d26 d29 d30 d31) : ((3 : Int32) ≤ (fX1_bits w (21 : Int32) (23 : Int32))) ↔ (3 ≤ d21 + 2 * d22 + 4 * d23) := by
  have h9 := h
  obtain ⟨⟨b0, b4, b5, b10, b11, b12, b13, b15, b16, b21, b22, b23, b24, b25, b26, b29, b30, b31⟩, hn⟩ := h9
  clear hn
  exact wd_ge (a1_21_23 h) (by omega) 3 (by decide)
theorem sg_26_6 {w : Int32} {d0 d4 d5 d10 d11 d12 d13 d15 d16 d21 d22 d23 d24 d25 d26 d29 d30 d31 : Nat} (h : dg_ok w d0 d4 d5 d10 d11 d12 d13 d15 d16 d21 d22 d23 d24 d25 d26 d29 d30 d31) : w.toBitVec.toNat / 2 ^ 26 % 2 ^ 6 = d26 + 8 * d29 + 16 * d30 + 32 * d31 := by
  obtain ⟨⟨b0, b4, b5, b10, b11, b12, b13, b15, b16, b21, b22, b23, b24, b25, b26, b29, b30, b31⟩, hn⟩ := h
  exact wd_cut (A := d0 + 16 * d4 + 32 * d5 + 1024 * d10 + 2048 * d11 + 4096 * d12 + 8192 * d13 + 32768 * d15 + 65536 * d16 + 2097152 * d21 + 4194304 * d22 + 8388608 * d23 + 16777216 * d24 + 33554432 * d25) (C := d26 + 8 * d29 + 16 * d30 + 32 * d31) (D := 0) (by omega) (by omega) (by omega)
theorem a1_26_31 {w : Int32} {d0 d4 d5 d10 d11 d12 d13 d15 d16 d21 d22 d23 d24 d25 d26 d29 d30 d31 : Nat} (h : dg_ok w d0 d4 d5 d10 d11 d12 d13 d15 d16 d21 d22 d23 d24 d25 d26 d29 d30 d31) : fX1_bits w (26 : Int32) (31 : Int32) = nI (d26 + 8 * d29 + 16 * d30 + 32 * d31) := (wd_b1 w _ _ 26 0 6 (by decide) (by decide) (by decide)).trans (congrArg nI (sg_26_6 h))
theorem q_29 {w : Int32} {d0 d4 d5 d10 d11 d12 d13 d15 d16 d21 d22 d23 d24 d25 d26 d29 d30 d31 : Nat} (h : dg_ok w d0 d4 d5 d10 d11 d12 d13 d15 d16 d21 d22 d23 d24 d25 d26 d29 d30 d31) : ((fX1_bits w (26 : Int32) (31 : Int32)) = (5 : Int32)) ↔ (d26 + 8 * d29 + 16 * d30 + 32 * d31 = 5) := by
  have h9 := h
  obtain ⟨⟨b0, b4, b5, b10, b11, b12, b13, b15, b16, b21, b22, b23, b24, b25, b26, b29, b30, b31⟩, hn⟩ := h9
  clear hn
  exact wd_e (a1_26_31 h) (by omega) 5 (by decide)
theorem q_30 {w : Int32} {d0 d4 d5 d10 d11 d12 d13 d15 d16 d21 d22 d23 d24 d25 d26 d29 d30 d31 : Nat} (h : dg_ok w d0 d4 d5 d10 d11 d12 d13 d15 d16 d21 d22 d23 d24 d25 d26 d29 d30 d31) : ((fX1_bits w (26 : Int32) (31 : Int32)) = (37 : Int32)) ↔ (d26 + 8 * d29 + 16 * d30 + 32 * d31 = 37) := by
  have h9 := h
  obtain ⟨⟨b0, b4, b5, b10, b11, b12, b13, b15, b16, b21, b22, b23, b24, b25, b26, b29, b30, b31⟩, hn⟩ := h9
  clear hn
  exact wd_e (a1_26_31 h) (by omega) 37 (by decide)
theorem sg_24_8 {w : Int32} {d0 d4 d5 d10 d11 d12 d13 d15 d16 d21 d22 d23 d24 d25 d26 d29 d30 d31 : Nat} (h : dg_ok w d0 d4 d5 d10 d11 d12 d13 d15 d16 d21 d22 d23 d24 d25 d26 d29 d30 d31) : w.toBitVec.toNat / 2 ^ 24 % 2 ^ 8 = d24 + 2 * d25 + 4 * d26 + 32 * d29 + 64 * d30 + 128 * d31 := by
  obtain ⟨⟨b0, b4, b5, b10, b11, b12, b13, b15, b16, b21, b22, b23, b24, b25, b26, b29, b30, b31⟩, hn⟩ := h
  exact wd_cut (A := d0 + 16 * d4 + 32 * d5 + 1024 * d10 + 2048 * d11 + 4096 * d12 + 8192 * d13 + 32768 * d15 + 65536 * d16 + 2097152 * d21 + 4194304 * d22 + 8388608 * d23) (C := d24 + 2 * d25 + 4 * d26 + 32 * d29 + 64 * d30 + 128 * d31) (D := 0) (by omega) (by omega) (by omega)
theorem a1_24_31 {w : Int32} {d0 d4 d5 d10 d11 d12 d13 d15 d16 d21 d22 d23 d24 d25 d26 d29 d30 d31 : Nat} (h : dg_ok w d0 d4 d5 d10 d11 d12 d13 d15 d16 d21 d22 d23 d24 d25 d26 d29 d30 d31) : fX1_bits w (24 : Int32) (31 : Int32) = nI (d24 + 2 * d25 + 4 * d26 + 32 * d29 + 64 * d30 + 128 * d31) := (wd_b1 w _ _ 24 0 8 (by decide) (by decide) (by decide)).trans (congrArg nI (sg_24_8 h))
theorem q_31 {w : Int32} {d0 d4 d5 d10 d11 d12 d13 d15 d16 d21 d22 d23 d24 d25 d26 d29 d30 d31 : Nat} (h : dg_ok w d0 d4 d5 d10 d11 d12 d13 d15 d16 d21 d22 d23 d24 d25 d26 d29 d30 d31) : ((fX1_bits w (24 : Int32) (31 : Int32)) = (84 : Int32)) ↔ (d24 + 2 * d25 + 4 * d26 + 32 * d29 + 64 * d30 + 128 * d31 = 84) := by
  have h9 := h
  obtain ⟨⟨b0, b4, b5, b10, b11, b12, b13, b15, b16, b21, b22, b23, b24, b25, b26, b29, b30, b31⟩, hn⟩ := h9
  clear hn
  exact wd_e (a1_24_31 h) (by omega) 84 (by decide)
theorem sg_4_1 {w : Int32} {d0 d4 d5 d10 d11 d12 d13 d15 d16 d21 d22 d23 d24 d25 d26 d29 d30 d31 : Nat} (h : dg_ok w d0 d4 d5 d10 d11 d12 d13 d15 d16 d21 d22 d23 d24 d25 d26 d29 d30 d31) : w.toBitVec.toNat / 2 ^ 4 % 2 ^ 1 = d4 := by
  obtain ⟨⟨b0, b4, b5, b10, b11, b12, b13, b15, b16, b21, b22, b23, b24, b25, b26, b29, b30, b31⟩, hn⟩ := h
  exact wd_cut (A := d0) (C := d4) (D := d5 + 32 * d10 + 64 * d11 + 128 * d12 + 256 * d13 + 1024 * d15 + 2048 * d16 + 65536 * d21 + 131072 * d22 + 262144 * d23 + 524288 * d24 + 1048576 * d25 + 2097152 * d26 + 16777216 * d29 + 33554432 * d30 + 67108864 * d31) (by omega) (by omega) (by omega)
theorem a1_4_4 {w : Int32} {d0 d4 d5 d10 d11 d12 d13 d15 d16 d21 d22 d23 d24 d25 d26 d29 d30 d31 : Nat} (h : dg_ok w d0 d4 d5 d10 d11 d12 d13 d15 d16 d21 d22 d23 d24 d25 d26 d29 d30 d31) : fX1_bits w (4 : Int32) (4 : Int32) = nI (d4) := (wd_b1 w _ _ 4 27 1 (by decide) (by decide) (by decide)).trans (congrArg nI (sg_4_1 h))
theorem q_32 {w : Int32} {d0 d4 d5 d10 d11 d12 d13 d15 d16 d21 d22 d23 d24 d25 d26 d29 d30 d31 : Nat} (h : dg_ok w d0 d4 d5 d10 d11 d12 d13 d15 d16 d21 d22 d23 d24 d25 d26 d29 d30 d31) : ((fX1_bits w (4 : Int32) (4 : Int32)) = 0) ↔ (d4 = 0) := by
  have h9 := h
  obtain ⟨⟨b0, b4, b5, b10, b11, b12, b13, b15, b16, b21, b22, b23, b24, b25, b26, b29, b30, b31⟩, hn⟩ := h9
  clear hn
  exact wd_e (a1_4_4 h) (by omega) 0 (by decide)
theorem sg_0_4 {w : Int32} {d0 d4 d5 d10 d11 d12 d13 d15 d16 d21 d22 d23 d24 d25 d26 d29 d30 d31 : Nat} (h : dg_ok w d0 d4 d5 d10 d11 d12 d13 d15 d16 d21 d22 d23 d24 d25 d26 d29 d30 d31) : w.toBitVec.toNat / 2 ^ 0 % 2 ^ 4 = d0 := by
  obtain ⟨⟨b0, b4, b5, b10, b11, b12, b13, b15, b16, b21, b22, b23, b24, b25, b26, b29, b30, b31⟩, hn⟩ := h
  exact wd_cut (A := 0) (C := d0) (D := d4 + 2 * d5 + 64 * d10 + 128 * d11 + 256 * d12 + 512 * d13 + 2048 * d15 + 4096 * d16 + 131072 * d21 + 262144 * d22 + 524288 * d23 + 1048576 * d24 + 2097152 * d25 + 4194304 * d26 + 33554432 * d29 + 67108864 * d30 + 134217728 * d31) (by omega) (by omega) (by omega)
theorem a1_0_3 {w : Int32} {d0 d4 d5 d10 d11 d12 d13 d15 d16 d21 d22 d23 d24 d25 d26 d29 d30 d31 : Nat} (h : dg_ok w d0 d4 d5 d10 d11 d12 d13 d15 d16 d21 d22 d23 d24 d25 d26 d29 d30 d31) : fX1_bits w (0 : Int32) (3 : Int32) = nI (d0) := (wd_b1 w _ _ 0 28 4 (by decide) (by decide) (by decide)).trans (congrArg nI (sg_0_4 h))
theorem q_33 {w : Int32} {d0 d4 d5 d10 d11 d12 d13 d15 d16 d21 d22 d23 d24 d25 d26 d29 d30 d31 : Nat} (h : dg_ok w d0 d4 d5 d10 d11 d12 d13 d15 d16 d21 d22 d23 d24 d25 d26 d29 d30 d31) : ((14 : Int32) ≤ (fX1_bits w (0 : Int32) (3 : Int32))) ↔ (14 ≤ d0) := by
  have h9 := h
  obtain ⟨⟨b0, b4, b5, b10, b11, b12, b13, b15, b16, b21, b22, b23, b24, b25, b26, b29, b30, b31⟩, hn⟩ := h9
  clear hn
  exact wd_ge (a1_0_3 h) (by omega) 14 (by decide)
theorem sg_25_6 {w : Int32} {d0 d4 d5 d10 d11 d12 d13 d15 d16 d21 d22 d23 d24 d25 d26 d29 d30 d31 : Nat} (h : dg_ok w d0 d4 d5 d10 d11 d12 d13 d15 d16 d21 d22 d23 d24 d25 d26 d29 d30 d31) : w.toBitVec.toNat / 2 ^ 25 % 2 ^ 6 = d25 + 2 * d26 + 16 * d29 + 32 * d30 := by
  obtain ⟨⟨b0, b4, b5, b10, b11, b12, b13, b15, b16, b21, b22, b23, b24, b25, b26, b29, b30, b31⟩, hn⟩ := h
  exact wd_cut (A := d0 + 16 * d4 + 32 * d5 + 1024 * d10 + 2048 * d11 + 4096 * d12 + 8192 * d13 + 32768 * d15 + 65536 * d16 + 2097152 * d21 + 4194304 * d22 + 8388608 * d23 + 16777216 * d24) (C := d25 + 2 * d26 + 16 * d29 + 32 * d30) (D := d31) (by omega) (by omega) (by omega)
theorem a1_25_30 {w : Int32} {d0 d4 d5 d10 d11 d12 d13 d15 d16 d21 d22 d23 d24 d25 d26 d29 d30 d31 : Nat} (h : dg_ok w d0 d4 d5 d10 d11 d12 d13 d15 d16 d21 d22 d23 d24 d25 d26 d29 d30 d31) : fX1_bits w (25 : Int32) (30 : Int32) = nI (d25 + 2 * d26 + 16 * d29 + 32 * d30) := (wd_b1 w _ _ 25 1 6 (by decide) (by decide) (by decide)).trans (congrArg nI (sg_25_6 h))
theorem q_34 {w : Int32} {d0 d4 d5 d10 d11 d12 d13 d15 d16 d21 d22 d23 d24 d25 d26 d29 d30 d31 : Nat} (h : dg_ok w d0 d4 d5 d10 d11 d12 d13 d15 d16 d21 d22 d23 d24 d25 d26 d29 d30 d31) : ((fX1_bits w (25 : Int32) (30 : Int32)) = (26 : Int32)) ↔ (d25 + 2 * d26 + 16 * d29 + 32 * d30 = 26) := by
  have h9 := h
  obtain ⟨⟨b0, b4, b5, b10, b11, b12, b13, b15, b16, b21, b22, b23, b24, b25, b26, b29, b30, b31⟩, hn⟩ := h9
  clear hn
  exact wd_e (a1_25_30 h) (by omega) 26 (by decide)
theorem q_35 {w : Int32} {d0 d4 d5 d10 d11 d12 d13 d15 d16 d21 d22 d23 d24 d25 d26 d29 d30 d31 : Nat} (h : dg_ok w d0 d4 d5 d10 d11 d12 d13 d15 d16 d21 d22 d23 d24 d25 d26 d29 d30 d31) : ((fX1_bits w (25 : Int32) (30 : Int32)) = (27 : Int32)) ↔ (d25 + 2 * d26 + 16 * d29 + 32 * d30 = 27) := by
  have h9 := h
  obtain ⟨⟨b0, b4, b5, b10, b11, b12, b13, b15, b16, b21, b22, b23, b24, b25, b26, b29, b30, b31⟩, hn⟩ := h9
  clear hn
  exact wd_e (a1_25_30 h) (by omega) 27 (by decide)
theorem q_36 {w : Int32} {d0 d4 d5 d10 d11 d12 d13 d15 d16 d21 d22 d23 d24 d25 d26 d29 d30 d31 : Nat} (h : dg_ok w d0 d4 d5 d10 d11 d12 d13 d15 d16 d21 d22 d23 d24 d25 d26 d29 d30 d31) : ((fX1_bits w (24 : Int32) (31 : Int32)) = (214 : Int32)) ↔ (d24 + 2 * d25 + 4 * d26 + 32 * d29 + 64 * d30 + 128 * d31 = 214) := by
  have h9 := h
  obtain ⟨⟨b0, b4, b5, b10, b11, b12, b13, b15, b16, b21, b22, b23, b24, b25, b26, b29, b30, b31⟩, hn⟩ := h9
  clear hn
  exact wd_e (a1_24_31 h) (by omega) 214 (by decide)
theorem sg_21_11 {w : Int32} {d0 d4 d5 d10 d11 d12 d13 d15 d16 d21 d22 d23 d24 d25 d26 d29 d30 d31 : Nat} (h : dg_ok w d0 d4 d5 d10 d11 d12 d13 d15 d16 d21 d22 d23 d24 d25 d26 d29 d30 d31) : w.toBitVec.toNat / 2 ^ 21 % 2 ^ 11 = d21 + 2 * d22 + 4 * d23 + 8 * d24 + 16 * d25 + 32 * d26 + 256 * d29 + 512 * d30 + 1024 * d31 := by
  obtain ⟨⟨b0, b4, b5, b10, b11, b12, b13, b15, b16, b21, b22, b23, b24, b25, b26, b29, b30, b31⟩, hn⟩ := h
  exact wd_cut (A := d0 + 16 * d4 + 32 * d5 + 1024 * d10 + 2048 * d11 + 4096 * d12 + 8192 * d13 + 32768 * d15 + 65536 * d16) (C := d21 + 2 * d22 + 4 * d23 + 8 * d24 + 16 * d25 + 32 * d26 + 256 * d29 + 512 * d30 + 1024 * d31) (D := 0) (by omega) (by omega) (by omega)
theorem a1_21_31 {w : Int32} {d0 d4 d5 d10 d11 d12 d13 d15 d16 d21 d22 d23 d24 d25 d26 d29 d30 d31 : Nat} (h : dg_ok w d0 d4 d5 d10 d11 d12 d13 d15 d16 d21 d22 d23 d24 d25 d26 d29 d30 d31) : fX1_bits w (21 : Int32) (31 : Int32) = nI (d21 + 2 * d22 + 4 * d23 + 8 * d24 + 16 * d25 + 32 * d26 + 256 * d29 + 512 * d30 + 1024 * d31) := (wd_b1 w _ _ 21 0 11 (by decide) (by decide) (by decide)).trans (congrArg nI (sg_21_11 h))
theorem q_37 {w : Int32} {d0 d4 d5 d10 d11 d12 d13 d15 d16 d21 d22 d23 d24 d25 d26 d29 d30 d31 : Nat} (h : dg_ok w d0 d4 d5 d10 d11 d12 d13 d15 d16 d21 d22 d23 d24 d25 d26 d29 d30 d31) : ((fX1_bits w (21 : Int32) (31 : Int32)) = (1696 : Int32)) ↔ (d21 + 2 * d22 + 4 * d23 + 8 * d24 + 16 * d25 + 32 * d26 + 256 * d29 + 512 * d30 + 1024 * d31 = 1696) := by
  have h9 := h
  obtain ⟨⟨b0, b4, b5, b10, b11, b12, b13, b15, b16, b21, b22, b23, b24, b25, b26, b29, b30, b31⟩, hn⟩ := h9
  clear hn
  exact wd_e (a1_21_31 h) (by omega) 1696 (by decide)
theorem q_38 {w : Int32} {d0 d4 d5 d10 d11 d12 d13 d15 d16 d21 d22 d23 d24 d25 d26 d29 d30 d31 : Nat} (h : dg_ok w d0 d4 d5 d10 d11 d12 d13 d15 d16 d21 d22 d23 d24 d25 d26 d29 d30 d31) : ((fX1_bits w (0 : Int32) (4 : Int32)) = (1 : Int32)) ↔ (d0 + 16 * d4 = 1) := by
  have h9 := h
  obtain ⟨⟨b0, b4, b5, b10, b11, b12, b13, b15, b16, b21, b22, b23, b24, b25, b26, b29, b30, b31⟩, hn⟩ := h9
  clear hn
  exact wd_e (a1_0_4 h) (by omega) 1 (by decide)
theorem q_39 {w : Int32} {d0 d4 d5 d10 d11 d12 d13 d15 d16 d21 d22 d23 d24 d25 d26 d29 d30 d31 : Nat} (h : dg_ok w d0 d4 d5 d10 d11 d12 d13 d15 d16 d21 d22 d23 d24 d25 d26 d29 d30 d31) : (w = (-721215457 : Int32)) ↔ (d0 + 16 * d4 + 32 * d5 + 1024 * d10 + 2048 * d11 + 4096 * d12 + 8192 * d13 + 32768 * d15 + 65536 * d16 + 2097152 * d21 + 4194304 * d22 + 8388608 * d23 + 16777216 * d24 + 33554432 * d25 + 67108864 * d26 + 536870912 * d29 + 1073741824 * d30 + 2147483648 * d31 = 3573751839) := by
  obtain ⟨⟨b0, b4, b5, b10, b11, b12, b13, b15, b16, b21, b22, b23, b24, b25, b26, b29, b30, b31⟩, hn⟩ := h
  rw [← hn]
  exact ⟨fun g => by rw [g]; decide, fun g => wd_inj (by rw [g]; decide)⟩
theorem q_40 {w : Int32} {d0 d4 d5 d10 d11 d12 d13 d15 d16 d21 d22 d23 d24 d25 d26 d29 d30 d31 : Nat} (h : dg_ok w d0 d4 d5 d10 d11 d12 d13 d15 d16 d21 d22 d23 d24 d25 d26 d29 d30 d31) : ((fX1_bits w (21 : Int32) (23 : Int32)) = (6 : Int32)) ↔ (d21 + 2 * d22 + 4 * d23 = 6) := by
  have h9 := h
  obtain ⟨⟨b0, b4, b5, b10, b11, b12, b13, b15, b16, b21, b22, b23, b24, b25, b26, b29, b30, b31⟩, hn⟩ := h9
  clear hn
  exact wd_e (a1_21_23 h) (by omega) 6 (by decide)
theorem q_41 {w : Int32} {d0 d4 d5 d10 d11 d12 d13 d15 d16 d21 d22 d23 d24 d25 d26 d29 d30 d31 : Nat} (h : dg_ok w d0 d4 d5 d10 d11 d12 d13 d15 d16 d21 d22 d23 d24 d25 d26 d29 d30 d31) : ((fX1_bits w (10 : Int32) (15 : Int32)) = (2 : Int32)) ↔ (d10 + 2 * d11 + 4 * d12 + 8 * d13 + 32 * d15 = 2) := by
  have h9 := h
  obtain ⟨⟨b0, b4, b5, b10, b11, b12, b13, b15, b16, b21, b22, b23, b24, b25, b26, b29, b30, b31⟩, hn⟩ := h9
  clear hn
  exact wd_e (a1_10_15 h) (by omega) 2 (by decide)
theorem q_42 {w : Int32} {d0 d4 d5 d10 d11 d12 d13 d15 d16 d21 d22 d23 d24 d25 d26 d29 d30 d31 : Nat} (h : dg_ok w d0 d4 d5 d10 d11 d12 d13 d15 d16 d21 d22 d23 d24 d25 d26 d29 d30 d31) : ((fX1_bits w (10 : Int32) (15 : Int32)) = (3 : Int32)) ↔ (d10 + 2 * d11 + 4 * d12 + 8 * d13 + 32 * d15 = 3) := by
  have h9 := h
  obtain ⟨⟨b0, b4, b5, b10, b11, b12, b13, b15, b16, b21, b22, b23, b24, b25, b26, b29, b30, b31⟩, hn⟩ := h9
  clear hn
  exact wd_e (a1_10_15 h) (by omega) 3 (by decide)
theorem q_43 {w : Int32} {d0 d4 d5 d10 d11 d12 d13 d15 d16 d21 d22 d23 d24 d25 d26 d29 d30 d31 : Nat} (h : dg_ok w d0 d4 d5 d10 d11 d12 d13 d15 d16 d21 d22 d23 d24 d25 d26 d29 d30 d31) : ((fX1_bits w (10 : Int32) (15 : Int32)) ≤ (7 : Int32)) ↔ (d10 + 2 * d11 + 4 * d12 + 8 * d13 + 32 * d15 ≤ 7) := by
  have h9 := h
  obtain ⟨⟨b0, b4, b5, b10, b11, b12, b13, b15, b16, b21, b22, b23, b24, b25, b26, b29, b30, b31⟩, hn⟩ := h9
  clear hn
  exact wd_le (a1_10_15 h) (by omega) 7 (by decide)
theorem q_44 {w : Int32} {d0 d4 d5 d10 d11 d12 d13 d15 d16 d21 d22 d23 d24 d25 d26 d29 d30 d31 : Nat} (h : dg_ok w d0 d4 d5 d10 d11 d12 d13 d15 d16 d21 d22 d23 d24 d25 d26 d29 d30 d31) : ((11 : Int32) ≤ (fX1_bits w (10 : Int32) (15 : Int32))) ↔ (11 ≤ d10 + 2 * d11 + 4 * d12 + 8 * d13 + 32 * d15) := by
  have h9 := h
  obtain ⟨⟨b0, b4, b5, b10, b11, b12, b13, b15, b16, b21, b22, b23, b24, b25, b26, b29, b30, b31⟩, hn⟩ := h9
  clear hn
  exact wd_ge (a1_10_15 h) (by omega) 11 (by decide)
theorem q_45 {w : Int32} {d0 d4 d5 d10 d11 d12 d13 d15 d16 d21 d22 d23 d24 d25 d26 d29 d30 d31 : Nat} (h : dg_ok w d0 d4 d5 d10 d11 d12 d13 d15 d16 d21 d22 d23 d24 d25 d26 d29 d30 d31) : ((fX1_bits w (21 : Int32) (23 : Int32)) = (4 : Int32)) ↔ (d21 + 2 * d22 + 4 * d23 = 4) := by
  have h9 := h
  obtain ⟨⟨b0, b4, b5, b10, b11, b12, b13, b15, b16, b21, b22, b23, b24, b25, b26, b29, b30, b31⟩, hn⟩ := h9
  clear hn
  exact wd_e (a1_21_23 h) (by omega) 4 (by decide)
theorem sg_11_1 {w : Int32} {d0 d4 d5 d10 d11 d12 d13 d15 d16 d21 d22 d23 d24 d25 d26 d29 d30 d31 : Nat} (h : dg_ok w d0 d4 d5 d10 d11 d12 d13 d15 d16 d21 d22 d23 d24 d25 d26 d29 d30 d31) : w.toBitVec.toNat / 2 ^ 11 % 2 ^ 1 = d11 := by
  obtain ⟨⟨b0, b4, b5, b10, b11, b12, b13, b15, b16, b21, b22, b23, b24, b25, b26, b29, b30, b31⟩, hn⟩ := h
  exact wd_cut (A := d0 + 16 * d4 + 32 * d5 + 1024 * d10) (C := d11) (D := d12 + 2 * d13 + 8 * d15 + 16 * d16 + 512 * d21 + 1024 * d22 + 2048 * d23 + 4096 * d24 + 8192 * d25 + 16384 * d26 + 131072 * d29 + 262144 * d30 + 524288 * d31) (by omega) (by omega) (by omega)
theorem a1_11_11 {w : Int32} {d0 d4 d5 d10 d11 d12 d13 d15 d16 d21 d22 d23 d24 d25 d26 d29 d30 d31 : Nat} (h : dg_ok w d0 d4 d5 d10 d11 d12 d13 d15 d16 d21 d22 d23 d24 d25 d26 d29 d30 d31) : fX1_bits w (11 : Int32) (11 : Int32) = nI (d11) := (wd_b1 w _ _ 11 20 1 (by decide) (by decide) (by decide)).trans (congrArg nI (sg_11_1 h))
theorem q_46 {w : Int32} {d0 d4 d5 d10 d11 d12 d13 d15 d16 d21 d22 d23 d24 d25 d26 d29 d30 d31 : Nat} (h : dg_ok w d0 d4 d5 d10 d11 d12 d13 d15 d16 d21 d22 d23 d24 d25 d26 d29 d30 d31) : ((fX1_bits w (11 : Int32) (11 : Int32)) = 0) ↔ (d11 = 0) := by
  have h9 := h
  obtain ⟨⟨b0, b4, b5, b10, b11, b12, b13, b15, b16, b21, b22, b23, b24, b25, b26, b29, b30, b31⟩, hn⟩ := h9
  clear hn
  exact wd_e (a1_11_11 h) (by omega) 0 (by decide)
theorem sg_12_4 {w : Int32} {d0 d4 d5 d10 d11 d12 d13 d15 d16 d21 d22 d23 d24 d25 d26 d29 d30 d31 : Nat} (h : dg_ok w d0 d4 d5 d10 d11 d12 d13 d15 d16 d21 d22 d23 d24 d25 d26 d29 d30 d31) : w.toBitVec.toNat / 2 ^ 12 % 2 ^ 4 = d12 + 2 * d13 + 8 * d15 := by
  obtain ⟨⟨b0, b4, b5, b10, b11, b12, b13, b15, b16, b21, b22, b23, b24, b25, b26, b29, b30, b31⟩, hn⟩ := h
  exact wd_cut (A := d0 + 16 * d4 + 32 * d5 + 1024 * d10 + 2048 * d11) (C := d12 + 2 * d13 + 8 * d15) (D := d16 + 32 * d21 + 64 * d22 + 128 * d23 + 256 * d24 + 512 * d25 + 1024 * d26 + 8192 * d29 + 16384 * d30 + 32768 * d31) (by omega) (by omega) (by omega)
theorem a1_12_15 {w : Int32} {d0 d4 d5 d10 d11 d12 d13 d15 d16 d21 d22 d23 d24 d25 d26 d29 d30 d31 : Nat} (h : dg_ok w d0 d4 d5 d10 d11 d12 d13 d15 d16 d21 d22 d23 d24 d25 d26 d29 d30 d31) : fX1_bits w (12 : Int32) (15 : Int32) = nI (d12 + 2 * d13 + 8 * d15) := (wd_b1 w _ _ 12 16 4 (by decide) (by decide) (by decide)).trans (congrArg nI (sg_12_4 h))
theorem q_47 {w : Int32} {d0 d4 d5 d10 d11 d12 d13 d15 d16 d21 d22 d23 d24 d25 d26 d29 d30 d31 : Nat} (h : dg_ok w d0 d4 d5 d10 d11 d12 d13 d15 d16 d21 d22 d23 d24 d25 d26 d29 d30 d31) : ((14 : Int32) ≤ (fX1_bits w (12 : Int32) (15 : Int32))) ↔ (14 ≤ d12 + 2 * d13 + 8 * d15) := by
  have h9 := h
  obtain ⟨⟨b0, b4, b5, b10, b11, b12, b13, b15, b16, b21, b22, b23, b24, b25, b26, b29, b30, b31⟩, hn⟩ := h9
  clear hn
  exact wd_ge (a1_12_15 h) (by omega) 14 (by decide)
theorem sg_24_5 {w : Int32} {d0 d4 d5 d10 d11 d12 d13 d15 d16 d21 d22 d23 d24 d25 d26 d29 d30 d31 : Nat} (h : dg_ok w d0 d4 d5 d10 d11 d12 d13 d15 d16 d21 d22 d23 d24 d25 d26 d29 d30 d31) : w.toBitVec.toNat / 2 ^ 24 % 2 ^ 5 = d24 + 2 * d25 + 4 * d26 := by
  obtain ⟨⟨b0, b4, b5, b10, b11, b12, b13, b15, b16, b21, b22, b23, b24, b25, b26, b29, b30, b31⟩, hn⟩ := h
  exact wd_cut (A := d0 + 16 * d4 + 32 * d5 + 1024 * d10 + 2048 * d11 + 4096 * d12 + 8192 * d13 + 32768 * d15 + 65536 * d16 + 2097152 * d21 + 4194304 * d22 + 8388608 * d23) (C := d24 + 2 * d25 + 4 * d26) (D := d29 + 2 * d30 + 4 * d31) (by omega) (by omega) (by omega)
theorem a1_24_28 {w : Int32} {d0 d4 d5 d10 d11 d12 d13 d15 d16 d21 d22 d23 d24 d25 d26 d29 d30 d31 : Nat} (h : dg_ok w d0 d4 d5 d10 d11 d12 d13 d15 d16 d21 d22 d23 d24 d25 d26 d29 d30 d31) : fX1_bits w (24 : Int32) (28 : Int32) = nI (d24 + 2 * d25 + 4 * d26) := (wd_b1 w _ _ 24 3 5 (by decide) (by decide) (by decide)).trans (congrArg nI (sg_24_5 h))
theorem q_48 {w : Int32} {d0 d4 d5 d10 d11 d12 d13 d15 d16 d21 d22 d23 d24 d25 d26 d29 d30 d31 : Nat} (h : dg_ok w d0 d4 d5 d10 d11 d12 d13 d15 d16 d21 d22 d23 d24 d25 d26 d29 d30 d31) : ((fX1_bits w (24 : Int32) (28 : Int32)) = (8 : Int32)) ↔ (d24 + 2 * d25 + 4 * d26 = 8) := by
  have h9 := h
  obtain ⟨⟨b0, b4, b5, b10, b11, b12, b13, b15, b16, b21, b22, b23, b24, b25, b26, b29, b30, b31⟩, hn⟩ := h9
  clear hn
  exact wd_e (a1_24_28 h) (by omega) 8 (by decide)
theorem sg_25_7 {w : Int32} {d0 d4 d5 d10 d11 d12 d13 d15 d16 d21 d22 d23 d24 d25 d26 d29 d30 d31 : Nat} (h : dg_ok w d0 d4 d5 d10 d11 d12 d13 d15 d16 d21 d22 d23 d24 d25 d26 d29 d30 d31) : w.toBitVec.toNat / 2 ^ 25 % 2 ^ 7 = d25 + 2 * d26 + 16 * d29 + 32 * d30 + 64 * d31 := by
  obtain ⟨⟨b0, b4, b5, b10, b11, b12, b13, b15, b16, b21, b22, b23, b24, b25, b26, b29, b30, b31⟩, hn⟩ := h
  exact wd_cut (A := d0 + 16 * d4 + 32 * d5 + 1024 * d10 + 2048 * d11 + 4096 * d12 + 8192 * d13 + 32768 * d15 + 65536 * d16 + 2097152 * d21 + 4194304 * d22 + 8388608 * d23 + 16777216 * d24) (C := d25 + 2 * d26 + 16 * d29 + 32 * d30 + 64 * d31) (D := 0) (by omega) (by omega) (by omega)
theorem a1_25_31 {w : Int32} {d0 d4 d5 d10 d11 d12 d13 d15 d16 d21 d22 d23 d24 d25 d26 d29 d30 d31 : Nat} (h : dg_ok w d0 d4 d5 d10 d11 d12 d13 d15 d16 d21 d22 d23 d24 d25 d26 d29 d30 d31) : fX1_bits w (25 : Int32) (31 : Int32) = nI (d25 + 2 * d26 + 16 * d29 + 32 * d30 + 64 * d31) := (wd_b1 w _ _ 25 0 7 (by decide) (by decide) (by decide)).trans (congrArg nI (sg_25_7 h))
theorem q_49 {w : Int32} {d0 d4 d5 d10 d11 d12 d13 d15 d16 d21 d22 d23 d24 d25 d26 d29 d30 d31 : Nat} (h : dg_ok w d0 d4 d5 d10 d11 d12 d13 d15 d16 d21 d22 d23 d24 d25 d26 d29 d30 d31) : ((fX1_bits w (25 : Int32) (31 : Int32)) = (84 : Int32)) ↔ (d25 + 2 * d26 + 16 * d29 + 32 * d30 + 64 * d31 = 84) := by
  have h9 := h
  obtain ⟨⟨b0, b4, b5, b10, b11, b12, b13, b15, b16, b21, b22, b23, b24, b25, b26, b29, b30, b31⟩, hn⟩ := h9
  clear hn
  exact wd_e (a1_25_31 h) (by omega) 84 (by decide)
theorem q_50 {w : Int32} {d0 d4 d5 d10 d11 d12 d13 d15 d16 d21 d22 d23 d24 d25 d26 d29 d30 d31 : Nat} (h : dg_ok w d0 d4 d5 d10 d11 d12 d13 d15 d16 d21 d22 d23 d24 d25 d26 d29 d30 d31) : ((fX1_bits w (24 : Int32) (28 : Int32)) = (9 : Int32)) ↔ (d24 + 2 * d25 + 4 * d26 = 9) := by
  have h9 := h
  obtain ⟨⟨b0, b4, b5, b10, b11, b12, b13, b15, b16, b21, b22, b23, b24, b25, b26, b29, b30, b31⟩, hn⟩ := h9
  clear hn
  exact wd_e (a1_24_28 h) (by omega) 9 (by decide)
theorem q_51 {w : Int32} {d0 d4 d5 d10 d11 d12 d13 d15 d16 d21 d22 d23 d24 d25 d26 d29 d30 d31 : Nat} (h : dg_ok w d0 d4 d5 d10 d11 d12 d13 d15 d16 d21 d22 d23 d24 d25 d26 d29 d30 d31) : ((fX1_bits w (24 : Int32) (28 : Int32)) = (10 : Int32)) ↔ (d24 + 2 * d25 + 4 * d26 = 10) := by
  have h9 := h
  obtain ⟨⟨b0, b4, b5, b10, b11, b12, b13, b15, b16, b21, b22, b23, b24, b25, b26, b29, b30, b31⟩, hn⟩ := h9
  clear hn
  exact wd_e (a1_24_28 h) (by omega) 10 (by decide)
theorem q_52 {w : Int32} {d0 d4 d5 d10 d11 d12 d13 d15 d16 d21 d22 d23 d24 d25 d26 d29 d30 d31 : Nat} (h : dg_ok w d0 d4 d5 d10 d11 d12 d13 d15 d16 d21 d22 d23 d24 d25 d26 d29 d30 d31) : ((fX1_bits w (24 : Int32) (28 : Int32)) = (11 : Int32)) ↔ (d24 + 2 * d25 + 4 * d26 = 11) := by
  have h9 := h
  obtain ⟨⟨b0, b4, b5, b10, b11, b12, b13, b15, b16, b21, b22, b23, b24, b25, b26, b29, b30, b31⟩, hn⟩ := h9
  clear hn
  exact wd_e (a1_24_28 h) (by omega) 11 (by decide)
theorem q_53 {w : Int32} {d0 d4 d5 d10 d11 d12 d13 d15 d16 d21 d22 d23 d24 d25 d26 d29 d30 d31 : Nat} (h : dg_ok w d0 d4 d5 d10 d11 d12 d13 d15 d16 d21 d22 d23 d24 d25 d26 d29 d30 d31) : ((fX1_bits w (21 : Int32) (21 : Int32)) = 0) ↔ (d21 = 0) := by
  have h9 := h
  obtain ⟨⟨b0, b4, b5, b10, b11, b12, b13, b15, b16, b21, b22, b23, b24, b25, b26, b29, b30, b31⟩, hn⟩ := h9
  clear hn
  exact wd_e (a1_21_21 h) (by omega) 0 (by decide)
theorem q_54 {w : Int32} {d0 d4 d5 d10 d11 d12 d13 d15 d16 d21 d22 d23 d24 d25 d26 d29 d30 d31 : Nat} (h : dg_ok w d0 d4 d5 d10 d11 d12 d13 d15 d16 d21 d22 d23 d24 d25 d26 d29 d30 d31) : ((fX1_bits w (22 : Int32) (23 : Int32)) = (3 : Int32)) ↔ (d22 + 2 * d23 = 3) := by
  have h9 := h
  obtain ⟨⟨b0, b4, b5, b10, b11, b12, b13, b15, b16, b21, b22, b23, b24, b25, b26, b29, b30, b31⟩, hn⟩ := h9
  clear hn
  exact wd_e (a1_22_23 h) (by omega) 3 (by decide)
theorem q_55 {w : Int32} {d0 d4 d5 d10 d11 d12 d13 d15 d16 d21 d22 d23 d24 d25 d26 d29 d30 d31 : Nat} (h : dg_ok w d0 d4 d5 d10 d11 d12 d13 d15 d16 d21 d22 d23 d24 d25 d26 d29 d30 d31) : ((fX1_bits w (24 : Int32) (28 : Int32)) = (16 : Int32)) ↔ (d24 + 2 * d25 + 4 * d26 = 16) := by
  have h9 := h
  obtain ⟨⟨b0, b4, b5, b10, b11, b12, b13, b15, b16, b21, b22, b23, b24, b25, b26, b29, b30, b31⟩, hn⟩ := h9
  clear hn
  exact wd_e (a1_24_28 h) (by omega) 16 (by decide)
theorem q_56 {w : Int32} {d0 d4 d5 d10 d11 d12 d13 d15 d16 d21 d22 d23 d24 d25 d26 d29 d30 d31 : Nat} (h : dg_ok w d0 d4 d5 d10 d11 d12 d13 d15 d16 d21 d22 d23 d24 d25 d26 d29 d30 d31) : ((fX1_bits w (24 : Int32) (28 : Int32)) = (17 : Int32)) ↔ (d24 + 2 * d25 + 4 * d26 = 17) := by
  have h9 := h
  obtain ⟨⟨b0, b4, b5, b10, b11, b12, b13, b15, b16, b21, b22, b23, b24, b25, b26, b29, b30, b31⟩, hn⟩ := h9
  clear hn
  exact wd_e (a1_24_28 h) (by omega) 17 (by decide)
theorem sg_23_1 {w : Int32} {d0 d4 d5 d10 d11 d12 d13 d15 d16 d21 d22 d23 d24 d25 d26 d29 d30 d31 : Nat} (h : dg_ok w d0 d4 d5 d10 d11 d12 d13 d15 d16 d21 d22 d23 d24 d25 d26 d29 d30 d31) : w.toBitVec.toNat / 2 ^ 23 % 2 ^ 1 = d23 := by
  obtain ⟨⟨b0, b4, b5, b10, b11, b12, b13, b15, b16, b21, b22, b23, b24, b25, b26, b29, b30, b31⟩, hn⟩ := h
  exact wd_cut (A := d0 + 16 * d4 + 32 * d5 + 1024 * d10 + 2048 * d11 + 4096 * d12 + 8192 * d13 + 32768 * d15 + 65536 * d16 + 2097152 * d21 + 4194304 * d22) (C := d23) (D := d24 + 2 * d25 + 4 * d26 + 32 * d29 + 64 * d30 + 128 * d31) (by omega) (by omega) (by omega)
theorem a1_23_23 {w : Int32} {d0 d4 d5 d10 d11 d12 d13 d15 d16 d21 d22 d23 d24 d25 d26 d29 d30 d31 : Nat} (h : dg_ok w d0 d4 d5 d10 d11 d12 d13 d15 d16 d21 d22 d23 d24 d25 d26 d29 d30 d31) : fX1_bits w (23 : Int32) (23 : Int32) = nI (d23) := (wd_b1 w _ _ 23 8 1 (by decide) (by decide) (by decide)).trans (congrArg nI (sg_23_1 h))
theorem q_57 {w : Int32} {d0 d4 d5 d10 d11 d12 d13 d15 d16 d21 d22 d23 d24 d25 d26 d29 d30 d31 : Nat} (h : dg_ok w d0 d4 d5 d10 d11 d12 d13 d15 d16 d21 d22 d23 d24 d25 d26 d29 d30 d31) : ((fX1_bits w (23 : Int32) (23 : Int32)) = 0) ↔ (d23 = 0) := by
  have h9 := h
  obtain ⟨⟨b0, b4, b5, b10, b11, b12, b13, b15, b16, b21, b22, b23, b24, b25, b26, b29, b30, b31⟩, hn⟩ := h9
  clear hn
  exact wd_e (a1_23_23 h) (by omega) 0 (by decide)
theorem q_58 {w : Int32} {d0 d4 d5 d10 d11 d12 d13 d15 d16 d21 d22 d23 d24 d25 d26 d29 d30 d31 : Nat} (h : dg_ok w d0 d4 d5 d10 d11 d12 d13 d15 d16 d21 d22 d23 d24 d25 d26 d29 d30 d31) : ((fX1_bits w (24 : Int32) (28 : Int32)) = (18 : Int32)) ↔ (d24 + 2 * d25 + 4 * d26 = 18) := by
  have h9 := h
  obtain ⟨⟨b0, b4, b5, b10, b11, b12, b13, b15, b16, b21, b22, b23, b24, b25, b26, b29, b30, b31⟩, hn⟩ := h9
  clear hn
  exact wd_e (a1_24_28 h) (by omega) 18 (by decide)
theorem q_59 {w : Int32} {d0 d4 d5 d10 d11 d12 d13 d15 d16 d21 d22 d23 d24 d25 d26 d29 d30 d31 : Nat} (h : dg_ok w d0 d4 d5 d10 d11 d12 d13 d15 d16 d21 d22 d23 d24 d25 d26 d29 d30 d31) : ((fX1_bits w (23 : Int32) (23 : Int32)) = (1 : Int32)) ↔ (d23 = 1) := by
  have h9 := h
  obtain ⟨⟨b0, b4, b5, b10, b11, b12, b13, b15, b16, b21, b22, b23, b24, b25, b26, b29, b30, b31⟩, hn⟩ := h9
  clear hn
  exact wd_e (a1_23_23 h) (by omega) 1 (by decide)
theorem sg_29_2 {w : Int32} {d0 d4 d5 d10 d11 d12 d13 d15 d16 d21 d22 d23 d24 d25 d26 d29 d30 d31 : Nat} (h : dg_ok w d0 d4 d5 d10 d11 d12 d13 d15 d16 d21 d22 d23 d24 d25 d26 d29 d30 d31) : w.toBitVec.toNat / 2 ^ 29 % 2 ^ 2 = d29 + 2 * d30 := by
  obtain ⟨⟨b0, b4, b5, b10, b11, b12, b13, b15, b16, b21, b22, b23, b24, b25, b26, b29, b30, b31⟩, hn⟩ := h
  exact wd_cut (A := d0 + 16 * d4 + 32 * d5 + 1024 * d10 + 2048 * d11 + 4096 * d12 + 8192 * d13 + 32768 * d15 + 65536 * d16 + 2097152 * d21 + 4194304 * d22 + 8388608 * d23 + 16777216 * d24 + 33554432 * d25 + 67108864 * d26) (C := d29 + 2 * d30) (D := d31) (by omega) (by omega) (by omega)
theorem a1_29_30 {w : Int32} {d0 d4 d5 d10 d11 d12 d13 d15 d16 d21 d22 d23 d24 d25 d26 d29 d30 d31 : Nat} (h : dg_ok w d0 d4 d5 d10 d11 d12 d13 d15 d16 d21 d22 d23 d24 d25 d26 d29 d30 d31) : fX1_bits w (29 : Int32) (30 : Int32) = nI (d29 + 2 * d30) := (wd_b1 w _ _ 29 1 2 (by decide) (by decide) (by decide)).trans (congrArg nI (sg_29_2 h))
theorem q_60 {w : Int32} {d0 d4 d5 d10 d11 d12 d13 d15 d16 d21 d22 d23 d24 d25 d26 d29 d30 d31 : Nat} (h : dg_ok w d0 d4 d5 d10 d11 d12 d13 d15 d16 d21 d22 d23 d24 d25 d26 d29 d30 d31) : ((fX1_bits w (29 : Int32) (30 : Int32)) = (1 : Int32)) ↔ (d29 + 2 * d30 = 1) := by
  have h9 := h
  obtain ⟨⟨b0, b4, b5, b10, b11, b12, b13, b15, b16, b21, b22, b23, b24, b25, b26, b29, b30, b31⟩, hn⟩ := h9
  clear hn
  exact wd_e (a1_29_30 h) (by omega) 1 (by decide)
theorem q_61 {w : Int32} {d0 d4 d5 d10 d11 d12 d13 d15 d16 d21 d22 d23 d24 d25 d26 d29 d30 d31 : Nat} (h : dg_ok w d0 d4 d5 d10 d11 d12 d13 d15 d16 d21 d22 d23 d24 d25 d26 d29 d30 d31) : ((fX1_bits w (24 : Int32) (28 : Int32)) = (24 : Int32)) ↔ (d24 + 2 * d25 + 4 * d26 = 24) := by
  have h9 := h
  obtain ⟨⟨b0, b4, b5, b10, b11, b12, b13, b15, b16, b21, b22, b23, b24, b25, b26, b29, b30, b31⟩, hn⟩ := h9
  clear hn
  exact wd_e (a1_24_28 h) (by omega) 24 (by decide)
theorem sg_29_1 {w : Int32} {d0 d4 d5 d10 d11 d12 d13 d15 d16 d21 d22 d23 d24 d25 d26 d29 d30 d31 : Nat} (h : dg_ok w d0 d4 d5 d10 d11 d12 d13 d15 d16 d21 d22 d23 d24 d25 d26 d29 d30 d31) : w.toBitVec.toNat / 2 ^ 29 % 2 ^ 1 = d29 := by
  obtain ⟨⟨b0, b4, b5, b10, b11, b12, b13, b15, b16, b21, b22, b23, b24, b25, b26, b29, b30, b31⟩, hn⟩ := h
  exact wd_cut (A := d0 + 16 * d4 + 32 * d5 + 1024 * d10 + 2048 * d11 + 4096 * d12 + 8192 * d13 + 32768 * d15 + 65536 * d16 + 2097152 * d21 + 4194304 * d22 + 8388608 * d23 + 16777216 * d24 + 33554432 * d25 + 67108864 * d26) (C := d29) (D := d30 + 2 * d31) (by omega) (by omega) (by omega)
theorem a1_29_29 {w : Int32} {d0 d4 d5 d10 d11 d12 d13 d15 d16 d21 d22 d23 d24 d25 d26 d29 d30 d31 : Nat} (h : dg_ok w d0 d4 d5 d10 d11 d12 d13 d15 d16 d21 d22 d23 d24 d25 d26 d29 d30 d31) : fX1_bits w (29 : Int32) (29 : Int32) = nI (d29) := (wd_b1 w _ _ 29 2 1 (by decide) (by decide) (by decide)).trans (congrArg nI (sg_29_1 h))
theorem q_62 {w : Int32} {d0 d4 d5 d10 d11 d12 d13 d15 d16 d21 d22 d23 d24 d25 d26 d29 d30 d31 : Nat} (h : dg_ok w d0 d4 d5 d10 d11 d12 d13 d15 d16 d21 d22 d23 d24 d25 d26 d29 d30 d31) : ((fX1_bits w (29 : Int32) (29 : Int32)) = (1 : Int32)) ↔ (d29 = 1) := by
  have h9 := h
  obtain ⟨⟨b0, b4, b5, b10, b11, b12, b13, b15, b16, b21, b22, b23, b24, b25, b26, b29, b30, b31⟩, hn⟩ := h9
  clear hn
  exact wd_e (a1_29_29 h) (by omega) 1 (by decide)
theorem q_63 {w : Int32} {d0 d4 d5 d10 d11 d12 d13 d15 d16 d21 d22 d23 d24 d25 d26 d29 d30 d31 : Nat} (h : dg_ok w d0 d4 d5 d10 d11 d12 d13 d15 d16 d21 d22 d23 d24 d25 d26 d29 d30 d31) : ((fX1_bits w (24 : Int32) (28 : Int32)) = (25 : Int32)) ↔ (d24 + 2 * d25 + 4 * d26 = 25) := by
  have h9 := h
  obtain ⟨⟨b0, b4, b5, b10, b11, b12, b13, b15, b16, b21, b22, b23, b24, b25, b26, b29, b30, b31⟩, hn⟩ := h9
  clear hn
  exact wd_e (a1_24_28 h) (by omega) 25 (by decide)
theorem q_64 {w : Int32} {d0 d4 d5 d10 d11 d12 d13 d15 d16 d21 d22 d23 d24 d25 d26 d29 d30 d31 : Nat} (h : dg_ok w d0 d4 d5 d10 d11 d12 d13 d15 d16 d21 d22 d23 d24 d25 d26 d29 d30 d31) : ((fX1_bits w (24 : Int32) (28 : Int32)) = (26 : Int32)) ↔ (d24 + 2 * d25 + 4 * d26 = 26) := by
  have h9 := h
  obtain ⟨⟨b0, b4, b5, b10, b11, b12, b13, b15, b16, b21, b22, b23, b24, b25, b26, b29, b30, b31⟩, hn⟩ := h9
  clear hn
  exact wd_e (a1_24_28 h) (by omega) 26 (by decide)
theorem q_65 {w : Int32} {d0 d4 d5 d10 d11 d12 d13 d15 d16 d21 d22 d23 d24 d25 d26 d29 d30 d31 : Nat} (h : dg_ok w d0 d4 d5 d10 d11 d12 d13 d15 d16 d21 d22 d23 d24 d25 d26 d29 d30 d31) : ((fX1_bits w (29 : Int32) (30 : Int32)) ≤ 0) ↔ (d29 + 2 * d30 ≤ 0) := by
  have h9 := h
  obtain ⟨⟨b0, b4, b5, b10, b11, b12, b13, b15, b16, b21, b22, b23, b24, b25, b26, b29, b30, b31⟩, hn⟩ := h9
  clear hn
  exact wd_le (a1_29_30 h) (by omega) 0 (by decide)
theorem q_66 {w : Int32} {d0 d4 d5 d10 d11 d12 d13 d15 d16 d21 d22 d23 d24 d25 d26 d29 d30 d31 : Nat} (h : dg_ok w d0 d4 d5 d10 d11 d12 d13 d15 d16 d21 d22 d23 d24 d25 d26 d29 d30 d31) : ((fX1_bits w (24 : Int32) (28 : Int32)) = (27 : Int32)) ↔ (d24 + 2 * d25 + 4 * d26 = 27) := by
  have h9 := h
  obtain ⟨⟨b0, b4, b5, b10, b11, b12, b13, b15, b16, b21, b22, b23, b24, b25, b26, b29, b30, b31⟩, hn⟩ := h9
  clear hn
  exact wd_e (a1_24_28 h) (by omega) 27 (by decide)
theorem q_67 {w : Int32} {d0 d4 d5 d10 d11 d12 d13 d15 d16 d21 d22 d23 d24 d25 d26 d29 d30 d31 : Nat} (h : dg_ok w d0 d4 d5 d10 d11 d12 d13 d15 d16 d21 d22 d23 d24 d25 d26 d29 d30 d31) : ((fX1_bits w (21 : Int32) (23 : Int32)) = 0) ↔ (d21 + 2 * d22 + 4 * d23 = 0) := by
  have h9 := h
  obtain ⟨⟨b0, b4, b5, b10, b11, b12, b13, b15, b16, b21, b22, b23, b24, b25, b26, b29, b30, b31⟩, hn⟩ := h9
  clear hn
  exact wd_e (a1_21_23 h) (by omega) 0 (by decide)
theorem q_68 {w : Int32} {d0 d4 d5 d10 d11 d12 d13 d15 d16 d21 d22 d23 d24 d25 d26 d29 d30 d31 : Nat} (h : dg_ok w d0 d4 d5 d10 d11 d12 d13 d15 d16 d21 d22 d23 d24 d25 d26 d29 d30 d31) : ((fX1_bits w (29 : Int32) (30 : Int32)) = 0) ↔ (d29 + 2 * d30 = 0) := by
  have h9 := h
  obtain ⟨⟨b0, b4, b5, b10, b11, b12, b13, b15, b16, b21, b22, b23, b24, b25, b26, b29, b30, b31⟩, hn⟩ := h9
  clear hn
  exact wd_e (a1_29_30 h) (by omega) 0 (by decide)
theorem sg_23_6 {w : Int32} {d0 d4 d5 d10 d11 d12 d13 d15 d16 d21 d22 d23 d24 d25 d26 d29 d30 d31 : Nat} (h : dg_ok w d0 d4 d5 d10 d11 d12 d13 d15 d16 d21 d22 d23 d24 d25 d26 d29 d30 d31) : w.toBitVec.toNat / 2 ^ 23 % 2 ^ 6 = d23 + 2 * d24 + 4 * d25 + 8 * d26 := by
  obtain ⟨⟨b0, b4, b5, b10, b11, b12, b13, b15, b16, b21, b22, b23, b24, b25, b26, b29, b30, b31⟩, hn⟩ := h
  exact wd_cut (A := d0 + 16 * d4 + 32 * d5 + 1024 * d10 + 2048 * d11 + 4096 * d12 + 8192 * d13 + 32768 * d15 + 65536 * d16 + 2097152 * d21 + 4194304 * d22) (C := d23 + 2 * d24 + 4 * d25 + 8 * d26) (D := d29 + 2 * d30 + 4 * d31) (by omega) (by omega) (by omega)
theorem q_69 {w : Int32} {d0 d4 d5 d10 d11 d12 d13 d15 d16 d21 d22 d23 d24 d25 d26 d29 d30 d31 : Nat} (h : dg_ok w d0 d4 d5 d10 d11 d12 d13 d15 d16 d21 d22 d23 d24 d25 d26 d29 d30 d31) : ((w &&& (528482304 : Int32)) = (285212672 : Int32)) ↔ (d23 + 2 * d24 + 4 * d25 + 8 * d26 = 34) :=
  (wd_mk 23 6 34 (by decide) (by decide)).trans (by rw [sg_23_6 h])
theorem q_70 {w : Int32} {d0 d4 d5 d10 d11 d12 d13 d15 d16 d21 d22 d23 d24 d25 d26 d29 d30 d31 : Nat} (h : dg_ok w d0 d4 d5 d10 d11 d12 d13 d15 d16 d21 d22 d23 d24 d25 d26 d29 d30 d31) : ((w &&& (522190848 : Int32)) = (184549376 : Int32)) ↔ (d24 + 2 * d25 + 4 * d26 = 11 ∧ d21 = 0) :=
  (wd_mk2 (520093696) (2097152) (184549376) (0) (by decide) (by decide) (by decide) (by decide) (by decide)).trans (and_congr ((wd_mk 24 5 11 (by decide) (by decide)).trans (by rw [sg_24_5 h])) ((wd_mk 21 1 0 (by decide) (by decide)).trans (by rw [sg_21_1 h])))
theorem q_71 {w : Int32} {d0 d4 d5 d10 d11 d12 d13 d15 d16 d21 d22 d23 d24 d25 d26 d29 d30 d31 : Nat} (h : dg_ok w d0 d4 d5 d10 d11 d12 d13 d15 d16 d21 d22 d23 d24 d25 d26 d29 d30 d31) : ((w &&& (520093696 : Int32)) = (167772160 : Int32)) ↔ (d24 + 2 * d25 + 4 * d26 = 10) :=
  (wd_mk 24 5 10 (by decide) (by decide)).trans (by rw [sg_24_5 h])
theorem q_72 {w : Int32} {d0 d4 d5 d10 d11 d12 d13 d15 d16 d21 d22 d23 d24 d25 d26 d29 d30 d31 : Nat} (h : dg_ok w d0 d4 d5 d10 d11 d12 d13 d15 d16 d21 d22 d23 d24 d25 d26 d29 d30 d31) : ((w &&& (528482304 : Int32)) = (310378496 : Int32)) ↔ (d23 + 2 * d24 + 4 * d25 + 8 * d26 = 37) :=
  (wd_mk 23 6 37 (by decide) (by decide)).trans (by rw [sg_23_6 h])
theorem sg_31_1 {w : Int32} {d0 d4 d5 d10 d11 d12 d13 d15 d16 d21 d22 d23 d24 d25 d26 d29 d30 d31 : Nat} (h : dg_ok w d0 d4 d5 d10 d11 d12 d13 d15 d16 d21 d22 d23 d24 d25 d26 d29 d30 d31) : w.toBitVec.toNat / 2 ^ 31 % 2 ^ 1 = d31 := by
  obtain ⟨⟨b0, b4, b5, b10, b11, b12, b13, b15, b16, b21, b22, b23, b24, b25, b26, b29, b30, b31⟩, hn⟩ := h
  exact wd_cut (A := d0 + 16 * d4 + 32 * d5 + 1024 * d10 + 2048 * d11 + 4096 * d12 + 8192 * d13 + 32768 * d15 + 65536 * d16 + 2097152 * d21 + 4194304 * d22 + 8388608 * d23 + 16777216 * d24 + 33554432 * d25 + 67108864 * d26 + 536870912 * d29 + 1073741824 * d30) (C := d31) (D := 0) (by omega) (by omega) (by omega)
theorem q_73 {w : Int32} {d0 d4 d5 d10 d11 d12 d13 d15 d16 d21 d22 d23 d24 d25 d26 d29 d30 d31 : Nat} (h : dg_ok w d0 d4 d5 d10 d11 d12 d13 d15 d16 d21 d22 d23 d24 d25 d26 d29 d30 d31) : ((w &&& (-1627389952 : Int32)) = (-1879048192 : Int32)) ↔ (d31 = 1 ∧ d24 + 2 * d25 + 4 * d26 = 16) :=
  (wd_mk2 (-2147483648) (520093696) (-2147483648) (268435456) (by decide) (by decide) (by decide) (by decide) (by decide)).trans (and_congr ((wd_mk 31 1 1 (by decide) (by decide)).trans (by rw [sg_31_1 h])) ((wd_mk 24 5 16 (by decide) (by decide)).trans (by rw [sg_24_5 h])))
theorem sg_21_10 {w : Int32} {d0 d4 d5 d10 d11 d12 d13 d15 d16 d21 d22 d23 d24 d25 d26 d29 d30 d31 : Nat} (h : dg_ok w d0 d4 d5 d10 d11 d12 d13 d15 d16 d21 d22 d23 d24 d25 d26 d29 d30 d31) : w.toBitVec.toNat / 2 ^ 21 % 2 ^ 10 = d21 + 2 * d22 + 4 * d23 + 8 * d24 + 16 * d25 + 32 * d26 + 256 * d29 + 512 * d30 := by
  obtain ⟨⟨b0, b4, b5, b10, b11, b12, b13, b15, b16, b21, b22, b23, b24, b25, b26, b29, b30, b31⟩, hn⟩ := h
  exact wd_cut (A := d0 + 16 * d4 + 32 * d5 + 1024 * d10 + 2048 * d11 + 4096 * d12 + 8192 * d13 + 32768 * d15 + 65536 * d16) (C := d21 + 2 * d22 + 4 * d23 + 8 * d24 + 16 * d25 + 32 * d26 + 256 * d29 + 512 * d30) (D := d31) (by omega) (by omega) (by omega)
theorem q_74 {w : Int32} {d0 d4 d5 d10 d11 d12 d13 d15 d16 d21 d22 d23 d24 d25 d26 d29 d30 d31 : Nat} (h : dg_ok w d0 d4 d5 d10 d11 d12 d13 d15 d16 d21 d22 d23 d24 d25 d26 d29 d30 d31) : ((w &&& (2145386496 : Int32)) = (452984832 : Int32)) ↔ (d21 + 2 * d22 + 4 * d23 + 8 * d24 + 16 * d25 + 32 * d26 + 256 * d29 + 512 * d30 = 216) :=
  (wd_mk 21 10 216 (by decide) (by decide)).trans (by rw [sg_21_10 h])
theorem q_75 {w : Int32} {d0 d4 d5 d10 d11 d12 d13 d15 d16 d21 d22 d23 d24 d25 d26 d29 d30 d31 : Nat} (h : dg_ok w d0 d4 d5 d10 d11 d12 d13 d15 d16 d21 d22 d23 d24 d25 d26 d29 d30 d31) : ((w &&& (2145386496 : Int32)) = (448790528 : Int32)) ↔ (d21 + 2 * d22 + 4 * d23 + 8 * d24 + 16 * d25 + 32 * d26 + 256 * d29 + 512 * d30 = 214) :=
  (wd_mk 21 10 214 (by decide) (by decide)).trans (by rw [sg_21_10 h])
theorem q_76 {w : Int32} {d0 d4 d5 d10 d11 d12 d13 d15 d16 d21 d22 d23 d24 d25 d26 d29 d30 d31 : Nat} (h : dg_ok w d0 d4 d5 d10 d11 d12 d13 d15 d16 d21 d22 d23 d24 d25 d26 d29 d30 d31) : ((w &&& (2145388544 : Int32)) = (444596224 : Int32)) ↔ (d21 + 2 * d22 + 4 * d23 + 8 * d24 + 16 * d25 + 32 * d26 + 256 * d29 + 512 * d30 = 212 ∧ d11 = 0) :=
  (wd_mk2 (2145386496) (2048) (444596224) (0) (by decide) (by decide) (by decide) (by decide) (by decide)).trans (and_congr ((wd_mk 21 10 212 (by decide) (by decide)).trans (by rw [sg_21_10 h])) ((wd_mk 11 1 0 (by decide) (by decide)).trans (by rw [sg_11_1 h])))
theorem sg_24_6 {w : Int32} {d0 d4 d5 d10 d11 d12 d13 d15 d16 d21 d22 d23 d24 d25 d26 d29 d30 d31 : Nat} (h : dg_ok w d0 d4 d5 d10 d11 d12 d13 d15 d16 d21 d22 d23 d24 d25 d26 d29 d30 d31) : w.toBitVec.toNat / 2 ^ 24 % 2 ^ 6 = d24 + 2 * d25 + 4 * d26 + 32 * d29 := by
  obtain ⟨⟨b0, b4, b5, b10, b11, b12, b13, b15, b16, b21, b22, b23, b24, b25, b26, b29, b30, b31⟩, hn⟩ := h
  exact wd_cut (A := d0 + 16 * d4 + 32 * d5 + 1024 * d10 + 2048 * d11 + 4096 * d12 + 8192 * d13 + 32768 * d15 + 65536 * d16 + 2097152 * d21 + 4194304 * d22 + 8388608 * d23) (C := d24 + 2 * d25 + 4 * d26 + 32 * d29) (D := d30 + 2 * d31) (by omega) (by omega) (by omega)
theorem q_77 {w : Int32} {d0 d4 d5 d10 d11 d12 d13 d15 d16 d21 d22 d23 d24 d25 d26 d29 d30 d31 : Nat} (h : dg_ok w d0 d4 d5 d10 d11 d12 d13 d15 d16 d21 d22 d23 d24 d25 d26 d29 d30 d31) : ((w &&& (1056964608 : Int32)) = (956301312 : Int32)) ↔ (d24 + 2 * d25 + 4 * d26 + 32 * d29 = 57) :=
  (wd_mk 24 6 57 (by decide) (by decide)).trans (by rw [sg_24_6 h])
theorem q_78 {w : Int32} {d0 d4 d5 d10 d11 d12 d13 d15 d16 d21 d22 d23 d24 d25 d26 d29 d30 d31 : Nat} (h : dg_ok w d0 d4 d5 d10 d11 d12 d13 d15 d16 d21 d22 d23 d24 d25 d26 d29 d30 d31) : ((w &&& (1059122176 : Int32)) = (941647872 : Int32)) ↔ (d24 + 2 * d25 + 4 * d26 + 32 * d29 = 56 ∧ d21 = 1 ∧ d13 + 4 * d15 = 3 ∧ d10 + 2 * d11 = 2) :=
  (wd_mk2 (1056964608) (2157568) (939524096) (2123776) (by decide) (by decide) (by decide) (by decide) (by decide)).trans (and_congr ((wd_mk 24 6 56 (by decide) (by decide)).trans (by rw [sg_24_6 h])) ((wd_mk2 (2097152) (60416) (2097152) (26624) (by decide) (by decide) (by decide) (by decide) (by decide)).trans (and_congr ((wd_mk 21 1 1 (by decide) (by decide)).trans (by rw [sg_21_1 h])) ((wd_mk2 (57344) (3072) (24576) (2048) (by decide) (by decide) (by decide) (by decide) (by decide)).trans (and_congr ((wd_mk 13 3 3 (by decide) (by decide)).trans (by rw [sg_13_3 h])) ((wd_mk 10 2 2 (by decide) (by decide)).trans (by rw [sg_10_2 h])))))))
theorem q_79 {w : Int32} {d0 d4 d5 d10 d11 d12 d13 d15 d16 d21 d22 d23 d24 d25 d26 d29 d30 d31 : Nat} (h : dg_ok w d0 d4 d5 d10 d11 d12 d13 d15 d16 d21 d22 d23 d24 d25 d26 d29 d30 d31) : ((w &&& (-33554432 : Int32)) = (-1476395008 : Int32)) ↔ (d25 + 2 * d26 + 16 * d29 + 32 * d30 + 64 * d31 = 84) :=
  (wd_mk 25 7 84 (by decide) (by decide)).trans (by rw [sg_25_7 h])
theorem q_80 {w : Int32} {d0 d4 d5 d10 d11 d12 d13 d15 d16 d21 d22 d23 d24 d25 d26 d29 d30 d31 : Nat} (h : dg_ok w d0 d4 d5 d10 d11 d12 d13 d15 d16 d21 d22 d23 d24 d25 d26 d29 d30 d31) : ((w &&& (-67108864 : Int32)) = (335544320 : Int32)) ↔ (d26 + 8 * d29 + 16 * d30 + 32 * d31 = 5) :=
  (wd_mk 26 6 5 (by decide) (by decide)).trans (by rw [sg_26_6 h])
theorem q_81 {w : Int32} {d0 d4 d5 d10 d11 d12 d13 d15 d16 d21 d22 d23 d24 d25 d26 d29 d30 d31 : Nat} (h : dg_ok w d0 d4 d5 d10 d11 d12 d13 d15 d16 d21 d22 d23 d24 d25 d26 d29 d30 d31) : ((w &&& (-67108864 : Int32)) = (-1811939328 : Int32)) ↔ (d26 + 8 * d29 + 16 * d30 + 32 * d31 = 37) :=
  (wd_mk 26 6 37 (by decide) (by decide)).trans (by rw [sg_26_6 h])
theorem q_82 {w : Int32} {d0 d4 d5 d10 d11 d12 d13 d15 d16 d21 d22 d23 d24 d25 d26 d29 d30 d31 : Nat} (h : dg_ok w d0 d4 d5 d10 d11 d12 d13 d15 d16 d21 d22 d23 d24 d25 d26 d29 d30 d31) : ((w &&& (-16777200 : Int32)) = (1409286144 : Int32)) ↔ (d24 + 2 * d25 + 4 * d26 + 32 * d29 + 64 * d30 + 128 * d31 = 84 ∧ d4 = 0) :=
  (wd_mk2 (-16777216) (16) (1409286144) (0) (by decide) (by decide) (by decide) (by decide) (by decide)).trans (and_congr ((wd_mk 24 8 84 (by decide) (by decide)).trans (by rw [sg_24_8 h])) ((wd_mk 4 1 0 (by decide) (by decide)).trans (by rw [sg_4_1 h])))
theorem q_83 {w : Int32} {d0 d4 d5 d10 d11 d12 d13 d15 d16 d21 d22 d23 d24 d25 d26 d29 d30 d31 : Nat} (h : dg_ok w d0 d4 d5 d10 d11 d12 d13 d15 d16 d21 d22 d23 d24 d25 d26 d29 d30 d31) : ((w &&& (2113929216 : Int32)) = (872415232 : Int32)) ↔ (d25 + 2 * d26 + 16 * d29 + 32 * d30 = 26) :=
  (wd_mk 25 6 26 (by decide) (by decide)).trans (by rw [sg_25_6 h])
theorem q_84 {w : Int32} {d0 d4 d5 d10 d11 d12 d13 d15 d16 d21 d22 d23 d24 d25 d26 d29 d30 d31 : Nat} (h : dg_ok w d0 d4 d5 d10 d11 d12 d13 d15 d16 d21 d22 d23 d24 d25 d26 d29 d30 d31) : ((w &&& (2113929216 : Int32)) = (905969664 : Int32)) ↔ (d25 + 2 * d26 + 16 * d29 + 32 * d30 = 27) :=
  (wd_mk 25 6 27 (by decide) (by decide)).trans (by rw [sg_25_6 h])
theorem sg_10_22 {w : Int32} {d0 d4 d5 d10 d11 d12 d13 d15 d16 d21 d22 d23 d24 d25 d26 d29 d30 d31 : Nat} (h : dg_ok w d0 d4 d5 d10 d11 d12 d13 d15 d16 d21 d22 d23 d24 d25 d26 d29 d30 d31) : w.toBitVec.toNat / 2 ^ 10 % 2 ^ 22 = d10 + 2 * d11 + 4 * d12 + 8 * d13 + 32 * d15 + 64 * d16 + 2048 * d21 + 4096 * d22 + 8192 * d23 + 16384 * d24 + 32768 * d25 + 65536 * d26 + 524288 * d29 + 1048576 * d30 + 2097152 * d31 := by
  obtain ⟨⟨b0, b4, b5, b10, b11, b12, b13, b15, b16, b21, b22, b23, b24, b25, b26, b29, b30, b31⟩, hn⟩ := h
  exact wd_cut (A := d0 + 16 * d4 + 32 * d5) (C := d10 + 2 * d11 + 4 * d12 + 8 * d13 + 32 * d15 + 64 * d16 + 2048 * d21 + 4096 * d22 + 8192 * d23 + 16384 * d24 + 32768 * d25 + 65536 * d26 + 524288 * d29 + 1048576 * d30 + 2097152 * d31) (D := 0) (by omega) (by omega) (by omega)
theorem q_85 {w : Int32} {d0 d4 d5 d10 d11 d12 d13 d15 d16 d21 d22 d23 d24 d25 d26 d29 d30 d31 : Nat} (h : dg_ok w d0 d4 d5 d10 d11 d12 d13 d15 d16 d21 d22 d23 d24 d25 d26 d29 d30 d31) : ((w &&& (-993 : Int32)) = (-702611456 : Int32)) ↔ (d10 + 2 * d11 + 4 * d12 + 8 * d13 + 32 * d15 + 64 * d16 + 2048 * d21 + 4096 * d22 + 8192 * d23 + 16384 * d24 + 32768 * d25 + 65536 * d26 + 524288 * d29 + 1048576 * d30 + 2097152 * d31 = 3508160 ∧ d0 + 16 * d4 = 0) :=
  (wd_mk2 (-1024) (31) (-702611456) (0) (by decide) (by decide) (by decide) (by decide) (by decide)).trans (and_congr ((wd_mk 10 22 3508160 (by decide) (by decide)).trans (by rw [sg_10_22 h])) ((wd_mk 0 5 0 (by decide) (by decide)).trans (by rw [sg_0_5 h])))
theorem q_86 {w : Int32} {d0 d4 d5 d10 d11 d12 d13 d15 d16 d21 d22 d23 d24 d25 d26 d29 d30 d31 : Nat} (h : dg_ok w d0 d4 d5 d10 d11 d12 d13 d15 d16 d21 d22 d23 d24 d25 d26 d29 d30 d31) : ((w &&& (-993 : Int32)) = (-700514304 : Int32)) ↔ (d10 + 2 * d11 + 4 * d12 + 8 * d13 + 32 * d15 + 64 * d16 + 2048 * d21 + 4096 * d22 + 8192 * d23 + 16384 * d24 + 32768 * d25 + 65536 * d26 + 524288 * d29 + 1048576 * d30 + 2097152 * d31 = 3510208 ∧ d0 + 16 * d4 = 0) :=
  (wd_mk2 (-1024) (31) (-700514304) (0) (by decide) (by decide) (by decide) (by decide) (by decide)).trans (and_congr ((wd_mk 10 22 3510208 (by decide) (by decide)).trans (by rw [sg_10_22 h])) ((wd_mk 0 5 0 (by decide) (by decide)).trans (by rw [sg_0_5 h])))
theorem q_87 {w : Int32} {d0 d4 d5 d10 d11 d12 d13 d15 d16 d21 d22 d23 d24 d25 d26 d29 d30 d31 : Nat} (h : dg_ok w d0 d4 d5 d10 d11 d12 d13 d15 d16 d21 d22 d23 d24 d25 d26 d29 d30 d31) : ((w &&& (-993 : Int32)) = (-698417152 : Int32)) ↔ (d10 + 2 * d11 + 4 * d12 + 8 * d13 + 32 * d15 + 64 * d16 + 2048 * d21 + 4096 * d22 + 8192 * d23 + 16384 * d24 + 32768 * d25 + 65536 * d26 + 524288 * d29 + 1048576 * d30 + 2097152 * d31 = 3512256 ∧ d0 + 16 * d4 = 0) :=
  (wd_mk2 (-1024) (31) (-698417152) (0) (by decide) (by decide) (by decide) (by decide) (by decide)).trans (and_congr ((wd_mk 10 22 3512256 (by decide) (by decide)).trans (by rw [sg_10_22 h])) ((wd_mk 0 5 0 (by decide) (by decide)).trans (by rw [sg_0_5 h])))
theorem q_88 {w : Int32} {d0 d4 d5 d10 d11 d12 d13 d15 d16 d21 d22 d23 d24 d25 d26 d29 d30 d31 : Nat} (h : dg_ok w d0 d4 d5 d10 d11 d12 d13 d15 d16 d21 d22 d23 d24 d25 d26 d29 d30 d31) : ((w &&& (-2097121 : Int32)) = (-738197503 : Int32)) ↔ (d21 + 2 * d22 + 4 * d23 + 8 * d24 + 16 * d25 + 32 * d26 + 256 * d29 + 512 * d30 + 1024 * d31 = 1696 ∧ d0 + 16 * d4 = 1) :=
  (wd_mk2 (-2097152) (31) (-738197504) (1) (by decide) (by decide) (by decide) (by decide) (by decide)).trans (and_congr ((wd_mk 21 11 1696 (by decide) (by decide)).trans (by rw [sg_21_11 h])) ((wd_mk 0 5 1 (by decide) (by decide)).trans (by rw [sg_0_5 h])))
theorem sg_0_32 {w : Int32} {d0 d4 d5 d10 d11 d12 d13 d15 d16 d21 d22 d23 d24 d25 d26 d29 d30 d31 : Nat} (h : dg_ok w d0 d4 d5 d10 d11 d12 d13 d15 d16 d21 d22 d23 d24 d25 d26 d29 d30 d31) : w.toBitVec.toNat / 2 ^ 0 % 2 ^ 32 = d0 + 16 * d4 + 32 * d5 + 1024 * d10 + 2048 * d11 + 4096 * d12 + 8192 * d13 + 32768 * d15 + 65536 * d16 + 2097152 * d21 + 4194304 * d22 + 8388608 * d23 + 16777216 * d24 + 33554432 * d25 + 67108864 * d26 + 536870912 * d29 + 1073741824 * d30 + 2147483648 * d31 := by
  obtain ⟨⟨b0, b4, b5, b10, b11, b12, b13, b15, b16, b21, b22, b23, b24, b25, b26, b29, b30, b31⟩, hn⟩ := h
  exact wd_cut (A := 0) (C := d0 + 16 * d4 + 32 * d5 + 1024 * d10 + 2048 * d11 + 4096 * d12 + 8192 * d13 + 32768 * d15 + 65536 * d16 + 2097152 * d21 + 4194304 * d22 + 8388608 * d23 + 16777216 * d24 + 33554432 * d25 + 67108864 * d26 + 536870912 * d29 + 1073741824 * d30 + 2147483648 * d31) (D := 0) (by omega) (by omega) (by omega)
theorem q_89 {w : Int32} {d0 d4 d5 d10 d11 d12 d13 d15 d16 d21 d22 d23 d24 d25 d26 d29 d30 d31 : Nat} (h : dg_ok w d0 d4 d5 d10 d11 d12 d13 d15 d16 d21 d22 d23 d24 d25 d26 d29 d30 d31) : ((w &&& (-1 : Int32)) = (-721215457 : Int32)) ↔ (d0 + 16 * d4 + 32 * d5 + 1024 * d10 + 2048 * d11 + 4096 * d12 + 8192 * d13 + 32768 * d15 + 65536 * d16 + 2097152 * d21 + 4194304 * d22 + 8388608 * d23 + 16777216 * d24 + 33554432 * d25 + 67108864 * d26 + 536870912 * d29 + 1073741824 * d30 + 2147483648 * d31 = 3573751839) :=
  (wd_mk 0 32 3573751839 (by decide) (by decide)).trans (by rw [sg_0_32 h])
theorem a0_22_2 {w : Int32} {d0 d4 d5 d10 d11 d12 d13 d15 d16 d21 d22 d23 d24 d25 d26 d29 d30 d31 : Nat} (h : dg_ok w d0 d4 d5 d10 d11 d12 d13 d15 d16 d21 d22 d23 d24 d25 d26 d29 d30 d31) : fX0_bits w (22 : Int32) (2 : Int32) = nI (d22 + 2 * d23) := (wd_b0 w _ _ 22 2 (by decide) (by decide)).trans (congrArg nI (sg_22_2 h))
theorem q_90 {w : Int32} {d0 d4 d5 d10 d11 d12 d13 d15 d16 d21 d22 d23 d24 d25 d26 d29 d30 d31 : Nat} (h : dg_ok w d0 d4 d5 d10 d11 d12 d13 d15 d16 d21 d22 d23 d24 d25 d26 d29 d30 d31) : ((fX0_bits w (22 : Int32) (2 : Int32)) = (3 : Int32)) ↔ (d22 + 2 * d23 = 3) := by
  have h9 := h
  obtain ⟨⟨b0, b4, b5, b10, b11, b12, b13, b15, b16, b21, b22, b23, b24, b25, b26, b29, b30, b31⟩, hn⟩ := h9
  clear hn
  exact wd_e (a0_22_2 h) (by omega) 3 (by decide)
theorem a0_29_2 {w : Int32} {d0 d4 d5 d10 d11 d12 d13 d15 d16 d21 d22 d23 d24 d25 d26 d29 d30 d31 : Nat} (h : dg_ok w d0 d4 d5 d10 d11 d12 d13 d15 d16 d21 d22 d23 d24 d25 d26 d29 d30 d31) : fX0_bits w (29 : Int32) (2 : Int32) = nI (d29 + 2 * d30) := (wd_b0 w _ _ 29 2 (by decide) (by decide)).trans (congrArg nI (sg_29_2 h))
theorem q_91 {w : Int32} {d0 d4 d5 d10 d11 d12 d13 d15 d16 d21 d22 d23 d24 d25 d26 d29 d30 d31 : Nat} (h : dg_ok w d0 d4 d5 d10 d11 d12 d13 d15 d16 d21 d22 d23 d24 d25 d26 d29 d30 d31) : ((fX0_bits w (29 : Int32) (2 : Int32)) = (1 : Int32)) ↔ (d29 + 2 * d30 = 1) := by
  have h9 := h
  obtain ⟨⟨b0, b4, b5, b10, b11, b12, b13, b15, b16, b21, b22, b23, b24, b25, b26, b29, b30, b31⟩, hn⟩ := h9
  clear hn
  exact wd_e (a0_29_2 h) (by omega) 1 (by decide)
theorem sg_21_2 {w : Int32} {d0 d4 d5 d10 d11 d12 d13 d15 d16 d21 d22 d23 d24 d25 d26 d29 d30 d31 : Nat} (h : dg_ok w d0 d4 d5 d10 d11 d12 d13 d15 d16 d21 d22 d23 d24 d25 d26 d29 d30 d31) : w.toBitVec.toNat / 2 ^ 21 % 2 ^ 2 = d21 + 2 * d22 := by
  obtain ⟨⟨b0, b4, b5, b10, b11, b12, b13, b15, b16, b21, b22, b23, b24, b25, b26, b29, b30, b31⟩, hn⟩ := h
  exact wd_cut (A := d0 + 16 * d4 + 32 * d5 + 1024 * d10 + 2048 * d11 + 4096 * d12 + 8192 * d13 + 32768 * d15 + 65536 * d16) (C := d21 + 2 * d22) (D := d23 + 2 * d24 + 4 * d25 + 8 * d26 + 64 * d29 + 128 * d30 + 256 * d31) (by omega) (by omega) (by omega)
theorem a0_21_2 {w : Int32} {d0 d4 d5 d10 d11 d12 d13 d15 d16 d21 d22 d23 d24 d25 d26 d29 d30 d31 : Nat} (h : dg_ok w d0 d4 d5 d10 d11 d12 d13 d15 d16 d21 d22 d23 d24 d25 d26 d29 d30 d31) : fX0_bits w (21 : Int32) (2 : Int32) = nI (d21 + 2 * d22) := (wd_b0 w _ _ 21 2 (by decide) (by decide)).trans (congrArg nI (sg_21_2 h))
theorem q_92 {w : Int32} {d0 d4 d5 d10 d11 d12 d13 d15 d16 d21 d22 d23 d24 d25 d26 d29 d30 d31 : Nat} (h : dg_ok w d0 d4 d5 d10 d11 d12 d13 d15 d16 d21 d22 d23 d24 d25 d26 d29 d30 d31) : ((2 : Int32) ≤ (fX0_bits w (21 : Int32) (2 : Int32))) ↔ (2 ≤ d21 + 2 * d22) := by
  have h9 := h
  obtain ⟨⟨b0, b4, b5, b10, b11, b12, b13, b15, b16, b21, b22, b23, b24, b25, b26, b29, b30, b31⟩, hn⟩ := h9
  clear hn
  exact wd_ge (a0_21_2 h) (by omega) 2 (by decide)
theorem q_93 {w : Int32} {d0 d4 d5 d10 d11 d12 d13 d15 d16 d21 d22 d23 d24 d25 d26 d29 d30 d31 : Nat} (h : dg_ok w d0 d4 d5 d10 d11 d12 d13 d15 d16 d21 d22 d23 d24 d25 d26 d29 d30 d31) : ((fX0_bits w (10 : Int32) (6 : Int32)) = (2 : Int32)) ↔ (d10 + 2 * d11 + 4 * d12 + 8 * d13 + 32 * d15 = 2) := by
  have h9 := h
  obtain ⟨⟨b0, b4, b5, b10, b11, b12, b13, b15, b16, b21, b22, b23, b24, b25, b26, b29, b30, b31⟩, hn⟩ := h9
  clear hn
  exact wd_e (a0_10_6 h) (by omega) 2 (by decide)
theorem q_94 {w : Int32} {d0 d4 d5 d10 d11 d12 d13 d15 d16 d21 d22 d23 d24 d25 d26 d29 d30 d31 : Nat} (h : dg_ok w d0 d4 d5 d10 d11 d12 d13 d15 d16 d21 d22 d23 d24 d25 d26 d29 d30 d31) : ((fX0_bits w (10 : Int32) (6 : Int32)) = (3 : Int32)) ↔ (d10 + 2 * d11 + 4 * d12 + 8 * d13 + 32 * d15 = 3) := by
  have h9 := h
  obtain ⟨⟨b0, b4, b5, b10, b11, b12, b13, b15, b16, b21, b22, b23, b24, b25, b26, b29, b30, b31⟩, hn⟩ := h9
  clear hn
  exact wd_e (a0_10_6 h) (by omega) 3 (by decide)
theorem q_95 {w : Int32} {d0 d4 d5 d10 d11 d12 d13 d15 d16 d21 d22 d23 d24 d25 d26 d29 d30 d31 : Nat} (h : dg_ok w d0 d4 d5 d10 d11 d12 d13 d15 d16 d21 d22 d23 d24 d25 d26 d29 d30 d31) : ((fX0_bits w (10 : Int32) (6 : Int32)) < (8 : Int32)) ↔ (d10 + 2 * d11 + 4 * d12 + 8 * d13 + 32 * d15 < 8) := by
  have h9 := h
  obtain ⟨⟨b0, b4, b5, b10, b11, b12, b13, b15, b16, b21, b22, b23, b24, b25, b26, b29, b30, b31⟩, hn⟩ := h9
  clear hn
  exact wd_lt (a0_10_6 h) (by omega) 8 (by decide)
theorem q_96 {w : Int32} {d0 d4 d5 d10 d11 d12 d13 d15 d16 d21 d22 d23 d24 d25 d26 d29 d30 d31 : Nat} (h : dg_ok w d0 d4 d5 d10 d11 d12 d13 d15 d16 d21 d22 d23 d24 d25 d26 d29 d30 d31) : ((10 : Int32) < (fX0_bits w (10 : Int32) (6 : Int32))) ↔ (10 < d10 + 2 * d11 + 4 * d12 + 8 * d13 + 32 * d15) := by
  have h9 := h
  obtain ⟨⟨b0, b4, b5, b10, b11, b12, b13, b15, b16, b21, b22, b23, b24, b25, b26, b29, b30, b31⟩, hn⟩ := h9
  clear hn
  exact wd_gt (a0_10_6 h) (by omega) 10 (by decide)
theorem a0_12_4 {w : Int32} {d0 d4 d5 d10 d11 d12 d13 d15 d16 d21 d22 d23 d24 d25 d26 d29 d30 d31 : Nat} (h : dg_ok w d0 d4 d5 d10 d11 d12 d13 d15 d16 d21 d22 d23 d24 d25 d26 d29 d30 d31) : fX0_bits w (12 : Int32) (4 : Int32) = nI (d12 + 2 * d13 + 8 * d15) := (wd_b0 w _ _ 12 4 (by decide) (by decide)).trans (congrArg nI (sg_12_4 h))
theorem q_97 {w : Int32} {d0 d4 d5 d10 d11 d12 d13 d15 d16 d21 d22 d23 d24 d25 d26 d29 d30 d31 : Nat} (h : dg_ok w d0 d4 d5 d10 d11 d12 d13 d15 d16 d21 d22 d23 d24 d25 d26 d29 d30 d31) : ((13 : Int32) < (fX0_bits w (12 : Int32) (4 : Int32))) ↔ (13 < d12 + 2 * d13 + 8 * d15) := by
  have h9 := h
  obtain ⟨⟨b0, b4, b5, b10, b11, b12, b13, b15, b16, b21, b22, b23, b24, b25, b26, b29, b30, b31⟩, hn⟩ := h9
  clear hn
  exact wd_gt (a0_12_4 h) (by omega) 13 (by decide)
theorem a0_0_4 {w : Int32} {d0 d4 d5 d10 d11 d12 d13 d15 d16 d21 d22 d23 d24 d25 d26 d29 d30 d31 : Nat} (h : dg_ok w d0 d4 d5 d10 d11 d12 d13 d15 d16 d21 d22 d23 d24 d25 d26 d29 d30 d31) : fX0_bits w (0 : Int32) (4 : Int32) = nI (d0) := (wd_b0 w _ _ 0 4 (by decide) (by decide)).trans (congrArg nI (sg_0_4 h))
theorem q_98 {w : Int32} {d0 d4 d5 d10 d11 d12 d13 d15 d16 d21 d22 d23 d24 d25 d26 d29 d30 d31 : Nat} (h : dg_ok w d0 d4 d5 d10 d11 d12 d13 d15 d16 d21 d22 d23 d24 d25 d26 d29 d30 d31) : ((13 : Int32) < (fX0_bits w (0 : Int32) (4 : Int32))) ↔ (13 < d0) := by
  have h9 := h
  obtain ⟨⟨b0, b4, b5, b10, b11, b12, b13, b15, b16, b21, b22, b23, b24, b25, b26, b29, b30, b31⟩, hn⟩ := h9
  clear hn
  exact wd_gt (a0_0_4 h) (by omega) 13 (by decide)
theorem q_99 {w : Int32} {d0 d4 d5 d10 d11 d12 d13 d15 d16 d21 d22 d23 d24 d25 d26 d29 d30 d31 : Nat} (h : dg_ok w d0 d4 d5 d10 d11 d12 d13 d15 d16 d21 d22 d23 d24 d25 d26 d29 d30 d31) : ((fX0_bits w (22 : Int32) (2 : Int32)) = (2 : Int32)) ↔ (d22 + 2 * d23 = 2) := by
  have h9 := h
  obtain ⟨⟨b0, b4, b5, b10, b11, b12, b13, b15, b16, b21, b22, b23, b24, b25, b26, b29, b30, b31⟩, hn⟩ := h9
  clear hn
  exact wd_e (a0_22_2 h) (by omega) 2 (by decide)
theorem a0_30_2 {w : Int32} {d0 d4 d5 d10 d11 d12 d13 d15 d16 d21 d22 d23 d24 d25 d26 d29 d30 d31 : Nat} (h : dg_ok w d0 d4 d5 d10 d11 d12 d13 d15 d16 d21 d22 d23 d24 d25 d26 d29 d30 d31) : fX0_bits w (30 : Int32) (2 : Int32) = nI (d30 + 2 * d31) := (wd_b0 w _ _ 30 2 (by decide) (by decide)).trans (congrArg nI (sg_30_2 h))
theorem q_100 {w : Int32} {d0 d4 d5 d10 d11 d12 d13 d15 d16 d21 d22 d23 d24 d25 d26 d29 d30 d31 : Nat} (h : dg_ok w d0 d4 d5 d10 d11 d12 d13 d15 d16 d21 d22 d23 d24 d25 d26 d29 d30 d31) : ((fX0_bits w (30 : Int32) (2 : Int32)) = (2 : Int32)) ↔ (d30 + 2 * d31 = 2) := by
  have h9 := h
  obtain ⟨⟨b0, b4, b5, b10, b11, b12, b13, b15, b16, b21, b22, b23, b24, b25, b26, b29, b30, b31⟩, hn⟩ := h9
  clear hn
  exact wd_e (a0_30_2 h) (by omega) 2 (by decide)
theorem q_101 {w : Int32} {d0 d4 d5 d10 d11 d12 d13 d15 d16 d21 d22 d23 d24 d25 d26 d29 d30 d31 : Nat} (h : dg_ok w d0 d4 d5 d10 d11 d12 d13 d15 d16 d21 d22 d23 d24 d25 d26 d29 d30 d31) : ((fX0_bits w (30 : Int32) (2 : Int32)) = (1 : Int32)) ↔ (d30 + 2 * d31 = 1) := by
  have h9 := h
  obtain ⟨⟨b0, b4, b5, b10, b11, b12, b13, b15, b16, b21, b22, b23, b24, b25, b26, b29, b30, b31⟩, hn⟩ := h9
  clear hn
  exact wd_e (a0_30_2 h) (by omega) 1 (by decide)
