set_option maxHeartbeats 8000000 in
set_option maxRecDepth 100000 in
theorem z0_long {w : Int32} {d0 d4 d5 d10 d11 d12 d13 d15 d16 d21 d22 d23 d24 d25 d26 d29 d30 d31 : Nat} (h : dg_ok w d0 d4 d5 d10 d11 d12 d13 d15 d16 d21 d22 d23 d24 d25 d26 d29 d30 d31) : (fX0_isLong w = 0) ↔ (d31 = 0) := by
  rw [← q_0 h]
  unfold fX0_isLong
  split
  · rename_i g; exact ⟨fun _ => g, fun _ => rfl⟩
  · rename_i g; exact ⟨fun k => absurd k (by decide), fun k => absurd k g⟩
set_option maxHeartbeats 8000000 in
set_option maxRecDepth 100000 in
theorem z0_moved {w : Int32} {d0 d4 d5 d10 d11 d12 d13 d15 d16 d21 d22 d23 d24 d25 d26 d29 d30 d31 : Nat} (h : dg_ok w d0 d4 d5 d10 d11 d12 d13 d15 d16 d21 d22 d23 d24 d25 d26 d29 d30 d31) : (fX0_isMovedWithin w = 0) ↔ (d31 = 0 ∧ d15 = 1) := by
  have h9 := h
  obtain ⟨⟨b0, b4, b5, b10, b11, b12, b13, b15, b16, b21, b22, b23, b24, b25, b26, b29, b30, b31⟩, hn⟩ := h9
  clear hn
  unfold fX0_isMovedWithin
  simp only [z0_long h, q_1 h]
  clear h
  repeat' split
  all_goals first | exact ⟨fun _ => by omega, fun _ => rfl⟩ | exact ⟨fun g => absurd g (by decide), fun g => by exfalso; omega⟩
set_option maxHeartbeats 8000000 in
set_option maxRecDepth 100000 in
theorem z0_pair {w : Int32} {d0 d4 d5 d10 d11 d12 d13 d15 d16 d21 d22 d23 d24 d25 d26 d29 d30 d31 : Nat} (h : dg_ok w d0 d4 d5 d10 d11 d12 d13 d15 d16 d21 d22 d23 d24 d25 d26 d29 d30 d31) : (fX0_isPair w = 0) ↔ (d23 + 2 * d24 = 0 ∨ (¬ d23 + 2 * d24 = 2 ∧ ¬ d5 = 31 ∧ (d5 = d0 + 16 * d4 ∨ d5 = d10 + 2 * d11 + 4 * d12 + 8 * d13)) ∨ (d22 = 1 ∧ d0 + 16 * d4 = d10 + 2 * d11 + 4 * d12 + 8 * d13)) := by
  have h9 := h
  obtain ⟨⟨b0, b4, b5, b10, b11, b12, b13, b15, b16, b21, b22, b23, b24, b25, b26, b29, b30, b31⟩, hn⟩ := h9
  clear hn
  unfold fX0_isPair
  simp only [q_2 h, q_3 h, q_4 h, q_5 h, q_6 h, q_7 h, q_8 h]
  clear h
  repeat' split
  all_goals first | exact ⟨fun _ => by omega, fun _ => rfl⟩ | exact ⟨fun g => absurd g (by decide), fun g => by exfalso; omega⟩
set_option maxHeartbeats 8000000 in
set_option maxRecDepth 100000 in
theorem z1_pair {w : Int32} {d0 d4 d5 d10 d11 d12 d13 d15 d16 d21 d22 d23 d24 d25 d26 d29 d30 d31 : Nat} (h : dg_ok w d0 d4 d5 d10 d11 d12 d13 d15 d16 d21 d22 d23 d24 d25 d26 d29 d30 d31) : (fX1_isPair w = 0) ↔ (d23 + 2 * d24 = 0 ∨ (¬ d23 + 2 * d24 = 2 ∧ ¬ d5 = 31 ∧ (d5 = d0 + 16 * d4 ∨ d5 = d10 + 2 * d11 + 4 * d12 + 8 * d13)) ∨ (d22 = 1 ∧ d0 + 16 * d4 = d10 + 2 * d11 + 4 * d12 + 8 * d13)) := by
  have h9 := h
  obtain ⟨⟨b0, b4, b5, b10, b11, b12, b13, b15, b16, b21, b22, b23, b24, b25, b26, b29, b30, b31⟩, hn⟩ := h9
  clear hn
  unfold fX1_isPair
  simp only [q_9 h, q_10 h, q_11 h, q_12 h, q_13 h, q_14 h, q_15 h]
  clear h
  repeat' split
  all_goals first | exact ⟨fun _ => by omega, fun _ => rfl⟩ | exact ⟨fun g => absurd g (by decide), fun g => by exfalso; omega⟩
set_option maxHeartbeats 8000000 in
set_option maxRecDepth 100000 in
theorem z1_moved {w : Int32} {d0 d4 d5 d10 d11 d12 d13 d15 d16 d21 d22 d23 d24 d25 d26 d29 d30 d31 : Nat} (h : dg_ok w d0 d4 d5 d10 d11 d12 d13 d15 d16 d21 d22 d23 d24 d25 d26 d29 d30 d31) : (fX1_isMoved w = 0) ↔ (d31 = 0 ∧ d15 = 1) := by
  have h9 := h
  obtain ⟨⟨b0, b4, b5, b10, b11, b12, b13, b15, b16, b21, b22, b23, b24, b25, b26, b29, b30, b31⟩, hn⟩ := h9
  clear hn
  unfold fX1_isMoved
  simp only [q_16 h, q_17 h]
  clear h
  repeat' split
  all_goals first | exact ⟨fun _ => by omega, fun _ => rfl⟩ | exact ⟨fun g => absurd g (by decide), fun g => by exfalso; omega⟩
set_option maxHeartbeats 8000000 in
set_option maxRecDepth 100000 in
theorem z1_byreg {w : Int32} {d0 d4 d5 d10 d11 d12 d13 d15 d16 d21 d22 d23 d24 d25 d26 d29 d30 d31 : Nat} (h : dg_ok w d0 d4 d5 d10 d11 d12 d13 d15 d16 d21 d22 d23 d24 d25 d26 d29 d30 d31) : (fX1_isByRegister w = 0) ↔ (¬ (d21 = 1 ∧ d13 + 4 * d15 = 3 ∧ d10 + 2 * d11 = 2)) := by
  have h9 := h
  obtain ⟨⟨b0, b4, b5, b10, b11, b12, b13, b15, b16, b21, b22, b23, b24, b25, b26, b29, b30, b31⟩, hn⟩ := h9
  clear hn
  unfold fX1_isByRegister
  simp only [q_18 h, q_19 h, q_20 h]
  clear h
  repeat' split
  all_goals first | exact ⟨fun _ => by omega, fun _ => rfl⟩ | exact ⟨fun g => absurd g (by decide), fun g => by exfalso; omega⟩
set_option maxHeartbeats 8000000 in
set_option maxRecDepth 100000 in
theorem z1_size {w : Int32} {d0 d4 d5 d10 d11 d12 d13 d15 d16 d21 d22 d23 d24 d25 d26 d29 d30 d31 : Nat} (h : dg_ok w d0 d4 d5 d10 d11 d12 d13 d15 d16 d21 d22 d23 d24 d25 d26 d29 d30 d31) : (fX1_isSize w = 0) ↔ ((d22 + 2 * d23 = 3) ∨ (d22 + 2 * d23 = 2 ∧ ¬ d30 + 2 * d31 = 2) ∨ (¬ d22 + 2 * d23 = 2 ∧ d30 + 2 * d31 = 1)) := by
  have h9 := h
  obtain ⟨⟨b0, b4, b5, b10, b11, b12, b13, b15, b16, b21, b22, b23, b24, b25, b26, b29, b30, b31⟩, hn⟩ := h9
  clear hn
  unfold fX1_isSize
  simp only [q_21 h, q_22 h, q_23 h, q_24 h]
  clear h
  repeat' split
  all_goals first | exact ⟨fun _ => by omega, fun _ => rfl⟩ | exact ⟨fun g => absurd g (by decide), fun g => by exfalso; omega⟩
set_option maxHeartbeats 8000000 in
set_option maxRecDepth 100000 in
theorem k1_gbr {w : Int32} {d0 d4 d5 d10 d11 d12 d13 d15 d16 d21 d22 d23 d24 d25 d26 d29 d30 d31 : Nat} (h : dg_ok w d0 d4 d5 d10 d11 d12 d13 d15 d16 d21 d22 d23 d24 d25 d26 d29 d30 d31) : fX1_goesByRegister w = (if 0 < d0 + 16 * d4 then (0 : Int32) else (if 0 < d10 + 2 * d11 + 4 * d12 + 8 * d13 + 32 * d15 then (0 : Int32) else (if d16 = 31 then (if 3 ≤ d21 + 2 * d22 + 4 * d23 then (0 : Int32) else (if d21 + 2 * d22 + 4 * d23 = 0 then (17 : Int32) else (if d21 + 2 * d22 + 4 * d23 = 1 then (18 : Int32) else (19 : Int32)))) else (0 : Int32)))) := by
  have h9 := h
  obtain ⟨⟨b0, b4, b5, b10, b11, b12, b13, b15, b16, b21, b22, b23, b24, b25, b26, b29, b30, b31⟩, hn⟩ := h9
  clear hn
  have e := a1_21_23 h
  unfold fX1_goesByRegister
  simp only [q_25 h, q_26 h, q_27 h, q_28 h]
  clear h
  repeat' split
  all_goals first | rfl | (rw [e]; first | (rw [show d21 + 2 * d22 + 4 * d23 = 0 from by omega]; decide) | (rw [show d21 + 2 * d22 + 4 * d23 = 1 from by omega]; decide) | (rw [show d21 + 2 * d22 + 4 * d23 = 2 from by omega]; decide))
def jN (d0 d4 d5 d10 d11 d12 d13 d15 d16 d21 d22 d23 d24 d25 d26 d29 d30 d31 : Nat) : Int32 := (if d26 + 8 * d29 + 16 * d30 + 32 * d31 = 5 then (12 : Int32) else (if d26 + 8 * d29 + 16 * d30 + 32 * d31 = 37 then (13 : Int32) else (if d24 + 2 * d25 + 4 * d26 + 32 * d29 + 64 * d30 + 128 * d31 = 84 then (if d4 = 0 then (if 14 ≤ d0 then (0 : Int32) else (14 : Int32)) else (0 : Int32)) else (if d25 + 2 * d26 + 16 * d29 + 32 * d30 = 26 then (15 : Int32) else (if d25 + 2 * d26 + 16 * d29 + 32 * d30 = 27 then (16 : Int32) else (if d24 + 2 * d25 + 4 * d26 + 32 * d29 + 64 * d30 + 128 * d31 = 214 then (if 0 < d0 + 16 * d4 then (0 : Int32) else (if 0 < d10 + 2 * d11 + 4 * d12 + 8 * d13 + 32 * d15 then (0 : Int32) else (if d16 = 31 then (if 3 ≤ d21 + 2 * d22 + 4 * d23 then (0 : Int32) else (if d21 + 2 * d22 + 4 * d23 = 0 then (17 : Int32) else (if d21 + 2 * d22 + 4 * d23 = 1 then (18 : Int32) else (19 : Int32)))) else (0 : Int32)))) else (if d21 + 2 * d22 + 4 * d23 + 8 * d24 + 16 * d25 + 32 * d26 + 256 * d29 + 512 * d30 + 1024 * d31 = 1696 then (if d0 + 16 * d4 = 1 then (20 : Int32) else (if d0 + 16 * d4 + 32 * d5 + 1024 * d10 + 2048 * d11 + 4096 * d12 + 8192 * d13 + 32768 * d15 + 65536 * d16 + 2097152 * d21 + 4194304 * d22 + 8388608 * d23 + 16777216 * d24 + 33554432 * d25 + 67108864 * d26 + 536870912 * d29 + 1073741824 * d30 + 2147483648 * d31 = 3573751839 then (21 : Int32) else (0 : Int32))) else (if d0 + 16 * d4 + 32 * d5 + 1024 * d10 + 2048 * d11 + 4096 * d12 + 8192 * d13 + 32768 * d15 + 65536 * d16 + 2097152 * d21 + 4194304 * d22 + 8388608 * d23 + 16777216 * d24 + 33554432 * d25 + 67108864 * d26 + 536870912 * d29 + 1073741824 * d30 + 2147483648 * d31 = 3573751839 then (21 : Int32) else (0 : Int32)))))))))
def i2N (d0 d4 d5 d10 d11 d12 d13 d15 d16 d21 d22 d23 d24 d25 d26 d29 d30 d31 : Nat) : Int32 := (if d21 + 2 * d22 + 4 * d23 = 6 then (if d10 + 2 * d11 + 4 * d12 + 8 * d13 + 32 * d15 = 2 then (7 : Int32) else (if d10 + 2 * d11 + 4 * d12 + 8 * d13 + 32 * d15 = 3 then (7 : Int32) else (if d10 + 2 * d11 + 4 * d12 + 8 * d13 + 32 * d15 ≤ 7 then (0 : Int32) else (if 11 ≤ d10 + 2 * d11 + 4 * d12 + 8 * d13 + 32 * d15 then (0 : Int32) else (7 : Int32))))) else (if d21 + 2 * d22 + 4 * d23 = 4 then (if d11 = 0 then (if 14 ≤ d12 + 2 * d13 + 8 * d15 then (0 : Int32) else (8 : Int32)) else (0 : Int32)) else (0 : Int32)))
def kN (d0 d4 d5 d10 d11 d12 d13 d15 d16 d21 d22 d23 d24 d25 d26 d29 d30 d31 : Nat) : Int32 := (if d24 + 2 * d25 + 4 * d26 = 8 then (if d25 + 2 * d26 + 16 * d29 + 32 * d30 + 64 * d31 = 84 then (if d23 + 2 * d24 = 0 ∨ (¬ d23 + 2 * d24 = 2 ∧ ¬ d5 = 31 ∧ (d5 = d0 + 16 * d4 ∨ d5 = d10 + 2 * d11 + 4 * d12 + 8 * d13)) ∨ (d22 = 1 ∧ d0 + 16 * d4 = d10 + 2 * d11 + 4 * d12 + 8 * d13) then (0 : Int32) else (11 : Int32)) else (0 : Int32)) else (if d24 + 2 * d25 + 4 * d26 = 9 then (if d25 + 2 * d26 + 16 * d29 + 32 * d30 + 64 * d31 = 84 then (if d23 + 2 * d24 = 0 ∨ (¬ d23 + 2 * d24 = 2 ∧ ¬ d5 = 31 ∧ (d5 = d0 + 16 * d4 ∨ d5 = d10 + 2 * d11 + 4 * d12 + 8 * d13)) ∨ (d22 = 1 ∧ d0 + 16 * d4 = d10 + 2 * d11 + 4 * d12 + 8 * d13) then (0 : Int32) else (11 : Int32)) else (0 : Int32)) else (if d24 + 2 * d25 + 4 * d26 = 10 then (if d31 = 0 ∧ d15 = 1 then (0 : Int32) else (3 : Int32)) else (if d24 + 2 * d25 + 4 * d26 = 11 then (if d21 = 0 then (if d22 + 2 * d23 = 3 then (0 : Int32) else (if d31 = 0 ∧ d15 = 1 then (0 : Int32) else (2 : Int32))) else (0 : Int32)) else (if d24 + 2 * d25 + 4 * d26 = 16 then (if d31 = 0 then (0 : Int32) else (5 : Int32)) else (if d24 + 2 * d25 + 4 * d26 = 17 then (if d23 = 0 then (1 : Int32) else (0 : Int32)) else (if d24 + 2 * d25 + 4 * d26 = 18 then (if d23 = 1 then (if d29 + 2 * d30 = 1 then (0 : Int32) else (if d31 = 1 then (4 : Int32) else (if d22 = 0 then (4 : Int32) else (0 : Int32)))) else (0 : Int32)) else (if d24 + 2 * d25 + 4 * d26 = 24 then (if d29 = 1 then (if ¬ (d21 = 1 ∧ d13 + 4 * d15 = 3 ∧ d10 + 2 * d11 = 2) then (0 : Int32) else (if (d22 + 2 * d23 = 3) ∨ (d22 + 2 * d23 = 2 ∧ ¬ d30 + 2 * d31 = 2) ∨ (¬ d22 + 2 * d23 = 2 ∧ d30 + 2 * d31 = 1) then (0 : Int32) else (10 : Int32))) else (0 : Int32)) else (if d24 + 2 * d25 + 4 * d26 = 25 then (if d29 = 1 then (if (d22 + 2 * d23 = 3) ∨ (d22 + 2 * d23 = 2 ∧ ¬ d30 + 2 * d31 = 2) ∨ (¬ d22 + 2 * d23 = 2 ∧ d30 + 2 * d31 = 1) then (0 : Int32) else (9 : Int32)) else (0 : Int32)) else (if d24 + 2 * d25 + 4 * d26 = 26 then (if d29 + 2 * d30 ≤ 0 then (i2N d0 d4 d5 d10 d11 d12 d13 d15 d16 d21 d22 d23 d24 d25 d26 d29 d30 d31) else (0 : Int32)) else (if d24 + 2 * d25 + 4 * d26 = 27 then (if d21 + 2 * d22 + 4 * d23 = 0 then (if d29 + 2 * d30 = 0 then (6 : Int32) else (0 : Int32)) else (0 : Int32)) else (jN d0 d4 d5 d10 d11 d12 d13 d15 d16 d21 d22 d23 d24 d25 d26 d29 d30 d31))))))))))))
set_option maxHeartbeats 8000000 in
set_option maxRecDepth 100000 in
theorem k1_jumps {w : Int32} {d0 d4 d5 d10 d11 d12 d13 d15 d16 d21 d22 d23 d24 d25 d26 d29 d30 d31 : Nat} (h : dg_ok w d0 d4 d5 d10 d11 d12 d13 d15 d16 d21 d22 d23 d24 d25 d26 d29 d30 d31) : fX1_jumps w = jN d0 d4 d5 d10 d11 d12 d13 d15 d16 d21 d22 d23 d24 d25 d26 d29 d30 d31 := by
  unfold fX1_jumps jN
  simp only [k1_gbr h, q_29 h, q_30 h, q_31 h, q_32 h, q_33 h, q_34 h, q_35 h, q_36 h, q_37 h, q_38 h, q_39 h]
set_option maxHeartbeats 8000000 in
set_option maxRecDepth 100000 in
theorem k1_inTwo {w : Int32} {d0 d4 d5 d10 d11 d12 d13 d15 d16 d21 d22 d23 d24 d25 d26 d29 d30 d31 : Nat} (h : dg_ok w d0 d4 d5 d10 d11 d12 d13 d15 d16 d21 d22 d23 d24 d25 d26 d29 d30 d31) : fX1_inTwo w = i2N d0 d4 d5 d10 d11 d12 d13 d15 d16 d21 d22 d23 d24 d25 d26 d29 d30 d31 := by
  unfold fX1_inTwo i2N
  simp only [q_40 h, q_41 h, q_42 h, q_43 h, q_44 h, q_45 h, q_46 h, q_47 h]
set_option maxHeartbeats 8000000 in
set_option maxRecDepth 100000 in
theorem k1_N {w : Int32} {d0 d4 d5 d10 d11 d12 d13 d15 d16 d21 d22 d23 d24 d25 d26 d29 d30 d31 : Nat} (h : dg_ok w d0 d4 d5 d10 d11 d12 d13 d15 d16 d21 d22 d23 d24 d25 d26 d29 d30 d31) : fX1_kind w = kN d0 d4 d5 d10 d11 d12 d13 d15 d16 d21 d22 d23 d24 d25 d26 d29 d30 d31 := by
  unfold fX1_kind kN
  simp only [k1_jumps h, k1_inTwo h, z1_pair h, z1_moved h, z1_byreg h, z1_size h, q_48 h, q_49 h, q_50 h, q_51 h, q_52 h, q_53 h, q_54 h, q_55 h, q_0 h, q_56 h, q_57 h, q_58 h, q_59 h, q_60 h, q_16 h, q_11 h, q_61 h, q_62 h, q_63 h, q_64 h, q_65 h, q_66 h, q_67 h, q_68 h]
set_option maxHeartbeats 8000000 in
set_option maxRecDepth 100000 in
theorem al_1 (w : Int32) : ¬ fX0_isAllowed (1 : Int32) w = 0 := by
  unfold fX0_isAllowed
  rw [if_neg (by decide), if_neg (by decide), if_neg (by decide), if_neg (by decide), if_neg (by decide), if_neg (by decide), if_neg (by decide), if_neg (by decide), if_neg (by decide)]
  decide
set_option maxHeartbeats 8000000 in
set_option maxRecDepth 100000 in
theorem al_2 {w : Int32} {d0 d4 d5 d10 d11 d12 d13 d15 d16 d21 d22 d23 d24 d25 d26 d29 d30 d31 : Nat} (h : dg_ok w d0 d4 d5 d10 d11 d12 d13 d15 d16 d21 d22 d23 d24 d25 d26 d29 d30 d31) : (fX0_isAllowed (2 : Int32) w = 0) ↔ (d22 + 2 * d23 = 3 ∨ (d31 = 0 ∧ d15 = 1)) := by
  have h9 := h
  obtain ⟨⟨b0, b4, b5, b10, b11, b12, b13, b15, b16, b21, b22, b23, b24, b25, b26, b29, b30, b31⟩, hn⟩ := h9
  clear hn
  unfold fX0_isAllowed
  rw [if_pos rfl]
  simp only [fX0_isTwo, fX0_isCondition, fX0_isLoad, z0_moved h, z0_long h, q_1 h, q_2 h, q_3 h, q_4 h, q_5 h, q_6 h, q_7 h, q_8 h, q_90 h, q_91 h, q_92 h, q_93 h, q_94 h, q_95 h, q_96 h, q_97 h, q_98 h, q_99 h, q_100 h, q_101 h]
  clear h
  repeat' split
  all_goals first | exact ⟨fun _ => by omega, fun _ => rfl⟩ | exact ⟨fun g => absurd g (by decide), fun g => by exfalso; omega⟩
set_option maxHeartbeats 8000000 in
set_option maxRecDepth 100000 in
theorem al_3 {w : Int32} {d0 d4 d5 d10 d11 d12 d13 d15 d16 d21 d22 d23 d24 d25 d26 d29 d30 d31 : Nat} (h : dg_ok w d0 d4 d5 d10 d11 d12 d13 d15 d16 d21 d22 d23 d24 d25 d26 d29 d30 d31) : (fX0_isAllowed (3 : Int32) w = 0) ↔ (d31 = 0 ∧ d15 = 1) := by
  unfold fX0_isAllowed
  rw [if_neg (by decide), if_pos rfl]
  exact z0_moved h
set_option maxHeartbeats 8000000 in
set_option maxRecDepth 100000 in
theorem al_4 {w : Int32} {d0 d4 d5 d10 d11 d12 d13 d15 d16 d21 d22 d23 d24 d25 d26 d29 d30 d31 : Nat} (h : dg_ok w d0 d4 d5 d10 d11 d12 d13 d15 d16 d21 d22 d23 d24 d25 d26 d29 d30 d31) : (fX0_isAllowed (4 : Int32) w = 0) ↔ (d29 + 2 * d30 = 1 ∨ (d31 = 0 ∧ 2 ≤ d21 + 2 * d22)) := by
  have h9 := h
  obtain ⟨⟨b0, b4, b5, b10, b11, b12, b13, b15, b16, b21, b22, b23, b24, b25, b26, b29, b30, b31⟩, hn⟩ := h9
  clear hn
  unfold fX0_isAllowed
  rw [if_neg (by decide), if_neg (by decide), if_pos rfl]
  simp only [fX0_isTwo, fX0_isCondition, fX0_isLoad, z0_moved h, z0_long h, q_1 h, q_2 h, q_3 h, q_4 h, q_5 h, q_6 h, q_7 h, q_8 h, q_90 h, q_91 h, q_92 h, q_93 h, q_94 h, q_95 h, q_96 h, q_97 h, q_98 h, q_99 h, q_100 h, q_101 h]
  clear h
  repeat' split
  all_goals first | exact ⟨fun _ => by omega, fun _ => rfl⟩ | exact ⟨fun g => absurd g (by decide), fun g => by exfalso; omega⟩
set_option maxHeartbeats 8000000 in
set_option maxRecDepth 100000 in
theorem al_5 (w : Int32) : ¬ fX0_isAllowed (5 : Int32) w = 0 := by
  unfold fX0_isAllowed
  rw [if_neg (by decide), if_neg (by decide), if_neg (by decide), if_neg (by decide), if_neg (by decide), if_neg (by decide), if_neg (by decide), if_neg (by decide), if_neg (by decide)]
  decide
set_option maxHeartbeats 8000000 in
set_option maxRecDepth 100000 in
theorem al_6 (w : Int32) : ¬ fX0_isAllowed (6 : Int32) w = 0 := by
  unfold fX0_isAllowed
  rw [if_neg (by decide), if_neg (by decide), if_neg (by decide), if_neg (by decide), if_neg (by decide), if_neg (by decide), if_neg (by decide), if_neg (by decide), if_neg (by decide)]
  decide
set_option maxHeartbeats 8000000 in
set_option maxRecDepth 100000 in
theorem al_7 {w : Int32} {d0 d4 d5 d10 d11 d12 d13 d15 d16 d21 d22 d23 d24 d25 d26 d29 d30 d31 : Nat} (h : dg_ok w d0 d4 d5 d10 d11 d12 d13 d15 d16 d21 d22 d23 d24 d25 d26 d29 d30 d31) : (fX0_isAllowed (7 : Int32) w = 0) ↔ (¬ (d10 + 2 * d11 + 4 * d12 + 8 * d13 + 32 * d15 = 2 ∨ d10 + 2 * d11 + 4 * d12 + 8 * d13 + 32 * d15 = 3 ∨ (8 ≤ d10 + 2 * d11 + 4 * d12 + 8 * d13 + 32 * d15 ∧ d10 + 2 * d11 + 4 * d12 + 8 * d13 + 32 * d15 ≤ 10))) := by
  have h9 := h
  obtain ⟨⟨b0, b4, b5, b10, b11, b12, b13, b15, b16, b21, b22, b23, b24, b25, b26, b29, b30, b31⟩, hn⟩ := h9
  clear hn
  unfold fX0_isAllowed
  rw [if_neg (by decide), if_neg (by decide), if_neg (by decide), if_pos rfl]
  simp only [fX0_isTwo, fX0_isCondition, fX0_isLoad, z0_moved h, z0_long h, q_1 h, q_2 h, q_3 h, q_4 h, q_5 h, q_6 h, q_7 h, q_8 h, q_90 h, q_91 h, q_92 h, q_93 h, q_94 h, q_95 h, q_96 h, q_97 h, q_98 h, q_99 h, q_100 h, q_101 h]
  clear h
  repeat' split
  all_goals first | exact ⟨fun _ => by omega, fun _ => rfl⟩ | exact ⟨fun g => absurd g (by decide), fun g => by exfalso; omega⟩
set_option maxHeartbeats 8000000 in
set_option maxRecDepth 100000 in
theorem al_8 {w : Int32} {d0 d4 d5 d10 d11 d12 d13 d15 d16 d21 d22 d23 d24 d25 d26 d29 d30 d31 : Nat} (h : dg_ok w d0 d4 d5 d10 d11 d12 d13 d15 d16 d21 d22 d23 d24 d25 d26 d29 d30 d31) : (fX0_isAllowed (8 : Int32) w = 0) ↔ (13 < d12 + 2 * d13 + 8 * d15) := by
  have h9 := h
  obtain ⟨⟨b0, b4, b5, b10, b11, b12, b13, b15, b16, b21, b22, b23, b24, b25, b26, b29, b30, b31⟩, hn⟩ := h9
  clear hn
  unfold fX0_isAllowed
  rw [if_neg (by decide), if_neg (by decide), if_neg (by decide), if_neg (by decide), if_pos rfl]
  simp only [fX0_isTwo, fX0_isCondition, fX0_isLoad, z0_moved h, z0_long h, q_1 h, q_2 h, q_3 h, q_4 h, q_5 h, q_6 h, q_7 h, q_8 h, q_90 h, q_91 h, q_92 h, q_93 h, q_94 h, q_95 h, q_96 h, q_97 h, q_98 h, q_99 h, q_100 h, q_101 h]
  clear h
  repeat' split
  all_goals first | exact ⟨fun _ => by omega, fun _ => rfl⟩ | exact ⟨fun g => absurd g (by decide), fun g => by exfalso; omega⟩
set_option maxHeartbeats 8000000 in
set_option maxRecDepth 100000 in
theorem al_9 {w : Int32} {d0 d4 d5 d10 d11 d12 d13 d15 d16 d21 d22 d23 d24 d25 d26 d29 d30 d31 : Nat} (h : dg_ok w d0 d4 d5 d10 d11 d12 d13 d15 d16 d21 d22 d23 d24 d25 d26 d29 d30 d31) : (fX0_isAllowed (9 : Int32) w = 0) ↔ ((d22 + 2 * d23 = 3) ∨ (d22 + 2 * d23 = 2 ∧ ¬ d30 + 2 * d31 = 2) ∨ (¬ d22 + 2 * d23 = 2 ∧ d30 + 2 * d31 = 1)) := by
  have h9 := h
  obtain ⟨⟨b0, b4, b5, b10, b11, b12, b13, b15, b16, b21, b22, b23, b24, b25, b26, b29, b30, b31⟩, hn⟩ := h9
  clear hn
  unfold fX0_isAllowed
  rw [if_neg (by decide), if_neg (by decide), if_neg (by decide), if_neg (by decide), if_neg (by decide), if_pos rfl]
  simp only [fX0_isTwo, fX0_isCondition, fX0_isLoad, z0_moved h, z0_long h, q_1 h, q_2 h, q_3 h, q_4 h, q_5 h, q_6 h, q_7 h, q_8 h, q_90 h, q_91 h, q_92 h, q_93 h, q_94 h, q_95 h, q_96 h, q_97 h, q_98 h, q_99 h, q_100 h, q_101 h]
  clear h
  repeat' split
  all_goals first | exact ⟨fun _ => by omega, fun _ => rfl⟩ | exact ⟨fun g => absurd g (by decide), fun g => by exfalso; omega⟩
set_option maxHeartbeats 8000000 in
set_option maxRecDepth 100000 in
theorem al_10 {w : Int32} {d0 d4 d5 d10 d11 d12 d13 d15 d16 d21 d22 d23 d24 d25 d26 d29 d30 d31 : Nat} (h : dg_ok w d0 d4 d5 d10 d11 d12 d13 d15 d16 d21 d22 d23 d24 d25 d26 d29 d30 d31) : (fX0_isAllowed (10 : Int32) w = 0) ↔ ((d22 + 2 * d23 = 3) ∨ (d22 + 2 * d23 = 2 ∧ ¬ d30 + 2 * d31 = 2) ∨ (¬ d22 + 2 * d23 = 2 ∧ d30 + 2 * d31 = 1)) := by
  have h9 := h
  obtain ⟨⟨b0, b4, b5, b10, b11, b12, b13, b15, b16, b21, b22, b23, b24, b25, b26, b29, b30, b31⟩, hn⟩ := h9
  clear hn
  unfold fX0_isAllowed
  rw [if_neg (by decide), if_neg (by decide), if_neg (by decide), if_neg (by decide), if_neg (by decide), if_neg (by decide), if_pos rfl]
  simp only [fX0_isTwo, fX0_isCondition, fX0_isLoad, z0_moved h, z0_long h, q_1 h, q_2 h, q_3 h, q_4 h, q_5 h, q_6 h, q_7 h, q_8 h, q_90 h, q_91 h, q_92 h, q_93 h, q_94 h, q_95 h, q_96 h, q_97 h, q_98 h, q_99 h, q_100 h, q_101 h]
  clear h
  repeat' split
  all_goals first | exact ⟨fun _ => by omega, fun _ => rfl⟩ | exact ⟨fun g => absurd g (by decide), fun g => by exfalso; omega⟩
set_option maxHeartbeats 8000000 in
set_option maxRecDepth 100000 in
theorem al_11 {w : Int32} {d0 d4 d5 d10 d11 d12 d13 d15 d16 d21 d22 d23 d24 d25 d26 d29 d30 d31 : Nat} (h : dg_ok w d0 d4 d5 d10 d11 d12 d13 d15 d16 d21 d22 d23 d24 d25 d26 d29 d30 d31) : (fX0_isAllowed (11 : Int32) w = 0) ↔ (d23 + 2 * d24 = 0 ∨ (¬ d23 + 2 * d24 = 2 ∧ ¬ d5 = 31 ∧ (d5 = d0 + 16 * d4 ∨ d5 = d10 + 2 * d11 + 4 * d12 + 8 * d13)) ∨ (d22 = 1 ∧ d0 + 16 * d4 = d10 + 2 * d11 + 4 * d12 + 8 * d13)) := by
  unfold fX0_isAllowed
  rw [if_neg (by decide), if_neg (by decide), if_neg (by decide), if_neg (by decide), if_neg (by decide), if_neg (by decide), if_neg (by decide), if_pos rfl]
  exact z0_pair h
set_option maxHeartbeats 8000000 in
set_option maxRecDepth 100000 in
theorem al_12 (w : Int32) : ¬ fX0_isAllowed (12 : Int32) w = 0 := by
  unfold fX0_isAllowed
  rw [if_neg (by decide), if_neg (by decide), if_neg (by decide), if_neg (by decide), if_neg (by decide), if_neg (by decide), if_neg (by decide), if_neg (by decide), if_neg (by decide)]
  decide
set_option maxHeartbeats 8000000 in
set_option maxRecDepth 100000 in
theorem al_13 (w : Int32) : ¬ fX0_isAllowed (13 : Int32) w = 0 := by
  unfold fX0_isAllowed
  rw [if_neg (by decide), if_neg (by decide), if_neg (by decide), if_neg (by decide), if_neg (by decide), if_neg (by decide), if_neg (by decide), if_neg (by decide), if_neg (by decide)]
  decide
set_option maxHeartbeats 8000000 in
set_option maxRecDepth 100000 in
theorem al_14 {w : Int32} {d0 d4 d5 d10 d11 d12 d13 d15 d16 d21 d22 d23 d24 d25 d26 d29 d30 d31 : Nat} (h : dg_ok w d0 d4 d5 d10 d11 d12 d13 d15 d16 d21 d22 d23 d24 d25 d26 d29 d30 d31) : (fX0_isAllowed (14 : Int32) w = 0) ↔ (13 < d0) := by
  have h9 := h
  obtain ⟨⟨b0, b4, b5, b10, b11, b12, b13, b15, b16, b21, b22, b23, b24, b25, b26, b29, b30, b31⟩, hn⟩ := h9
  clear hn
  unfold fX0_isAllowed
  rw [if_neg (by decide), if_neg (by decide), if_neg (by decide), if_neg (by decide), if_neg (by decide), if_neg (by decide), if_neg (by decide), if_neg (by decide), if_pos rfl]
  simp only [fX0_isTwo, fX0_isCondition, fX0_isLoad, z0_moved h, z0_long h, q_1 h, q_2 h, q_3 h, q_4 h, q_5 h, q_6 h, q_7 h, q_8 h, q_90 h, q_91 h, q_92 h, q_93 h, q_94 h, q_95 h, q_96 h, q_97 h, q_98 h, q_99 h, q_100 h, q_101 h]
  clear h
  repeat' split
  all_goals first | exact ⟨fun _ => by omega, fun _ => rfl⟩ | exact ⟨fun g => absurd g (by decide), fun g => by exfalso; omega⟩
set_option maxHeartbeats 8000000 in
set_option maxRecDepth 100000 in
theorem al_15 (w : Int32) : ¬ fX0_isAllowed (15 : Int32) w = 0 := by
  unfold fX0_isAllowed
  rw [if_neg (by decide), if_neg (by decide), if_neg (by decide), if_neg (by decide), if_neg (by decide), if_neg (by decide), if_neg (by decide), if_neg (by decide), if_neg (by decide)]
  decide
set_option maxHeartbeats 8000000 in
set_option maxRecDepth 100000 in
theorem al_16 (w : Int32) : ¬ fX0_isAllowed (16 : Int32) w = 0 := by
  unfold fX0_isAllowed
  rw [if_neg (by decide), if_neg (by decide), if_neg (by decide), if_neg (by decide), if_neg (by decide), if_neg (by decide), if_neg (by decide), if_neg (by decide), if_neg (by decide)]
  decide
set_option maxHeartbeats 8000000 in
set_option maxRecDepth 100000 in
theorem al_17 (w : Int32) : ¬ fX0_isAllowed (17 : Int32) w = 0 := by
  unfold fX0_isAllowed
  rw [if_neg (by decide), if_neg (by decide), if_neg (by decide), if_neg (by decide), if_neg (by decide), if_neg (by decide), if_neg (by decide), if_neg (by decide), if_neg (by decide)]
  decide
set_option maxHeartbeats 8000000 in
set_option maxRecDepth 100000 in
theorem al_18 (w : Int32) : ¬ fX0_isAllowed (18 : Int32) w = 0 := by
  unfold fX0_isAllowed
  rw [if_neg (by decide), if_neg (by decide), if_neg (by decide), if_neg (by decide), if_neg (by decide), if_neg (by decide), if_neg (by decide), if_neg (by decide), if_neg (by decide)]
  decide
set_option maxHeartbeats 8000000 in
set_option maxRecDepth 100000 in
theorem al_19 (w : Int32) : ¬ fX0_isAllowed (19 : Int32) w = 0 := by
  unfold fX0_isAllowed
  rw [if_neg (by decide), if_neg (by decide), if_neg (by decide), if_neg (by decide), if_neg (by decide), if_neg (by decide), if_neg (by decide), if_neg (by decide), if_neg (by decide)]
  decide
set_option maxHeartbeats 8000000 in
set_option maxRecDepth 100000 in
theorem al_20 (w : Int32) : ¬ fX0_isAllowed (20 : Int32) w = 0 := by
  unfold fX0_isAllowed
  rw [if_neg (by decide), if_neg (by decide), if_neg (by decide), if_neg (by decide), if_neg (by decide), if_neg (by decide), if_neg (by decide), if_neg (by decide), if_neg (by decide)]
  decide
set_option maxHeartbeats 8000000 in
set_option maxRecDepth 100000 in
theorem al_21 (w : Int32) : ¬ fX0_isAllowed (21 : Int32) w = 0 := by
  unfold fX0_isAllowed
  rw [if_neg (by decide), if_neg (by decide), if_neg (by decide), if_neg (by decide), if_neg (by decide), if_neg (by decide), if_neg (by decide), if_neg (by decide), if_neg (by decide)]
  decide
def cN (d0 d4 d5 d10 d11 d12 d13 d15 d16 d21 d22 d23 d24 d25 d26 d29 d30 d31 : Nat) : Int32 := (if d23 + 2 * d24 + 4 * d25 + 8 * d26 = 34 then (1 : Int32) else (if d24 + 2 * d25 + 4 * d26 = 11 ∧ d21 = 0 then (if d22 + 2 * d23 = 3 ∨ (d31 = 0 ∧ d15 = 1) then (0 : Int32) else (2 : Int32)) else (if d24 + 2 * d25 + 4 * d26 = 10 then (if d31 = 0 ∧ d15 = 1 then (0 : Int32) else (3 : Int32)) else (if d23 + 2 * d24 + 4 * d25 + 8 * d26 = 37 then (if d29 + 2 * d30 = 1 ∨ (d31 = 0 ∧ 2 ≤ d21 + 2 * d22) then (0 : Int32) else (4 : Int32)) else (if d31 = 1 ∧ d24 + 2 * d25 + 4 * d26 = 16 then (5 : Int32) else (if d21 + 2 * d22 + 4 * d23 + 8 * d24 + 16 * d25 + 32 * d26 + 256 * d29 + 512 * d30 = 216 then (6 : Int32) else (if d21 + 2 * d22 + 4 * d23 + 8 * d24 + 16 * d25 + 32 * d26 + 256 * d29 + 512 * d30 = 214 then (if ¬ (d10 + 2 * d11 + 4 * d12 + 8 * d13 + 32 * d15 = 2 ∨ d10 + 2 * d11 + 4 * d12 + 8 * d13 + 32 * d15 = 3 ∨ (8 ≤ d10 + 2 * d11 + 4 * d12 + 8 * d13 + 32 * d15 ∧ d10 + 2 * d11 + 4 * d12 + 8 * d13 + 32 * d15 ≤ 10)) then (0 : Int32) else (7 : Int32)) else (if d21 + 2 * d22 + 4 * d23 + 8 * d24 + 16 * d25 + 32 * d26 + 256 * d29 + 512 * d30 = 212 ∧ d11 = 0 then (if 13 < d12 + 2 * d13 + 8 * d15 then (0 : Int32) else (8 : Int32)) else (if d24 + 2 * d25 + 4 * d26 + 32 * d29 = 57 then (if (d22 + 2 * d23 = 3) ∨ (d22 + 2 * d23 = 2 ∧ ¬ d30 + 2 * d31 = 2) ∨ (¬ d22 + 2 * d23 = 2 ∧ d30 + 2 * d31 = 1) then (0 : Int32) else (9 : Int32)) else (if d24 + 2 * d25 + 4 * d26 + 32 * d29 = 56 ∧ d21 = 1 ∧ d13 + 4 * d15 = 3 ∧ d10 + 2 * d11 = 2 then (if (d22 + 2 * d23 = 3) ∨ (d22 + 2 * d23 = 2 ∧ ¬ d30 + 2 * d31 = 2) ∨ (¬ d22 + 2 * d23 = 2 ∧ d30 + 2 * d31 = 1) then (0 : Int32) else (10 : Int32)) else (if d25 + 2 * d26 + 16 * d29 + 32 * d30 + 64 * d31 = 84 then (if d23 + 2 * d24 = 0 ∨ (¬ d23 + 2 * d24 = 2 ∧ ¬ d5 = 31 ∧ (d5 = d0 + 16 * d4 ∨ d5 = d10 + 2 * d11 + 4 * d12 + 8 * d13)) ∨ (d22 = 1 ∧ d0 + 16 * d4 = d10 + 2 * d11 + 4 * d12 + 8 * d13) then (0 : Int32) else (11 : Int32)) else (if d26 + 8 * d29 + 16 * d30 + 32 * d31 = 5 then (12 : Int32) else (if d26 + 8 * d29 + 16 * d30 + 32 * d31 = 37 then (13 : Int32) else (if d24 + 2 * d25 + 4 * d26 + 32 * d29 + 64 * d30 + 128 * d31 = 84 ∧ d4 = 0 then (if 13 < d0 then (0 : Int32) else (14 : Int32)) else (if d25 + 2 * d26 + 16 * d29 + 32 * d30 = 26 then (15 : Int32) else (if d25 + 2 * d26 + 16 * d29 + 32 * d30 = 27 then (16 : Int32) else (if d10 + 2 * d11 + 4 * d12 + 8 * d13 + 32 * d15 + 64 * d16 + 2048 * d21 + 4096 * d22 + 8192 * d23 + 16384 * d24 + 32768 * d25 + 65536 * d26 + 524288 * d29 + 1048576 * d30 + 2097152 * d31 = 3508160 ∧ d0 + 16 * d4 = 0 then (17 : Int32) else (if d10 + 2 * d11 + 4 * d12 + 8 * d13 + 32 * d15 + 64 * d16 + 2048 * d21 + 4096 * d22 + 8192 * d23 + 16384 * d24 + 32768 * d25 + 65536 * d26 + 524288 * d29 + 1048576 * d30 + 2097152 * d31 = 3510208 ∧ d0 + 16 * d4 = 0 then (18 : Int32) else (if d10 + 2 * d11 + 4 * d12 + 8 * d13 + 32 * d15 + 64 * d16 + 2048 * d21 + 4096 * d22 + 8192 * d23 + 16384 * d24 + 32768 * d25 + 65536 * d26 + 524288 * d29 + 1048576 * d30 + 2097152 * d31 = 3512256 ∧ d0 + 16 * d4 = 0 then (19 : Int32) else (if d21 + 2 * d22 + 4 * d23 + 8 * d24 + 16 * d25 + 32 * d26 + 256 * d29 + 512 * d30 + 1024 * d31 = 1696 ∧ d0 + 16 * d4 = 1 then (20 : Int32) else (if d0 + 16 * d4 + 32 * d5 + 1024 * d10 + 2048 * d11 + 4096 * d12 + 8192 * d13 + 32768 * d15 + 65536 * d16 + 2097152 * d21 + 4194304 * d22 + 8388608 * d23 + 16777216 * d24 + 33554432 * d25 + 67108864 * d26 + 536870912 * d29 + 1073741824 * d30 + 2147483648 * d31 = 3573751839 then (21 : Int32) else (0 : Int32))))))))))))))))))))))
set_option maxHeartbeats 8000000 in
set_option maxRecDepth 100000 in
theorem k0_N {w : Int32} {d0 d4 d5 d10 d11 d12 d13 d15 d16 d21 d22 d23 d24 d25 d26 d29 d30 d31 : Nat} (h : dg_ok w d0 d4 d5 d10 d11 d12 d13 d15 d16 d21 d22 d23 d24 d25 d26 d29 d30 d31) : fX0_kind w = cN d0 d4 d5 d10 d11 d12 d13 d15 d16 d21 d22 d23 d24 d25 d26 d29 d30 d31 := by
  unfold fX0_kind cN
  by_cases r1 : d23 + 2 * d24 + 4 * d25 + 8 * d26 = 34
  · have f : fX0_formOf w = (1 : Int32) := (show fX0_formOf w = ((0 : Int32) / (2 : Int32)) + (1 : Int32) from by rw [fX0_formOf, if_pos ((q_69 h).mpr r1)]).trans (by decide)
    rw [f, if_pos r1, if_neg (al_1 w)]
  by_cases r2 : d24 + 2 * d25 + 4 * d26 = 11 ∧ d21 = 0
  · have f : fX0_formOf w = (2 : Int32) := (show fX0_formOf w = ((2 : Int32) / (2 : Int32)) + (1 : Int32) from by rw [fX0_formOf, if_neg (mt (q_69 h).mp r1), if_pos ((q_70 h).mpr r2)]).trans (by decide)
    rw [f, if_neg r1, if_pos r2]
    simp only [al_2 h]
  by_cases r3 : d24 + 2 * d25 + 4 * d26 = 10
  · have f : fX0_formOf w = (3 : Int32) := (show fX0_formOf w = ((4 : Int32) / (2 : Int32)) + (1 : Int32) from by rw [fX0_formOf, if_neg (mt (q_69 h).mp r1), if_neg (mt (q_70 h).mp r2), if_pos ((q_71 h).mpr r3)]).trans (by decide)
    rw [f, if_neg r1, if_neg r2, if_pos r3]
    simp only [al_3 h]
  by_cases r4 : d23 + 2 * d24 + 4 * d25 + 8 * d26 = 37
  · have f : fX0_formOf w = (4 : Int32) := (show fX0_formOf w = ((6 : Int32) / (2 : Int32)) + (1 : Int32) from by rw [fX0_formOf, if_neg (mt (q_69 h).mp r1), if_neg (mt (q_70 h).mp r2), if_neg (mt (q_71 h).mp r3), if_pos ((q_72 h).mpr r4)]).trans (by decide)
    rw [f, if_neg r1, if_neg r2, if_neg r3, if_pos r4]
    simp only [al_4 h]
  by_cases r5 : d31 = 1 ∧ d24 + 2 * d25 + 4 * d26 = 16
  · have f : fX0_formOf w = (5 : Int32) := (show fX0_formOf w = ((8 : Int32) / (2 : Int32)) + (1 : Int32) from by rw [fX0_formOf, if_neg (mt (q_69 h).mp r1), if_neg (mt (q_70 h).mp r2), if_neg (mt (q_71 h).mp r3), if_neg (mt (q_72 h).mp r4), if_pos ((q_73 h).mpr r5)]).trans (by decide)
    rw [f, if_neg r1, if_neg r2, if_neg r3, if_neg r4, if_pos r5, if_neg (al_5 w)]
  by_cases r6 : d21 + 2 * d22 + 4 * d23 + 8 * d24 + 16 * d25 + 32 * d26 + 256 * d29 + 512 * d30 = 216
  · have f : fX0_formOf w = (6 : Int32) := (show fX0_formOf w = ((10 : Int32) / (2 : Int32)) + (1 : Int32) from by rw [fX0_formOf, if_neg (mt (q_69 h).mp r1), if_neg (mt (q_70 h).mp r2), if_neg (mt (q_71 h).mp r3), if_neg (mt (q_72 h).mp r4), if_neg (mt (q_73 h).mp r5), if_pos ((q_74 h).mpr r6)]).trans (by decide)
    rw [f, if_neg r1, if_neg r2, if_neg r3, if_neg r4, if_neg r5, if_pos r6, if_neg (al_6 w)]
  by_cases r7 : d21 + 2 * d22 + 4 * d23 + 8 * d24 + 16 * d25 + 32 * d26 + 256 * d29 + 512 * d30 = 214
  · have f : fX0_formOf w = (7 : Int32) := (show fX0_formOf w = ((12 : Int32) / (2 : Int32)) + (1 : Int32) from by rw [fX0_formOf, if_neg (mt (q_69 h).mp r1), if_neg (mt (q_70 h).mp r2), if_neg (mt (q_71 h).mp r3), if_neg (mt (q_72 h).mp r4), if_neg (mt (q_73 h).mp r5), if_neg (mt (q_74 h).mp r6), if_pos ((q_75 h).mpr r7)]).trans (by decide)
    rw [f, if_neg r1, if_neg r2, if_neg r3, if_neg r4, if_neg r5, if_neg r6, if_pos r7]
    simp only [al_7 h]
  by_cases r8 : d21 + 2 * d22 + 4 * d23 + 8 * d24 + 16 * d25 + 32 * d26 + 256 * d29 + 512 * d30 = 212 ∧ d11 = 0
  · have f : fX0_formOf w = (8 : Int32) := (show fX0_formOf w = ((14 : Int32) / (2 : Int32)) + (1 : Int32) from by rw [fX0_formOf, if_neg (mt (q_69 h).mp r1), if_neg (mt (q_70 h).mp r2), if_neg (mt (q_71 h).mp r3), if_neg (mt (q_72 h).mp r4), if_neg (mt (q_73 h).mp r5), if_neg (mt (q_74 h).mp r6), if_neg (mt (q_75 h).mp r7), if_pos ((q_76 h).mpr r8)]).trans (by decide)
    rw [f, if_neg r1, if_neg r2, if_neg r3, if_neg r4, if_neg r5, if_neg r6, if_neg r7, if_pos r8]
    simp only [al_8 h]
  by_cases r9 : d24 + 2 * d25 + 4 * d26 + 32 * d29 = 57
  · have f : fX0_formOf w = (9 : Int32) := (show fX0_formOf w = ((16 : Int32) / (2 : Int32)) + (1 : Int32) from by rw [fX0_formOf, if_neg (mt (q_69 h).mp r1), if_neg (mt (q_70 h).mp r2), if_neg (mt (q_71 h).mp r3), if_neg (mt (q_72 h).mp r4), if_neg (mt (q_73 h).mp r5), if_neg (mt (q_74 h).mp r6), if_neg (mt (q_75 h).mp r7), if_neg (mt (q_76 h).mp r8), if_pos ((q_77 h).mpr r9)]).trans (by decide)
    rw [f, if_neg r1, if_neg r2, if_neg r3, if_neg r4, if_neg r5, if_neg r6, if_neg r7, if_neg r8, if_pos r9]
    simp only [al_9 h]
  by_cases r10 : d24 + 2 * d25 + 4 * d26 + 32 * d29 = 56 ∧ d21 = 1 ∧ d13 + 4 * d15 = 3 ∧ d10 + 2 * d11 = 2
  · have f : fX0_formOf w = (10 : Int32) := (show fX0_formOf w = ((18 : Int32) / (2 : Int32)) + (1 : Int32) from by rw [fX0_formOf, if_neg (mt (q_69 h).mp r1), if_neg (mt (q_70 h).mp r2), if_neg (mt (q_71 h).mp r3), if_neg (mt (q_72 h).mp r4), if_neg (mt (q_73 h).mp r5), if_neg (mt (q_74 h).mp r6), if_neg (mt (q_75 h).mp r7), if_neg (mt (q_76 h).mp r8), if_neg (mt (q_77 h).mp r9), if_pos ((q_78 h).mpr r10)]).trans (by decide)
    rw [f, if_neg r1, if_neg r2, if_neg r3, if_neg r4, if_neg r5, if_neg r6, if_neg r7, if_neg r8, if_neg r9, if_pos r10]
    simp only [al_10 h]
  by_cases r11 : d25 + 2 * d26 + 16 * d29 + 32 * d30 + 64 * d31 = 84
  · have f : fX0_formOf w = (11 : Int32) := (show fX0_formOf w = ((20 : Int32) / (2 : Int32)) + (1 : Int32) from by rw [fX0_formOf, if_neg (mt (q_69 h).mp r1), if_neg (mt (q_70 h).mp r2), if_neg (mt (q_71 h).mp r3), if_neg (mt (q_72 h).mp r4), if_neg (mt (q_73 h).mp r5), if_neg (mt (q_74 h).mp r6), if_neg (mt (q_75 h).mp r7), if_neg (mt (q_76 h).mp r8), if_neg (mt (q_77 h).mp r9), if_neg (mt (q_78 h).mp r10), if_pos ((q_79 h).mpr r11)]).trans (by decide)
    rw [f, if_neg r1, if_neg r2, if_neg r3, if_neg r4, if_neg r5, if_neg r6, if_neg r7, if_neg r8, if_neg r9, if_neg r10, if_pos r11]
    simp only [al_11 h]
  by_cases r12 : d26 + 8 * d29 + 16 * d30 + 32 * d31 = 5
  · have f : fX0_formOf w = (12 : Int32) := (show fX0_formOf w = ((22 : Int32) / (2 : Int32)) + (1 : Int32) from by rw [fX0_formOf, if_neg (mt (q_69 h).mp r1), if_neg (mt (q_70 h).mp r2), if_neg (mt (q_71 h).mp r3), if_neg (mt (q_72 h).mp r4), if_neg (mt (q_73 h).mp r5), if_neg (mt (q_74 h).mp r6), if_neg (mt (q_75 h).mp r7), if_neg (mt (q_76 h).mp r8), if_neg (mt (q_77 h).mp r9), if_neg (mt (q_78 h).mp r10), if_neg (mt (q_79 h).mp r11), if_pos ((q_80 h).mpr r12)]).trans (by decide)
    rw [f, if_neg r1, if_neg r2, if_neg r3, if_neg r4, if_neg r5, if_neg r6, if_neg r7, if_neg r8, if_neg r9, if_neg r10, if_neg r11, if_pos r12, if_neg (al_12 w)]
  by_cases r13 : d26 + 8 * d29 + 16 * d30 + 32 * d31 = 37
  · have f : fX0_formOf w = (13 : Int32) := (show fX0_formOf w = ((24 : Int32) / (2 : Int32)) + (1 : Int32) from by rw [fX0_formOf, if_neg (mt (q_69 h).mp r1), if_neg (mt (q_70 h).mp r2), if_neg (mt (q_71 h).mp r3), if_neg (mt (q_72 h).mp r4), if_neg (mt (q_73 h).mp r5), if_neg (mt (q_74 h).mp r6), if_neg (mt (q_75 h).mp r7), if_neg (mt (q_76 h).mp r8), if_neg (mt (q_77 h).mp r9), if_neg (mt (q_78 h).mp r10), if_neg (mt (q_79 h).mp r11), if_neg (mt (q_80 h).mp r12), if_pos ((q_81 h).mpr r13)]).trans (by decide)
    rw [f, if_neg r1, if_neg r2, if_neg r3, if_neg r4, if_neg r5, if_neg r6, if_neg r7, if_neg r8, if_neg r9, if_neg r10, if_neg r11, if_neg r12, if_pos r13, if_neg (al_13 w)]
  by_cases r14 : d24 + 2 * d25 + 4 * d26 + 32 * d29 + 64 * d30 + 128 * d31 = 84 ∧ d4 = 0
  · have f : fX0_formOf w = (14 : Int32) := (show fX0_formOf w = ((26 : Int32) / (2 : Int32)) + (1 : Int32) from by rw [fX0_formOf, if_neg (mt (q_69 h).mp r1), if_neg (mt (q_70 h).mp r2), if_neg (mt (q_71 h).mp r3), if_neg (mt (q_72 h).mp r4), if_neg (mt (q_73 h).mp r5), if_neg (mt (q_74 h).mp r6), if_neg (mt (q_75 h).mp r7), if_neg (mt (q_76 h).mp r8), if_neg (mt (q_77 h).mp r9), if_neg (mt (q_78 h).mp r10), if_neg (mt (q_79 h).mp r11), if_neg (mt (q_80 h).mp r12), if_neg (mt (q_81 h).mp r13), if_pos ((q_82 h).mpr r14)]).trans (by decide)
    rw [f, if_neg r1, if_neg r2, if_neg r3, if_neg r4, if_neg r5, if_neg r6, if_neg r7, if_neg r8, if_neg r9, if_neg r10, if_neg r11, if_neg r12, if_neg r13, if_pos r14]
    simp only [al_14 h]
  by_cases r15 : d25 + 2 * d26 + 16 * d29 + 32 * d30 = 26
  · have f : fX0_formOf w = (15 : Int32) := (show fX0_formOf w = ((28 : Int32) / (2 : Int32)) + (1 : Int32) from by rw [fX0_formOf, if_neg (mt (q_69 h).mp r1), if_neg (mt (q_70 h).mp r2), if_neg (mt (q_71 h).mp r3), if_neg (mt (q_72 h).mp r4), if_neg (mt (q_73 h).mp r5), if_neg (mt (q_74 h).mp r6), if_neg (mt (q_75 h).mp r7), if_neg (mt (q_76 h).mp r8), if_neg (mt (q_77 h).mp r9), if_neg (mt (q_78 h).mp r10), if_neg (mt (q_79 h).mp r11), if_neg (mt (q_80 h).mp r12), if_neg (mt (q_81 h).mp r13), if_neg (mt (q_82 h).mp r14), if_pos ((q_83 h).mpr r15)]).trans (by decide)
    rw [f, if_neg r1, if_neg r2, if_neg r3, if_neg r4, if_neg r5, if_neg r6, if_neg r7, if_neg r8, if_neg r9, if_neg r10, if_neg r11, if_neg r12, if_neg r13, if_neg r14, if_pos r15, if_neg (al_15 w)]
  by_cases r16 : d25 + 2 * d26 + 16 * d29 + 32 * d30 = 27
  · have f : fX0_formOf w = (16 : Int32) := (show fX0_formOf w = ((30 : Int32) / (2 : Int32)) + (1 : Int32) from by rw [fX0_formOf, if_neg (mt (q_69 h).mp r1), if_neg (mt (q_70 h).mp r2), if_neg (mt (q_71 h).mp r3), if_neg (mt (q_72 h).mp r4), if_neg (mt (q_73 h).mp r5), if_neg (mt (q_74 h).mp r6), if_neg (mt (q_75 h).mp r7), if_neg (mt (q_76 h).mp r8), if_neg (mt (q_77 h).mp r9), if_neg (mt (q_78 h).mp r10), if_neg (mt (q_79 h).mp r11), if_neg (mt (q_80 h).mp r12), if_neg (mt (q_81 h).mp r13), if_neg (mt (q_82 h).mp r14), if_neg (mt (q_83 h).mp r15), if_pos ((q_84 h).mpr r16)]).trans (by decide)
    rw [f, if_neg r1, if_neg r2, if_neg r3, if_neg r4, if_neg r5, if_neg r6, if_neg r7, if_neg r8, if_neg r9, if_neg r10, if_neg r11, if_neg r12, if_neg r13, if_neg r14, if_neg r15, if_pos r16, if_neg (al_16 w)]
  by_cases r17 : d10 + 2 * d11 + 4 * d12 + 8 * d13 + 32 * d15 + 64 * d16 + 2048 * d21 + 4096 * d22 + 8192 * d23 + 16384 * d24 + 32768 * d25 + 65536 * d26 + 524288 * d29 + 1048576 * d30 + 2097152 * d31 = 3508160 ∧ d0 + 16 * d4 = 0
  · have f : fX0_formOf w = (17 : Int32) := (show fX0_formOf w = ((32 : Int32) / (2 : Int32)) + (1 : Int32) from by rw [fX0_formOf, if_neg (mt (q_69 h).mp r1), if_neg (mt (q_70 h).mp r2), if_neg (mt (q_71 h).mp r3), if_neg (mt (q_72 h).mp r4), if_neg (mt (q_73 h).mp r5), if_neg (mt (q_74 h).mp r6), if_neg (mt (q_75 h).mp r7), if_neg (mt (q_76 h).mp r8), if_neg (mt (q_77 h).mp r9), if_neg (mt (q_78 h).mp r10), if_neg (mt (q_79 h).mp r11), if_neg (mt (q_80 h).mp r12), if_neg (mt (q_81 h).mp r13), if_neg (mt (q_82 h).mp r14), if_neg (mt (q_83 h).mp r15), if_neg (mt (q_84 h).mp r16), if_pos ((q_85 h).mpr r17)]).trans (by decide)
    rw [f, if_neg r1, if_neg r2, if_neg r3, if_neg r4, if_neg r5, if_neg r6, if_neg r7, if_neg r8, if_neg r9, if_neg r10, if_neg r11, if_neg r12, if_neg r13, if_neg r14, if_neg r15, if_neg r16, if_pos r17, if_neg (al_17 w)]
  by_cases r18 : d10 + 2 * d11 + 4 * d12 + 8 * d13 + 32 * d15 + 64 * d16 + 2048 * d21 + 4096 * d22 + 8192 * d23 + 16384 * d24 + 32768 * d25 + 65536 * d26 + 524288 * d29 + 1048576 * d30 + 2097152 * d31 = 3510208 ∧ d0 + 16 * d4 = 0
  · have f : fX0_formOf w = (18 : Int32) := (show fX0_formOf w = ((34 : Int32) / (2 : Int32)) + (1 : Int32) from by rw [fX0_formOf, if_neg (mt (q_69 h).mp r1), if_neg (mt (q_70 h).mp r2), if_neg (mt (q_71 h).mp r3), if_neg (mt (q_72 h).mp r4), if_neg (mt (q_73 h).mp r5), if_neg (mt (q_74 h).mp r6), if_neg (mt (q_75 h).mp r7), if_neg (mt (q_76 h).mp r8), if_neg (mt (q_77 h).mp r9), if_neg (mt (q_78 h).mp r10), if_neg (mt (q_79 h).mp r11), if_neg (mt (q_80 h).mp r12), if_neg (mt (q_81 h).mp r13), if_neg (mt (q_82 h).mp r14), if_neg (mt (q_83 h).mp r15), if_neg (mt (q_84 h).mp r16), if_neg (mt (q_85 h).mp r17), if_pos ((q_86 h).mpr r18)]).trans (by decide)
    rw [f, if_neg r1, if_neg r2, if_neg r3, if_neg r4, if_neg r5, if_neg r6, if_neg r7, if_neg r8, if_neg r9, if_neg r10, if_neg r11, if_neg r12, if_neg r13, if_neg r14, if_neg r15, if_neg r16, if_neg r17, if_pos r18, if_neg (al_18 w)]
  by_cases r19 : d10 + 2 * d11 + 4 * d12 + 8 * d13 + 32 * d15 + 64 * d16 + 2048 * d21 + 4096 * d22 + 8192 * d23 + 16384 * d24 + 32768 * d25 + 65536 * d26 + 524288 * d29 + 1048576 * d30 + 2097152 * d31 = 3512256 ∧ d0 + 16 * d4 = 0
  · have f : fX0_formOf w = (19 : Int32) := (show fX0_formOf w = ((36 : Int32) / (2 : Int32)) + (1 : Int32) from by rw [fX0_formOf, if_neg (mt (q_69 h).mp r1), if_neg (mt (q_70 h).mp r2), if_neg (mt (q_71 h).mp r3), if_neg (mt (q_72 h).mp r4), if_neg (mt (q_73 h).mp r5), if_neg (mt (q_74 h).mp r6), if_neg (mt (q_75 h).mp r7), if_neg (mt (q_76 h).mp r8), if_neg (mt (q_77 h).mp r9), if_neg (mt (q_78 h).mp r10), if_neg (mt (q_79 h).mp r11), if_neg (mt (q_80 h).mp r12), if_neg (mt (q_81 h).mp r13), if_neg (mt (q_82 h).mp r14), if_neg (mt (q_83 h).mp r15), if_neg (mt (q_84 h).mp r16), if_neg (mt (q_85 h).mp r17), if_neg (mt (q_86 h).mp r18), if_pos ((q_87 h).mpr r19)]).trans (by decide)
    rw [f, if_neg r1, if_neg r2, if_neg r3, if_neg r4, if_neg r5, if_neg r6, if_neg r7, if_neg r8, if_neg r9, if_neg r10, if_neg r11, if_neg r12, if_neg r13, if_neg r14, if_neg r15, if_neg r16, if_neg r17, if_neg r18, if_pos r19, if_neg (al_19 w)]
  by_cases r20 : d21 + 2 * d22 + 4 * d23 + 8 * d24 + 16 * d25 + 32 * d26 + 256 * d29 + 512 * d30 + 1024 * d31 = 1696 ∧ d0 + 16 * d4 = 1
  · have f : fX0_formOf w = (20 : Int32) := (show fX0_formOf w = ((38 : Int32) / (2 : Int32)) + (1 : Int32) from by rw [fX0_formOf, if_neg (mt (q_69 h).mp r1), if_neg (mt (q_70 h).mp r2), if_neg (mt (q_71 h).mp r3), if_neg (mt (q_72 h).mp r4), if_neg (mt (q_73 h).mp r5), if_neg (mt (q_74 h).mp r6), if_neg (mt (q_75 h).mp r7), if_neg (mt (q_76 h).mp r8), if_neg (mt (q_77 h).mp r9), if_neg (mt (q_78 h).mp r10), if_neg (mt (q_79 h).mp r11), if_neg (mt (q_80 h).mp r12), if_neg (mt (q_81 h).mp r13), if_neg (mt (q_82 h).mp r14), if_neg (mt (q_83 h).mp r15), if_neg (mt (q_84 h).mp r16), if_neg (mt (q_85 h).mp r17), if_neg (mt (q_86 h).mp r18), if_neg (mt (q_87 h).mp r19), if_pos ((q_88 h).mpr r20)]).trans (by decide)
    rw [f, if_neg r1, if_neg r2, if_neg r3, if_neg r4, if_neg r5, if_neg r6, if_neg r7, if_neg r8, if_neg r9, if_neg r10, if_neg r11, if_neg r12, if_neg r13, if_neg r14, if_neg r15, if_neg r16, if_neg r17, if_neg r18, if_neg r19, if_pos r20, if_neg (al_20 w)]
  by_cases r21 : d0 + 16 * d4 + 32 * d5 + 1024 * d10 + 2048 * d11 + 4096 * d12 + 8192 * d13 + 32768 * d15 + 65536 * d16 + 2097152 * d21 + 4194304 * d22 + 8388608 * d23 + 16777216 * d24 + 33554432 * d25 + 67108864 * d26 + 536870912 * d29 + 1073741824 * d30 + 2147483648 * d31 = 3573751839
  · have f : fX0_formOf w = (21 : Int32) := (show fX0_formOf w = ((40 : Int32) / (2 : Int32)) + (1 : Int32) from by rw [fX0_formOf, if_neg (mt (q_69 h).mp r1), if_neg (mt (q_70 h).mp r2), if_neg (mt (q_71 h).mp r3), if_neg (mt (q_72 h).mp r4), if_neg (mt (q_73 h).mp r5), if_neg (mt (q_74 h).mp r6), if_neg (mt (q_75 h).mp r7), if_neg (mt (q_76 h).mp r8), if_neg (mt (q_77 h).mp r9), if_neg (mt (q_78 h).mp r10), if_neg (mt (q_79 h).mp r11), if_neg (mt (q_80 h).mp r12), if_neg (mt (q_81 h).mp r13), if_neg (mt (q_82 h).mp r14), if_neg (mt (q_83 h).mp r15), if_neg (mt (q_84 h).mp r16), if_neg (mt (q_85 h).mp r17), if_neg (mt (q_86 h).mp r18), if_neg (mt (q_87 h).mp r19), if_neg (mt (q_88 h).mp r20), if_pos ((q_89 h).mpr r21)]).trans (by decide)
    rw [f, if_neg r1, if_neg r2, if_neg r3, if_neg r4, if_neg r5, if_neg r6, if_neg r7, if_neg r8, if_neg r9, if_neg r10, if_neg r11, if_neg r12, if_neg r13, if_neg r14, if_neg r15, if_neg r16, if_neg r17, if_neg r18, if_neg r19, if_neg r20, if_pos r21, if_neg (al_21 w)]
  have f : fX0_formOf w = 0 := by rw [fX0_formOf, if_neg (mt (q_69 h).mp r1), if_neg (mt (q_70 h).mp r2), if_neg (mt (q_71 h).mp r3), if_neg (mt (q_72 h).mp r4), if_neg (mt (q_73 h).mp r5), if_neg (mt (q_74 h).mp r6), if_neg (mt (q_75 h).mp r7), if_neg (mt (q_76 h).mp r8), if_neg (mt (q_77 h).mp r9), if_neg (mt (q_78 h).mp r10), if_neg (mt (q_79 h).mp r11), if_neg (mt (q_80 h).mp r12), if_neg (mt (q_81 h).mp r13), if_neg (mt (q_82 h).mp r14), if_neg (mt (q_83 h).mp r15), if_neg (mt (q_84 h).mp r16), if_neg (mt (q_85 h).mp r17), if_neg (mt (q_86 h).mp r18), if_neg (mt (q_87 h).mp r19), if_neg (mt (q_88 h).mp r20), if_neg (mt (q_89 h).mp r21)]
  rw [f, if_neg r1, if_neg r2, if_neg r3, if_neg r4, if_neg r5, if_neg r6, if_neg r7, if_neg r8, if_neg r9, if_neg r10, if_neg r11, if_neg r12, if_neg r13, if_neg r14, if_neg r15, if_neg r16, if_neg r17, if_neg r18, if_neg r19, if_neg r20, if_neg r21]
  split <;> rfl
