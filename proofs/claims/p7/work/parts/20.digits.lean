/-! a word by its digits -/
theorem wd_self (x : Int32) : nI x.toBitVec.toNat = x := Int32.toBitVec_inj.mp (BitVec.eq_of_toNat_eq (pk_tn x.toBitVec.isLt))
theorem wd_inj {x y : Int32} (h : x.toBitVec.toNat = y.toBitVec.toNat) : x = y := Int32.toBitVec_inj.mp (BitVec.eq_of_toNat_eq h)
theorem wd_cut {n l k A C D : Nat} (h : n = A + 2 ^ l * (C + 2 ^ k * D)) (hA : A < 2 ^ l) (hC : C < 2 ^ k) : n / 2 ^ l % 2 ^ k = C := by
  subst h
  rw [Nat.add_mul_div_left _ _ (Nat.two_pow_pos l), Nat.div_eq_of_lt hA, Nat.zero_add, Nat.add_mul_mod_self_left, Nat.mod_eq_of_lt hC]
theorem wd_b0 (w p1 p2 : Int32) (l k : Nat) (h1 : ((p1.toUInt32 &&& Int32.toUInt32 31).toBitVec % 32).toNat = l) (h2 : (fX0_lowBits p2).toBitVec.toNat = 2 ^ k - 1) : fX0_bits w p1 p2 = nI (w.toBitVec.toNat / 2 ^ l % 2 ^ k) := by
  unfold fX0_bits
  rw [pk_and _ k h2, pk_ushr _ _ l h1]
theorem wd_b1 (w p1 p2 : Int32) (lo s k : Nat) (h1 : ((((31 : Int32) - p2) &&& 31).toBitVec.smod 32).toNat = s) (h2 : (((((31 : Int32) - p2) + p1).toUInt32 &&& Int32.toUInt32 31).toBitVec % 32).toNat = s + lo) (hs : s + lo + k = 32) : fX1_bits w p1 p2 = nI (w.toBitVec.toNat / 2 ^ lo % 2 ^ k) := by
  refine (wd_self _).symm.trans (congrArg nI ?_)
  unfold fX1_bits
  rw [pk_ushr _ _ (s + lo) h2, pk_shl _ _ s h1]
  have e1 : (2 : Nat) ^ 32 = 2 ^ s * (2 ^ lo * 2 ^ k) := by rw [← Nat.pow_add, ← Nat.pow_add, ← hs, Nat.add_assoc]
  rw [e1, Nat.mul_comm w.toBitVec.toNat, Nat.mul_mod_mul_left, Nat.pow_add, ← Nat.div_div_eq_div_mul, Nat.mul_div_cancel_left _ (Nat.two_pow_pos s), Nat.mod_mul_right_div_self]
theorem wd_e {x : Int32} {a : Nat} (hx : x = nI a) (ha : a < 2 ^ 31) (k : Nat) (hk : k < 2 ^ 31) : (x = nI k) ↔ a = k := by
  subst hx
  exact nI_eq ha hk
theorem wd_ee {x y : Int32} {a b : Nat} (hx : x = nI a) (hy : y = nI b) (ha : a < 2 ^ 31) (hb : b < 2 ^ 31) : (x = y) ↔ a = b := by
  subst hx hy
  exact nI_eq ha hb
theorem wd_lt {x : Int32} {a : Nat} (hx : x = nI a) (ha : a < 2 ^ 31) (k : Nat) (hk : k < 2 ^ 31) : (x < nI k) ↔ a < k := by
  subst hx
  exact nI_ltI ha hk
theorem wd_le {x : Int32} {a : Nat} (hx : x = nI a) (ha : a < 2 ^ 31) (k : Nat) (hk : k < 2 ^ 31) : (x ≤ nI k) ↔ a ≤ k := by
  subst hx
  exact nI_leI ha hk
theorem wd_gt {x : Int32} {a : Nat} (hx : x = nI a) (ha : a < 2 ^ 31) (k : Nat) (hk : k < 2 ^ 31) : (nI k < x) ↔ k < a := by
  subst hx
  exact nI_ltI hk ha
theorem wd_ge {x : Int32} {a : Nat} (hx : x = nI a) (ha : a < 2 ^ 31) (k : Nat) (hk : k < 2 ^ 31) : (nI k ≤ x) ↔ k ≤ a := by
  subst hx
  exact nI_leI hk ha
theorem wd_int (w : Int32) : w.toInt = if 2 * w.toBitVec.toNat < 2 ^ 32 then (w.toBitVec.toNat : Int) else (w.toBitVec.toNat : Int) - 4294967296 := BitVec.toInt_eq_toNat_cond w.toBitVec
theorem wd_neg {w : Int32} {A d : Nat} (hn : w.toBitVec.toNat = A + 2147483648 * d) (hA : A < 2147483648) (hd : d < 2) : (w < 0) ↔ d = 1 := by
  rw [Int32.lt_iff_toInt_lt, show (0 : Int32).toInt = 0 from by decide, wd_int]
  split <;> omega
theorem wd_pos {w : Int32} {A d : Nat} (hn : w.toBitVec.toNat = A + 2147483648 * d) (hA : A < 2147483648) (hd : d < 2) : (0 ≤ w) ↔ d = 0 := by
  rw [Int32.le_iff_toInt_le, show (0 : Int32).toInt = 0 from by decide, wd_int]
  split <;> omega
theorem wd_nmask (n k l : Nat) : n &&& ((2 ^ k - 1) * 2 ^ l) = (n / 2 ^ l % 2 ^ k) * 2 ^ l := by
  apply Nat.eq_of_testBit_eq
  intro i
  rw [Nat.testBit_and, Nat.testBit_mul_two_pow, Nat.testBit_mul_two_pow, Nat.testBit_two_pow_sub_one, Nat.testBit_mod_two_pow, Nat.testBit_div_two_pow]
  by_cases h : l ≤ i
  · rw [Nat.sub_add_cancel h]
    cases n.testBit i <;> cases decide (l ≤ i) <;> cases decide (i - l < k) <;> rfl
  · have h2 : decide (l ≤ i) = false := decide_eq_false h
    rw [h2]
    cases n.testBit i <;> rfl
theorem wd_mk {w M V : Int32} (l k v : Nat) (hM : M.toBitVec.toNat = (2 ^ k - 1) * 2 ^ l) (hV : V.toBitVec.toNat = v * 2 ^ l) : ((w &&& M) = V) ↔ w.toBitVec.toNat / 2 ^ l % 2 ^ k = v := by
  have e : (w &&& M).toBitVec.toNat = (w.toBitVec.toNat / 2 ^ l % 2 ^ k) * 2 ^ l := by
    rw [← wd_nmask, ← hM, Int32.toBitVec_and, BitVec.toNat_and]
  constructor
  · intro h
    rw [h, hV] at e
    exact (Nat.eq_of_mul_eq_mul_right (Nat.two_pow_pos l) e).symm
  · intro h
    exact wd_inj (by rw [e, h, hV])
theorem wd_bv2 (w M1 M2 V1 V2 : BitVec 32) (h1 : V1 &&& M1 = V1) (h2 : V2 &&& M2 = V2) (h3 : M1 &&& M2 = 0#32) : (w &&& (M1 ||| M2) = V1 ||| V2) ↔ (w &&& M1 = V1 ∧ w &&& M2 = V2) := by
  have key : ∀ i, i < 32 → (V1.getLsbD i && M1.getLsbD i) = V1.getLsbD i ∧ (V2.getLsbD i && M2.getLsbD i) = V2.getLsbD i ∧ (M1.getLsbD i && M2.getLsbD i) = false := by
    intro i hi
    refine ⟨?_, ?_, ?_⟩
    · rw [← BitVec.getLsbD_and, h1]
    · rw [← BitVec.getLsbD_and, h2]
    · rw [← BitVec.getLsbD_and, h3, BitVec.getLsbD_zero]
  constructor
  · intro h
    constructor
    · apply BitVec.eq_of_getLsbD_eq
      intro i hi
      have a := congrArg (fun x => x.getLsbD i) h
      obtain ⟨k1, k2, k3⟩ := key i hi
      simp only [BitVec.getLsbD_and, BitVec.getLsbD_or] at a ⊢
      revert a k1 k2 k3
      cases w.getLsbD i <;> cases M1.getLsbD i <;> cases M2.getLsbD i <;> cases V1.getLsbD i <;> cases V2.getLsbD i <;> simp
    · apply BitVec.eq_of_getLsbD_eq
      intro i hi
      have a := congrArg (fun x => x.getLsbD i) h
      obtain ⟨k1, k2, k3⟩ := key i hi
      simp only [BitVec.getLsbD_and, BitVec.getLsbD_or] at a ⊢
      revert a k1 k2 k3
      cases w.getLsbD i <;> cases M1.getLsbD i <;> cases M2.getLsbD i <;> cases V1.getLsbD i <;> cases V2.getLsbD i <;> simp
  · rintro ⟨h4, h5⟩
    rw [← h4, ← h5]
    apply BitVec.eq_of_getLsbD_eq
    intro i hi
    simp only [BitVec.getLsbD_and, BitVec.getLsbD_or]
    cases w.getLsbD i <;> cases M1.getLsbD i <;> cases M2.getLsbD i <;> rfl
theorem wd_mk2 {w M V : Int32} (M1 M2 V1 V2 : Int32) (hM : M = M1 ||| M2) (hV : V = V1 ||| V2) (h1 : V1 &&& M1 = V1) (h2 : V2 &&& M2 = V2) (h3 : M1 &&& M2 = 0) : ((w &&& M) = V) ↔ ((w &&& M1) = V1 ∧ (w &&& M2) = V2) := by
  subst hM hV
  have h := wd_bv2 w.toBitVec M1.toBitVec M2.toBitVec V1.toBitVec V2.toBitVec (congrArg Int32.toBitVec h1) (congrArg Int32.toBitVec h2) (congrArg Int32.toBitVec h3)
  constructor
  · intro g
    have h4 := h.mp (congrArg Int32.toBitVec g)
    exact ⟨Int32.toBitVec_inj.mp h4.1, Int32.toBitVec_inj.mp h4.2⟩
  · rintro ⟨g1, g2⟩
    exact Int32.toBitVec_inj.mp (h.mpr ⟨congrArg Int32.toBitVec g1, congrArg Int32.toBitVec g2⟩)
