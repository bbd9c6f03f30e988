set_option maxHeartbeats 4000000 in
set_option maxRecDepth 100000 in
theorem mX1_bits (l : Launch) (sz : Nat) (p0 : Int32) (p1 : Int32) (p2 : Int32) : Met l yX1_bits wsX1_bits ({ frames := 0, cells := 0, slots := 0, locals := 0 }) (va_Pc [.int p0, .int p1, .int p2] (fun U => U.heap.size = sz)) (va_Qi (fun (r : Int32) (_ : Unit) => r = fX1_bits p0 p1 p2) (fun _ _ => True) (fun q : Nat => sz ≤ q)) 0 0 (fun q : Nat => sz ≤ q) := by
  refine Met.ofW (cc := cX1_bits) (maxL := 3) (ret := (some .int)) (by decide) rfl ?_
  intro p e s m args below meth c s₁ B hml hv
  obtain ⟨rfl, hsz⟩ := hv
  have hx := B.exec
  have hb := B.bytes
  have hr := B.returns
  have hts := atoms_spec (ws := wsX1_bits) B.pre
  have hown : s.vm.findClass RX1 = some m.cls := findClass_of_methodNamed B.named
  have hlocks := B.notSynchronized
  subst hsz
  have hS : va_S (fun q : Nat => s.heap.size ≤ q) s.heap s.heap [] := va_S.rf
  have hl := lv_entry ([.int p0, .int p1, .int p2]) (n := 3) (Nat.le_of_ble_eq_true rfl)
  rw [lg_entry_eq]
  generalize (lg_sl ([.int p0, .int p1, .int p2]) ++ List.replicate (3 - (lg_sl ([.int p0, .int p1, .int p2])).length) Slot.unset).toArray = ls at hl ⊢
  have hl : lv_has ls 3 [(0, .int p0), (1, .int p1), (2, .int p2)] := hl
  refine lv_iload_n hx hb dX1_bits_0 rfl (lv_at hl 0 rfl) ?_
  refine lv_bipush (v := 31) hx hb dX1_bits_1 (by decide) ?_
  refine lv_iload_n hx hb dX1_bits_3 rfl (lv_at hl 2 rfl) ?_
  refine lv_isub hx hb dX1_bits_4 ?_
  refine lv_ishl hx hb dX1_bits_5 ?_
  refine lv_bipush (v := 31) hx hb dX1_bits_6 (by decide) ?_
  refine lv_iload_n hx hb dX1_bits_8 rfl (lv_at hl 2 rfl) ?_
  refine lv_isub hx hb dX1_bits_9 ?_
  refine lv_iload_n hx hb dX1_bits_10 rfl (lv_at hl 1 rfl) ?_
  refine lv_iadd hx hb dX1_bits_11 ?_
  refine lv_iushr hx hb dX1_bits_12 rfl ?_
  exact W.iret (v := ((((p0 <<< (((31 : Int32) - p2) &&& 31))).toUInt32 >>> (((((31 : Int32) - p2) + p1)).toUInt32 &&& Int32.toUInt32 31)).toInt32)) hx hb hr (fun t ht hW => ⟨⟨((((p0 <<< (((31 : Int32) - p2) &&& 31))).toUInt32 >>> (((((31 : Int32) - p2) + p1)).toUInt32 &&& Int32.toUInt32 31)).toInt32), (), rfl, by rw [fX1_bits], trivial⟩, hS.F ht⟩) hS.2.2 dX1_bits_13
set_option maxHeartbeats 4000000 in
set_option maxRecDepth 100000 in
theorem mX1_signed (l : Launch) (sz : Nat) (p0 : Int32) (p1 : Int32) (p2 : Int32) : Met l yX1_signed wsX1_signed ({ frames := 0, cells := 0, slots := 0, locals := 0 }) (va_Pc [.int p0, .int p1, .int p2] (fun U => U.heap.size = sz)) (va_Qi (fun (r : Int32) (_ : Unit) => r = fX1_signed p0 p1 p2) (fun _ _ => True) (fun q : Nat => sz ≤ q)) 0 0 (fun q : Nat => sz ≤ q) := by
  refine Met.ofW (cc := cX1_signed) (maxL := 3) (ret := (some .int)) (by decide) rfl ?_
  intro p e s m args below meth c s₁ B hml hv
  obtain ⟨rfl, hsz⟩ := hv
  have hx := B.exec
  have hb := B.bytes
  have hr := B.returns
  have hts := atoms_spec (ws := wsX1_signed) B.pre
  have hown : s.vm.findClass RX1 = some m.cls := findClass_of_methodNamed B.named
  have hlocks := B.notSynchronized
  subst hsz
  have hS : va_S (fun q : Nat => s.heap.size ≤ q) s.heap s.heap [] := va_S.rf
  have hl := lv_entry ([.int p0, .int p1, .int p2]) (n := 3) (Nat.le_of_ble_eq_true rfl)
  rw [lg_entry_eq]
  generalize (lg_sl ([.int p0, .int p1, .int p2]) ++ List.replicate (3 - (lg_sl ([.int p0, .int p1, .int p2])).length) Slot.unset).toArray = ls at hl ⊢
  have hl : lv_has ls 3 [(0, .int p0), (1, .int p1), (2, .int p2)] := hl
  refine lv_iload_n hx hb dX1_signed_0 rfl (lv_at hl 0 rfl) ?_
  refine lv_bipush (v := 31) hx hb dX1_signed_1 (by decide) ?_
  refine lv_iload_n hx hb dX1_signed_3 rfl (lv_at hl 2 rfl) ?_
  refine lv_isub hx hb dX1_signed_4 ?_
  refine lv_ishl hx hb dX1_signed_5 ?_
  refine lv_bipush (v := 31) hx hb dX1_signed_6 (by decide) ?_
  refine lv_iload_n hx hb dX1_signed_8 rfl (lv_at hl 2 rfl) ?_
  refine lv_isub hx hb dX1_signed_9 ?_
  refine lv_iload_n hx hb dX1_signed_10 rfl (lv_at hl 1 rfl) ?_
  refine lv_iadd hx hb dX1_signed_11 ?_
  refine lv_ishr hx hb dX1_signed_12 ?_
  exact W.iret (v := ((p0 <<< (((31 : Int32) - p2) &&& 31)) >>> ((((31 : Int32) - p2) + p1) &&& 31))) hx hb hr (fun t ht hW => ⟨⟨((p0 <<< (((31 : Int32) - p2) &&& 31)) >>> ((((31 : Int32) - p2) + p1) &&& 31)), (), rfl, by rw [fX1_signed], trivial⟩, hS.F ht⟩) hS.2.2 dX1_signed_13
set_option maxHeartbeats 4000000 in
set_option maxRecDepth 100000 in
theorem mX1_isPair (l : Launch) (sz : Nat) (p0 : Int32) : Met l yX1_isPair wsX1_isPair ({ frames := 1, cells := 0, slots := 0, locals := 22 }) (va_Pc [.int p0] (fun U => U.heap.size = sz)) (va_Qi (fun (r : Int32) (_ : Unit) => r = fX1_isPair p0) (fun _ _ => True) (fun q : Nat => sz ≤ q)) 0 0 (fun q : Nat => sz ≤ q) := by
  refine Met.ofW (cc := cX1_isPair) (maxL := 4) (ret := (some .boolean)) (by decide) rfl ?_
  intro p e s m args below meth c s₁ B hml hv
  obtain ⟨rfl, hsz⟩ := hv
  have hx := B.exec
  have hb := B.bytes
  have hr := B.returns
  have hts := atoms_spec (ws := wsX1_isPair) B.pre
  have hown : s.vm.findClass RX1 = some m.cls := findClass_of_methodNamed B.named
  have hlocks := B.notSynchronized
  subst hsz
  have hS : va_S (fun q : Nat => s.heap.size ≤ q) s.heap s.heap [] := va_S.rf
  have hl := lv_entry ([.int p0]) (n := 4) (Nat.le_of_ble_eq_true rfl)
  rw [lg_entry_eq]
  generalize (lg_sl ([.int p0]) ++ List.replicate (4 - (lg_sl ([.int p0])).length) Slot.unset).toArray = ls at hl ⊢
  have hl : lv_has ls 4 [(0, .int p0)] := hl
  refine lv_iload_n hx hb dX1_isPair_0 rfl (lv_at hl 0 rfl) ?_
  refine lv_bipush (v := 23) hx hb dX1_isPair_1 (by decide) ?_
  refine lv_bipush (v := 24) hx hb dX1_isPair_3 (by decide) ?_
  refine va_calli (va_runS (As := [.int p0, .int (23 : Int32), .int (24 : Int32)]) (rest := []) ⟨hx, hb, hml, hown, hts⟩ (mX1_bits l s.heap.size p0 (23 : Int32) (24 : Int32)) (va_cwS 3 hts gX1_isPair_X1_bits rfl rfl rfl (by decide +kernel) ⟨Nat.le_of_ble_eq_true rfl, Nat.le_of_ble_eq_true rfl⟩) ⟨fb_pure, fun U hU hW => ⟨rfl, congrArg Array.size hU⟩⟩ rfl rfl hl.1 rfl (lv_room (Nat.le_of_ble_eq_true rfl)) dX1_isPair_5 ⟨Nat.zero_le _, Nat.zero_le _⟩) hS (fun q _ h => Nat.le_trans hS.1 h) (fun q h => Nat.le_trans hS.1 h) (fun r_1 _ _ H_1 _ _ _ hw _ _ _ hS => ?_)
  subst hw
  refine lv_istore_n (lv' := [(1, .int (fX1_bits p0 (23 : Int32) (24 : Int32))), (0, .int p0)]) hx hb dX1_isPair_8 rfl hl (by decide) rfl (fun ls hl => ?_)
  refine lv_iload_n hx hb dX1_isPair_9 rfl (lv_at hl 1 rfl) ?_
  refine lv_iconst (v := 5) hx hb dX1_isPair_10 (by decide) ?_
  refine lv_bipush (v := 9) hx hb dX1_isPair_11 (by decide) ?_
  refine va_calli (va_runS (As := [.int p0, .int (5 : Int32), .int (9 : Int32)]) (rest := []) ⟨hx, hb, hml, hown, hts⟩ (mX1_bits l H_1.size p0 (5 : Int32) (9 : Int32)) (va_cwS 3 hts gX1_isPair_X1_bits rfl rfl rfl (by decide +kernel) ⟨Nat.le_of_ble_eq_true rfl, Nat.le_of_ble_eq_true rfl⟩) ⟨fb_pure, fun U hU hW => ⟨rfl, congrArg Array.size hU⟩⟩ rfl rfl hl.1 rfl (lv_room (Nat.le_of_ble_eq_true rfl)) dX1_isPair_13 ⟨Nat.zero_le _, Nat.zero_le _⟩) hS (fun q _ h => Nat.le_trans hS.1 h) (fun q h => Nat.le_trans hS.1 h) (fun r_2 _ _ H_2 _ _ _ hw _ _ _ hS => ?_)
  subst hw
  refine lv_istore_n (lv' := [(2, .int (fX1_bits p0 (5 : Int32) (9 : Int32))), (1, .int (fX1_bits p0 (23 : Int32) (24 : Int32))), (0, .int p0)]) hx hb dX1_isPair_16 rfl hl (by decide) rfl (fun ls hl => ?_)
  refine lv_iload_n hx hb dX1_isPair_17 rfl (lv_at hl 1 rfl) ?_
  refine lv_iconst (v := 2) hx hb dX1_isPair_18 (by decide) ?_
  refine lv_icmp_eq (tgt := 32) hx hb dX1_isPair_19 (by decide) (fun c_3 => ?_) (fun c_3 => ?_)
  · -- taken
    refine lv_iconst (v := 0) hx hb dX1_isPair_32 (by decide) ?_
    refine lv_istore_n (lv' := [(3, .int (0 : Int32)), (2, .int (fX1_bits p0 (5 : Int32) (9 : Int32))), (1, .int (fX1_bits p0 (23 : Int32) (24 : Int32))), (0, .int p0)]) hx hb dX1_isPair_33 rfl hl (by decide) rfl (fun ls hl => ?_)
    refine lv_iload_n hx hb dX1_isPair_34 rfl (lv_at hl 2 rfl) ?_
    refine lv_if_eq (tgt := 64) hx hb dX1_isPair_35 (by decide) (fun c_4 => ?_) (fun c_4 => ?_)
    · -- taken
      refine lv_iconst (v := 0) hx hb dX1_isPair_64 (by decide) ?_
      exact W.zret (v := (0 : Int32)) hx hb hr (nb_01 (Or.inl rfl)) (fun t ht hW => ⟨⟨(0 : Int32), (), rfl, by rw [fX1_isPair, if_pos c_3, if_pos c_4], trivial⟩, hS.F ht⟩) hS.2.2 dX1_isPair_65
    · -- not taken
      refine lv_iload_n hx hb dX1_isPair_38 rfl (lv_at hl 0 rfl) ?_
      refine lv_if_eq (tgt := 66) hx hb dX1_isPair_39 (by decide) (fun _ => ?_) (fun c => absurd c (by decide))
      refine lv_iload_n hx hb dX1_isPair_66 rfl (lv_at hl 3 rfl) ?_
      refine lv_bipush (v := 22) hx hb dX1_isPair_67 (by decide) ?_
      refine lv_bipush (v := 22) hx hb dX1_isPair_69 (by decide) ?_
      refine va_calli (va_runS (As := [.int p0, .int (22 : Int32), .int (22 : Int32)]) (rest := []) ⟨hx, hb, hml, hown, hts⟩ (mX1_bits l H_2.size p0 (22 : Int32) (22 : Int32)) (va_cwS 3 hts gX1_isPair_X1_bits rfl rfl rfl (by decide +kernel) ⟨Nat.le_of_ble_eq_true rfl, Nat.le_of_ble_eq_true rfl⟩) ⟨fb_pure, fun U hU hW => ⟨rfl, congrArg Array.size hU⟩⟩ rfl rfl hl.1 rfl (lv_room (Nat.le_of_ble_eq_true rfl)) dX1_isPair_71 ⟨Nat.zero_le _, Nat.zero_le _⟩) hS (fun q _ h => Nat.le_trans hS.1 h) (fun q h => Nat.le_trans hS.1 h) (fun r_5 _ _ H_5 _ _ _ hw _ _ _ hS => ?_)
      subst hw
      refine lv_if_eq (tgt := 94) hx hb dX1_isPair_74 (by decide) (fun c_6 => ?_) (fun c_6 => ?_)
      · -- taken
        refine lv_iconst (v := 1) hx hb dX1_isPair_94 (by decide) ?_
        refine lv_goto (tgt := 99) hx hb dX1_isPair_95 (by decide) ?_
        exact W.zret (v := (1 : Int32)) hx hb hr (nb_01 (Or.inr rfl)) (fun t ht hW => ⟨⟨(1 : Int32), (), rfl, by rw [fX1_isPair, if_pos c_3, if_neg c_4, if_pos c_6], trivial⟩, hS.F ht⟩) hS.2.2 dX1_isPair_99
      · -- not taken
        refine lv_iload_n hx hb dX1_isPair_77 rfl (lv_at hl 3 rfl) ?_
        refine lv_iconst (v := 0) hx hb dX1_isPair_78 (by decide) ?_
        refine lv_iconst (v := 4) hx hb dX1_isPair_79 (by decide) ?_
        refine va_calli (va_runS (As := [.int p0, .int (0 : Int32), .int (4 : Int32)]) (rest := []) ⟨hx, hb, hml, hown, hts⟩ (mX1_bits l H_5.size p0 (0 : Int32) (4 : Int32)) (va_cwS 3 hts gX1_isPair_X1_bits rfl rfl rfl (by decide +kernel) ⟨Nat.le_of_ble_eq_true rfl, Nat.le_of_ble_eq_true rfl⟩) ⟨fb_pure, fun U hU hW => ⟨rfl, congrArg Array.size hU⟩⟩ rfl rfl hl.1 rfl (lv_room (Nat.le_of_ble_eq_true rfl)) dX1_isPair_80 ⟨Nat.zero_le _, Nat.zero_le _⟩) hS (fun q _ h => Nat.le_trans hS.1 h) (fun q h => Nat.le_trans hS.1 h) (fun r_7 _ _ H_7 _ _ _ hw _ _ _ hS => ?_)
        subst hw
        refine lv_iload_n hx hb dX1_isPair_83 rfl (lv_at hl 3 rfl) ?_
        refine lv_bipush (v := 10) hx hb dX1_isPair_84 (by decide) ?_
        refine lv_bipush (v := 14) hx hb dX1_isPair_86 (by decide) ?_
        refine va_calli (va_runS (As := [.int p0, .int (10 : Int32), .int (14 : Int32)]) (rest := [.int (fX1_bits p0 (0 : Int32) (4 : Int32))]) ⟨hx, hb, hml, hown, hts⟩ (mX1_bits l H_7.size p0 (10 : Int32) (14 : Int32)) (va_cwS 3 hts gX1_isPair_X1_bits rfl rfl rfl (by decide +kernel) ⟨Nat.le_of_ble_eq_true rfl, Nat.le_of_ble_eq_true rfl⟩) ⟨fb_pure, fun U hU hW => ⟨rfl, congrArg Array.size hU⟩⟩ rfl rfl hl.1 rfl (lv_room (Nat.le_of_ble_eq_true rfl)) dX1_isPair_88 ⟨Nat.zero_le _, Nat.zero_le _⟩) hS (fun q _ h => Nat.le_trans hS.1 h) (fun q h => Nat.le_trans hS.1 h) (fun r_8 _ _ H_8 _ _ _ hw _ _ _ hS => ?_)
        subst hw
        refine lv_icmp_eq (tgt := 98) hx hb dX1_isPair_91 (by decide) (fun c_9 => ?_) (fun c_9 => ?_)
        · -- taken
          refine lv_iconst (v := 0) hx hb dX1_isPair_98 (by decide) ?_
          exact W.zret (v := (0 : Int32)) hx hb hr (nb_01 (Or.inl rfl)) (fun t ht hW => ⟨⟨(0 : Int32), (), rfl, by rw [fX1_isPair, if_pos c_3, if_neg c_4, if_neg c_6, if_pos c_9], trivial⟩, hS.F ht⟩) hS.2.2 dX1_isPair_99
        · -- not taken
          refine lv_iconst (v := 1) hx hb dX1_isPair_94 (by decide) ?_
          refine lv_goto (tgt := 99) hx hb dX1_isPair_95 (by decide) ?_
          exact W.zret (v := (1 : Int32)) hx hb hr (nb_01 (Or.inr rfl)) (fun t ht hW => ⟨⟨(1 : Int32), (), rfl, by rw [fX1_isPair, if_pos c_3, if_neg c_4, if_neg c_6, if_neg c_9], trivial⟩, hS.F ht⟩) hS.2.2 dX1_isPair_99
  · -- not taken
    refine lv_iload_n hx hb dX1_isPair_22 rfl (lv_at hl 0 rfl) ?_
    refine lv_bipush (v := 31) hx hb dX1_isPair_23 (by decide) ?_
    refine lv_icmp_eq (tgt := 32) hx hb dX1_isPair_25 (by decide) (fun c_10 => ?_) (fun c_10 => ?_)
    · -- taken
      refine lv_iconst (v := 0) hx hb dX1_isPair_32 (by decide) ?_
      refine lv_istore_n (lv' := [(3, .int (0 : Int32)), (2, .int (fX1_bits p0 (5 : Int32) (9 : Int32))), (1, .int (fX1_bits p0 (23 : Int32) (24 : Int32))), (0, .int p0)]) hx hb dX1_isPair_33 rfl hl (by decide) rfl (fun ls hl => ?_)
      refine lv_iload_n hx hb dX1_isPair_34 rfl (lv_at hl 2 rfl) ?_
      refine lv_if_eq (tgt := 64) hx hb dX1_isPair_35 (by decide) (fun c_11 => ?_) (fun c_11 => ?_)
      · -- taken
        refine lv_iconst (v := 0) hx hb dX1_isPair_64 (by decide) ?_
        exact W.zret (v := (0 : Int32)) hx hb hr (nb_01 (Or.inl rfl)) (fun t ht hW => ⟨⟨(0 : Int32), (), rfl, by rw [fX1_isPair, if_neg c_3, if_pos c_10, if_pos c_11], trivial⟩, hS.F ht⟩) hS.2.2 dX1_isPair_65
      · -- not taken
        refine lv_iload_n hx hb dX1_isPair_38 rfl (lv_at hl 0 rfl) ?_
        refine lv_if_eq (tgt := 66) hx hb dX1_isPair_39 (by decide) (fun _ => ?_) (fun c => absurd c (by decide))
        refine lv_iload_n hx hb dX1_isPair_66 rfl (lv_at hl 3 rfl) ?_
        refine lv_bipush (v := 22) hx hb dX1_isPair_67 (by decide) ?_
        refine lv_bipush (v := 22) hx hb dX1_isPair_69 (by decide) ?_
        refine va_calli (va_runS (As := [.int p0, .int (22 : Int32), .int (22 : Int32)]) (rest := []) ⟨hx, hb, hml, hown, hts⟩ (mX1_bits l H_2.size p0 (22 : Int32) (22 : Int32)) (va_cwS 3 hts gX1_isPair_X1_bits rfl rfl rfl (by decide +kernel) ⟨Nat.le_of_ble_eq_true rfl, Nat.le_of_ble_eq_true rfl⟩) ⟨fb_pure, fun U hU hW => ⟨rfl, congrArg Array.size hU⟩⟩ rfl rfl hl.1 rfl (lv_room (Nat.le_of_ble_eq_true rfl)) dX1_isPair_71 ⟨Nat.zero_le _, Nat.zero_le _⟩) hS (fun q _ h => Nat.le_trans hS.1 h) (fun q h => Nat.le_trans hS.1 h) (fun r_12 _ _ H_12 _ _ _ hw _ _ _ hS => ?_)
        subst hw
        refine lv_if_eq (tgt := 94) hx hb dX1_isPair_74 (by decide) (fun c_13 => ?_) (fun c_13 => ?_)
        · -- taken
          refine lv_iconst (v := 1) hx hb dX1_isPair_94 (by decide) ?_
          refine lv_goto (tgt := 99) hx hb dX1_isPair_95 (by decide) ?_
          exact W.zret (v := (1 : Int32)) hx hb hr (nb_01 (Or.inr rfl)) (fun t ht hW => ⟨⟨(1 : Int32), (), rfl, by rw [fX1_isPair, if_neg c_3, if_pos c_10, if_neg c_11, if_pos c_13], trivial⟩, hS.F ht⟩) hS.2.2 dX1_isPair_99
        · -- not taken
          refine lv_iload_n hx hb dX1_isPair_77 rfl (lv_at hl 3 rfl) ?_
          refine lv_iconst (v := 0) hx hb dX1_isPair_78 (by decide) ?_
          refine lv_iconst (v := 4) hx hb dX1_isPair_79 (by decide) ?_
          refine va_calli (va_runS (As := [.int p0, .int (0 : Int32), .int (4 : Int32)]) (rest := []) ⟨hx, hb, hml, hown, hts⟩ (mX1_bits l H_12.size p0 (0 : Int32) (4 : Int32)) (va_cwS 3 hts gX1_isPair_X1_bits rfl rfl rfl (by decide +kernel) ⟨Nat.le_of_ble_eq_true rfl, Nat.le_of_ble_eq_true rfl⟩) ⟨fb_pure, fun U hU hW => ⟨rfl, congrArg Array.size hU⟩⟩ rfl rfl hl.1 rfl (lv_room (Nat.le_of_ble_eq_true rfl)) dX1_isPair_80 ⟨Nat.zero_le _, Nat.zero_le _⟩) hS (fun q _ h => Nat.le_trans hS.1 h) (fun q h => Nat.le_trans hS.1 h) (fun r_14 _ _ H_14 _ _ _ hw _ _ _ hS => ?_)
          subst hw
          refine lv_iload_n hx hb dX1_isPair_83 rfl (lv_at hl 3 rfl) ?_
          refine lv_bipush (v := 10) hx hb dX1_isPair_84 (by decide) ?_
          refine lv_bipush (v := 14) hx hb dX1_isPair_86 (by decide) ?_
          refine va_calli (va_runS (As := [.int p0, .int (10 : Int32), .int (14 : Int32)]) (rest := [.int (fX1_bits p0 (0 : Int32) (4 : Int32))]) ⟨hx, hb, hml, hown, hts⟩ (mX1_bits l H_14.size p0 (10 : Int32) (14 : Int32)) (va_cwS 3 hts gX1_isPair_X1_bits rfl rfl rfl (by decide +kernel) ⟨Nat.le_of_ble_eq_true rfl, Nat.le_of_ble_eq_true rfl⟩) ⟨fb_pure, fun U hU hW => ⟨rfl, congrArg Array.size hU⟩⟩ rfl rfl hl.1 rfl (lv_room (Nat.le_of_ble_eq_true rfl)) dX1_isPair_88 ⟨Nat.zero_le _, Nat.zero_le _⟩) hS (fun q _ h => Nat.le_trans hS.1 h) (fun q h => Nat.le_trans hS.1 h) (fun r_15 _ _ H_15 _ _ _ hw _ _ _ hS => ?_)
          subst hw
          refine lv_icmp_eq (tgt := 98) hx hb dX1_isPair_91 (by decide) (fun c_16 => ?_) (fun c_16 => ?_)
          · -- taken
            refine lv_iconst (v := 0) hx hb dX1_isPair_98 (by decide) ?_
            exact W.zret (v := (0 : Int32)) hx hb hr (nb_01 (Or.inl rfl)) (fun t ht hW => ⟨⟨(0 : Int32), (), rfl, by rw [fX1_isPair, if_neg c_3, if_pos c_10, if_neg c_11, if_neg c_13, if_pos c_16], trivial⟩, hS.F ht⟩) hS.2.2 dX1_isPair_99
          · -- not taken
            refine lv_iconst (v := 1) hx hb dX1_isPair_94 (by decide) ?_
            refine lv_goto (tgt := 99) hx hb dX1_isPair_95 (by decide) ?_
            exact W.zret (v := (1 : Int32)) hx hb hr (nb_01 (Or.inr rfl)) (fun t ht hW => ⟨⟨(1 : Int32), (), rfl, by rw [fX1_isPair, if_neg c_3, if_pos c_10, if_neg c_11, if_neg c_13, if_neg c_16], trivial⟩, hS.F ht⟩) hS.2.2 dX1_isPair_99
    · -- not taken
      refine lv_iconst (v := 1) hx hb dX1_isPair_28 (by decide) ?_
      refine lv_goto (tgt := 33) hx hb dX1_isPair_29 (by decide) ?_
      refine lv_istore_n (lv' := [(3, .int (1 : Int32)), (2, .int (fX1_bits p0 (5 : Int32) (9 : Int32))), (1, .int (fX1_bits p0 (23 : Int32) (24 : Int32))), (0, .int p0)]) hx hb dX1_isPair_33 rfl hl (by decide) rfl (fun ls hl => ?_)
      refine lv_iload_n hx hb dX1_isPair_34 rfl (lv_at hl 2 rfl) ?_
      refine lv_if_eq (tgt := 64) hx hb dX1_isPair_35 (by decide) (fun c_17 => ?_) (fun c_17 => ?_)
      · -- taken
        refine lv_iconst (v := 0) hx hb dX1_isPair_64 (by decide) ?_
        exact W.zret (v := (0 : Int32)) hx hb hr (nb_01 (Or.inl rfl)) (fun t ht hW => ⟨⟨(0 : Int32), (), rfl, by rw [fX1_isPair, if_neg c_3, if_neg c_10, if_pos c_17], trivial⟩, hS.F ht⟩) hS.2.2 dX1_isPair_65
      · -- not taken
        refine lv_iload_n hx hb dX1_isPair_38 rfl (lv_at hl 0 rfl) ?_
        refine lv_if_eq (tgt := 66) hx hb dX1_isPair_39 (by decide) (fun c => absurd c (by decide)) (fun _ => ?_)
        refine lv_iload_n hx hb dX1_isPair_42 rfl (lv_at hl 1 rfl) ?_
        refine lv_iload_n hx hb dX1_isPair_43 rfl (lv_at hl 3 rfl) ?_
        refine lv_iconst (v := 0) hx hb dX1_isPair_44 (by decide) ?_
        refine lv_iconst (v := 4) hx hb dX1_isPair_45 (by decide) ?_
        refine va_calli (va_runS (As := [.int p0, .int (0 : Int32), .int (4 : Int32)]) (rest := [.int (fX1_bits p0 (5 : Int32) (9 : Int32))]) ⟨hx, hb, hml, hown, hts⟩ (mX1_bits l H_2.size p0 (0 : Int32) (4 : Int32)) (va_cwS 3 hts gX1_isPair_X1_bits rfl rfl rfl (by decide +kernel) ⟨Nat.le_of_ble_eq_true rfl, Nat.le_of_ble_eq_true rfl⟩) ⟨fb_pure, fun U hU hW => ⟨rfl, congrArg Array.size hU⟩⟩ rfl rfl hl.1 rfl (lv_room (Nat.le_of_ble_eq_true rfl)) dX1_isPair_46 ⟨Nat.zero_le _, Nat.zero_le _⟩) hS (fun q _ h => Nat.le_trans hS.1 h) (fun q h => Nat.le_trans hS.1 h) (fun r_18 _ _ H_18 _ _ _ hw _ _ _ hS => ?_)
        subst hw
        refine lv_icmp_eq (tgt := 64) hx hb dX1_isPair_49 (by decide) (fun c_19 => ?_) (fun c_19 => ?_)
        · -- taken
          refine lv_iconst (v := 0) hx hb dX1_isPair_64 (by decide) ?_
          exact W.zret (v := (0 : Int32)) hx hb hr (nb_01 (Or.inl rfl)) (fun t ht hW => ⟨⟨(0 : Int32), (), rfl, by rw [fX1_isPair, if_neg c_3, if_neg c_10, if_neg c_17, if_pos c_19], trivial⟩, hS.F ht⟩) hS.2.2 dX1_isPair_65
        · -- not taken
          refine lv_iload_n hx hb dX1_isPair_52 rfl (lv_at hl 1 rfl) ?_
          refine lv_iload_n hx hb dX1_isPair_53 rfl (lv_at hl 3 rfl) ?_
          refine lv_bipush (v := 10) hx hb dX1_isPair_54 (by decide) ?_
          refine lv_bipush (v := 14) hx hb dX1_isPair_56 (by decide) ?_
          refine va_calli (va_runS (As := [.int p0, .int (10 : Int32), .int (14 : Int32)]) (rest := [.int (fX1_bits p0 (5 : Int32) (9 : Int32))]) ⟨hx, hb, hml, hown, hts⟩ (mX1_bits l H_18.size p0 (10 : Int32) (14 : Int32)) (va_cwS 3 hts gX1_isPair_X1_bits rfl rfl rfl (by decide +kernel) ⟨Nat.le_of_ble_eq_true rfl, Nat.le_of_ble_eq_true rfl⟩) ⟨fb_pure, fun U hU hW => ⟨rfl, congrArg Array.size hU⟩⟩ rfl rfl hl.1 rfl (lv_room (Nat.le_of_ble_eq_true rfl)) dX1_isPair_58 ⟨Nat.zero_le _, Nat.zero_le _⟩) hS (fun q _ h => Nat.le_trans hS.1 h) (fun q h => Nat.le_trans hS.1 h) (fun r_20 _ _ H_20 _ _ _ hw _ _ _ hS => ?_)
          subst hw
          refine lv_icmp_ne (tgt := 66) hx hb dX1_isPair_61 (by decide) (fun c_21 => ?_) (fun c_21 => ?_)
          · -- taken
            refine lv_iload_n hx hb dX1_isPair_66 rfl (lv_at hl 3 rfl) ?_
            refine lv_bipush (v := 22) hx hb dX1_isPair_67 (by decide) ?_
            refine lv_bipush (v := 22) hx hb dX1_isPair_69 (by decide) ?_
            refine va_calli (va_runS (As := [.int p0, .int (22 : Int32), .int (22 : Int32)]) (rest := []) ⟨hx, hb, hml, hown, hts⟩ (mX1_bits l H_20.size p0 (22 : Int32) (22 : Int32)) (va_cwS 3 hts gX1_isPair_X1_bits rfl rfl rfl (by decide +kernel) ⟨Nat.le_of_ble_eq_true rfl, Nat.le_of_ble_eq_true rfl⟩) ⟨fb_pure, fun U hU hW => ⟨rfl, congrArg Array.size hU⟩⟩ rfl rfl hl.1 rfl (lv_room (Nat.le_of_ble_eq_true rfl)) dX1_isPair_71 ⟨Nat.zero_le _, Nat.zero_le _⟩) hS (fun q _ h => Nat.le_trans hS.1 h) (fun q h => Nat.le_trans hS.1 h) (fun r_22 _ _ H_22 _ _ _ hw _ _ _ hS => ?_)
            subst hw
            refine lv_if_eq (tgt := 94) hx hb dX1_isPair_74 (by decide) (fun c_23 => ?_) (fun c_23 => ?_)
            · -- taken
              refine lv_iconst (v := 1) hx hb dX1_isPair_94 (by decide) ?_
              refine lv_goto (tgt := 99) hx hb dX1_isPair_95 (by decide) ?_
              exact W.zret (v := (1 : Int32)) hx hb hr (nb_01 (Or.inr rfl)) (fun t ht hW => ⟨⟨(1 : Int32), (), rfl, by rw [fX1_isPair, if_neg c_3, if_neg c_10, if_neg c_17, if_neg c_19, if_neg c_21, if_pos c_23], trivial⟩, hS.F ht⟩) hS.2.2 dX1_isPair_99
            · -- not taken
              refine lv_iload_n hx hb dX1_isPair_77 rfl (lv_at hl 3 rfl) ?_
              refine lv_iconst (v := 0) hx hb dX1_isPair_78 (by decide) ?_
              refine lv_iconst (v := 4) hx hb dX1_isPair_79 (by decide) ?_
              refine va_calli (va_runS (As := [.int p0, .int (0 : Int32), .int (4 : Int32)]) (rest := []) ⟨hx, hb, hml, hown, hts⟩ (mX1_bits l H_22.size p0 (0 : Int32) (4 : Int32)) (va_cwS 3 hts gX1_isPair_X1_bits rfl rfl rfl (by decide +kernel) ⟨Nat.le_of_ble_eq_true rfl, Nat.le_of_ble_eq_true rfl⟩) ⟨fb_pure, fun U hU hW => ⟨rfl, congrArg Array.size hU⟩⟩ rfl rfl hl.1 rfl (lv_room (Nat.le_of_ble_eq_true rfl)) dX1_isPair_80 ⟨Nat.zero_le _, Nat.zero_le _⟩) hS (fun q _ h => Nat.le_trans hS.1 h) (fun q h => Nat.le_trans hS.1 h) (fun r_24 _ _ H_24 _ _ _ hw _ _ _ hS => ?_)
              subst hw
              refine lv_iload_n hx hb dX1_isPair_83 rfl (lv_at hl 3 rfl) ?_
              refine lv_bipush (v := 10) hx hb dX1_isPair_84 (by decide) ?_
              refine lv_bipush (v := 14) hx hb dX1_isPair_86 (by decide) ?_
              refine va_calli (va_runS (As := [.int p0, .int (10 : Int32), .int (14 : Int32)]) (rest := [.int (fX1_bits p0 (0 : Int32) (4 : Int32))]) ⟨hx, hb, hml, hown, hts⟩ (mX1_bits l H_24.size p0 (10 : Int32) (14 : Int32)) (va_cwS 3 hts gX1_isPair_X1_bits rfl rfl rfl (by decide +kernel) ⟨Nat.le_of_ble_eq_true rfl, Nat.le_of_ble_eq_true rfl⟩) ⟨fb_pure, fun U hU hW => ⟨rfl, congrArg Array.size hU⟩⟩ rfl rfl hl.1 rfl (lv_room (Nat.le_of_ble_eq_true rfl)) dX1_isPair_88 ⟨Nat.zero_le _, Nat.zero_le _⟩) hS (fun q _ h => Nat.le_trans hS.1 h) (fun q h => Nat.le_trans hS.1 h) (fun r_25 _ _ H_25 _ _ _ hw _ _ _ hS => ?_)
              subst hw
              refine lv_icmp_eq (tgt := 98) hx hb dX1_isPair_91 (by decide) (fun c_26 => ?_) (fun c_26 => ?_)
              · -- taken
                refine lv_iconst (v := 0) hx hb dX1_isPair_98 (by decide) ?_
                exact W.zret (v := (0 : Int32)) hx hb hr (nb_01 (Or.inl rfl)) (fun t ht hW => ⟨⟨(0 : Int32), (), rfl, by rw [fX1_isPair, if_neg c_3, if_neg c_10, if_neg c_17, if_neg c_19, if_neg c_21, if_neg c_23, if_pos c_26], trivial⟩, hS.F ht⟩) hS.2.2 dX1_isPair_99
              · -- not taken
                refine lv_iconst (v := 1) hx hb dX1_isPair_94 (by decide) ?_
                refine lv_goto (tgt := 99) hx hb dX1_isPair_95 (by decide) ?_
                exact W.zret (v := (1 : Int32)) hx hb hr (nb_01 (Or.inr rfl)) (fun t ht hW => ⟨⟨(1 : Int32), (), rfl, by rw [fX1_isPair, if_neg c_3, if_neg c_10, if_neg c_17, if_neg c_19, if_neg c_21, if_neg c_23, if_neg c_26], trivial⟩, hS.F ht⟩) hS.2.2 dX1_isPair_99
          · -- not taken
            refine lv_iconst (v := 0) hx hb dX1_isPair_64 (by decide) ?_
            exact W.zret (v := (0 : Int32)) hx hb hr (nb_01 (Or.inl rfl)) (fun t ht hW => ⟨⟨(0 : Int32), (), rfl, by rw [fX1_isPair, if_neg c_3, if_neg c_10, if_neg c_17, if_neg c_19, if_pos c_21], trivial⟩, hS.F ht⟩) hS.2.2 dX1_isPair_65
set_option maxHeartbeats 4000000 in
set_option maxRecDepth 100000 in
theorem mX1_isMoved (l : Launch) (sz : Nat) (p0 : Int32) : Met l yX1_isMoved wsX1_isMoved ({ frames := 1, cells := 0, slots := 0, locals := 22 }) (va_Pc [.int p0] (fun U => U.heap.size = sz)) (va_Qi (fun (r : Int32) (_ : Unit) => r = fX1_isMoved p0) (fun _ _ => True) (fun q : Nat => sz ≤ q)) 0 0 (fun q : Nat => sz ≤ q) := by
  refine Met.ofW (cc := cX1_isMoved) (maxL := 1) (ret := (some .boolean)) (by decide) rfl ?_
  intro p e s m args below meth c s₁ B hml hv
  obtain ⟨rfl, hsz⟩ := hv
  have hx := B.exec
  have hb := B.bytes
  have hr := B.returns
  have hts := atoms_spec (ws := wsX1_isMoved) B.pre
  have hown : s.vm.findClass RX1 = some m.cls := findClass_of_methodNamed B.named
  have hlocks := B.notSynchronized
  subst hsz
  have hS : va_S (fun q : Nat => s.heap.size ≤ q) s.heap s.heap [] := va_S.rf
  have hl := lv_entry ([.int p0]) (n := 1) (Nat.le_of_ble_eq_true rfl)
  rw [lg_entry_eq]
  generalize (lg_sl ([.int p0]) ++ List.replicate (1 - (lg_sl ([.int p0])).length) Slot.unset).toArray = ls at hl ⊢
  have hl : lv_has ls 1 [(0, .int p0)] := hl
  refine lv_iload_n hx hb dX1_isMoved_0 rfl (lv_at hl 0 rfl) ?_
  refine lv_if_lt (tgt := 15) hx hb dX1_isMoved_1 (by decide) (fun c_1 => ?_) (fun c_1 => ?_)
  · -- taken
    refine lv_iconst (v := 1) hx hb dX1_isMoved_15 (by decide) ?_
    refine lv_goto (tgt := 20) hx hb dX1_isMoved_16 (by decide) ?_
    exact W.zret (v := (1 : Int32)) hx hb hr (nb_01 (Or.inr rfl)) (fun t ht hW => ⟨⟨(1 : Int32), (), rfl, by rw [fX1_isMoved, if_pos c_1], trivial⟩, hS.F ht⟩) hS.2.2 dX1_isMoved_20
  · -- not taken
    refine lv_iload_n hx hb dX1_isMoved_4 rfl (lv_at hl 0 rfl) ?_
    refine lv_bipush (v := 15) hx hb dX1_isMoved_5 (by decide) ?_
    refine lv_bipush (v := 15) hx hb dX1_isMoved_7 (by decide) ?_
    refine va_calli (va_runS (As := [.int p0, .int (15 : Int32), .int (15 : Int32)]) (rest := []) ⟨hx, hb, hml, hown, hts⟩ (mX1_bits l s.heap.size p0 (15 : Int32) (15 : Int32)) (va_cwS 3 hts gX1_isMoved_X1_bits rfl rfl rfl (by decide +kernel) ⟨Nat.le_of_ble_eq_true rfl, Nat.le_of_ble_eq_true rfl⟩) ⟨fb_pure, fun U hU hW => ⟨rfl, congrArg Array.size hU⟩⟩ rfl rfl hl.1 rfl (lv_room (Nat.le_of_ble_eq_true rfl)) dX1_isMoved_9 ⟨Nat.zero_le _, Nat.zero_le _⟩) hS (fun q _ h => Nat.le_trans hS.1 h) (fun q h => Nat.le_trans hS.1 h) (fun r_2 _ _ H_2 _ _ _ hw _ _ _ hS => ?_)
    subst hw
    refine lv_if_ne (tgt := 19) hx hb dX1_isMoved_12 (by decide) (fun c_3 => ?_) (fun c_3 => ?_)
    · -- taken
      refine lv_iconst (v := 0) hx hb dX1_isMoved_19 (by decide) ?_
      exact W.zret (v := (0 : Int32)) hx hb hr (nb_01 (Or.inl rfl)) (fun t ht hW => ⟨⟨(0 : Int32), (), rfl, by rw [fX1_isMoved, if_neg c_1, if_neg c_3], trivial⟩, hS.F ht⟩) hS.2.2 dX1_isMoved_20
    · -- not taken
      refine lv_iconst (v := 1) hx hb dX1_isMoved_15 (by decide) ?_
      refine lv_goto (tgt := 20) hx hb dX1_isMoved_16 (by decide) ?_
      exact W.zret (v := (1 : Int32)) hx hb hr (nb_01 (Or.inr rfl)) (fun t ht hW => ⟨⟨(1 : Int32), (), rfl, by rw [fX1_isMoved, if_neg c_1, if_pos c_3], trivial⟩, hS.F ht⟩) hS.2.2 dX1_isMoved_20
set_option maxHeartbeats 4000000 in
set_option maxRecDepth 100000 in
theorem mX1_isByRegister (l : Launch) (sz : Nat) (p0 : Int32) : Met l yX1_isByRegister wsX1_isByRegister ({ frames := 1, cells := 0, slots := 0, locals := 22 }) (va_Pc [.int p0] (fun U => U.heap.size = sz)) (va_Qi (fun (r : Int32) (_ : Unit) => r = fX1_isByRegister p0) (fun _ _ => True) (fun q : Nat => sz ≤ q)) 0 0 (fun q : Nat => sz ≤ q) := by
  refine Met.ofW (cc := cX1_isByRegister) (maxL := 1) (ret := (some .boolean)) (by decide) rfl ?_
  intro p e s m args below meth c s₁ B hml hv
  obtain ⟨rfl, hsz⟩ := hv
  have hx := B.exec
  have hb := B.bytes
  have hr := B.returns
  have hts := atoms_spec (ws := wsX1_isByRegister) B.pre
  have hown : s.vm.findClass RX1 = some m.cls := findClass_of_methodNamed B.named
  have hlocks := B.notSynchronized
  subst hsz
  have hS : va_S (fun q : Nat => s.heap.size ≤ q) s.heap s.heap [] := va_S.rf
  have hl := lv_entry ([.int p0]) (n := 1) (Nat.le_of_ble_eq_true rfl)
  rw [lg_entry_eq]
  generalize (lg_sl ([.int p0]) ++ List.replicate (1 - (lg_sl ([.int p0])).length) Slot.unset).toArray = ls at hl ⊢
  have hl : lv_has ls 1 [(0, .int p0)] := hl
  refine lv_iload_n hx hb dX1_isByRegister_0 rfl (lv_at hl 0 rfl) ?_
  refine lv_bipush (v := 21) hx hb dX1_isByRegister_1 (by decide) ?_
  refine lv_bipush (v := 21) hx hb dX1_isByRegister_3 (by decide) ?_
  refine va_calli (va_runS (As := [.int p0, .int (21 : Int32), .int (21 : Int32)]) (rest := []) ⟨hx, hb, hml, hown, hts⟩ (mX1_bits l s.heap.size p0 (21 : Int32) (21 : Int32)) (va_cwS 3 hts gX1_isByRegister_X1_bits rfl rfl rfl (by decide +kernel) ⟨Nat.le_of_ble_eq_true rfl, Nat.le_of_ble_eq_true rfl⟩) ⟨fb_pure, fun U hU hW => ⟨rfl, congrArg Array.size hU⟩⟩ rfl rfl hl.1 rfl (lv_room (Nat.le_of_ble_eq_true rfl)) dX1_isByRegister_5 ⟨Nat.zero_le _, Nat.zero_le _⟩) hS (fun q _ h => Nat.le_trans hS.1 h) (fun q h => Nat.le_trans hS.1 h) (fun r_1 _ _ H_1 _ _ _ hw _ _ _ hS => ?_)
  subst hw
  refine lv_iconst (v := 1) hx hb dX1_isByRegister_8 (by decide) ?_
  refine lv_icmp_ne (tgt := 40) hx hb dX1_isByRegister_9 (by decide) (fun c_2 => ?_) (fun c_2 => ?_)
  · -- taken
    refine lv_iconst (v := 0) hx hb dX1_isByRegister_40 (by decide) ?_
    exact W.zret (v := (0 : Int32)) hx hb hr (nb_01 (Or.inl rfl)) (fun t ht hW => ⟨⟨(0 : Int32), (), rfl, by rw [fX1_isByRegister, if_neg c_2], trivial⟩, hS.F ht⟩) hS.2.2 dX1_isByRegister_41
  · -- not taken
    refine lv_iload_n hx hb dX1_isByRegister_12 rfl (lv_at hl 0 rfl) ?_
    refine lv_bipush (v := 13) hx hb dX1_isByRegister_13 (by decide) ?_
    refine lv_bipush (v := 15) hx hb dX1_isByRegister_15 (by decide) ?_
    refine va_calli (va_runS (As := [.int p0, .int (13 : Int32), .int (15 : Int32)]) (rest := []) ⟨hx, hb, hml, hown, hts⟩ (mX1_bits l H_1.size p0 (13 : Int32) (15 : Int32)) (va_cwS 3 hts gX1_isByRegister_X1_bits rfl rfl rfl (by decide +kernel) ⟨Nat.le_of_ble_eq_true rfl, Nat.le_of_ble_eq_true rfl⟩) ⟨fb_pure, fun U hU hW => ⟨rfl, congrArg Array.size hU⟩⟩ rfl rfl hl.1 rfl (lv_room (Nat.le_of_ble_eq_true rfl)) dX1_isByRegister_17 ⟨Nat.zero_le _, Nat.zero_le _⟩) hS (fun q _ h => Nat.le_trans hS.1 h) (fun q h => Nat.le_trans hS.1 h) (fun r_3 _ _ H_3 _ _ _ hw _ _ _ hS => ?_)
    subst hw
    refine lv_iconst (v := 3) hx hb dX1_isByRegister_20 (by decide) ?_
    refine lv_icmp_ne (tgt := 40) hx hb dX1_isByRegister_21 (by decide) (fun c_4 => ?_) (fun c_4 => ?_)
    · -- taken
      refine lv_iconst (v := 0) hx hb dX1_isByRegister_40 (by decide) ?_
      exact W.zret (v := (0 : Int32)) hx hb hr (nb_01 (Or.inl rfl)) (fun t ht hW => ⟨⟨(0 : Int32), (), rfl, by rw [fX1_isByRegister, if_pos c_2, if_neg c_4], trivial⟩, hS.F ht⟩) hS.2.2 dX1_isByRegister_41
    · -- not taken
      refine lv_iload_n hx hb dX1_isByRegister_24 rfl (lv_at hl 0 rfl) ?_
      refine lv_bipush (v := 10) hx hb dX1_isByRegister_25 (by decide) ?_
      refine lv_bipush (v := 11) hx hb dX1_isByRegister_27 (by decide) ?_
      refine va_calli (va_runS (As := [.int p0, .int (10 : Int32), .int (11 : Int32)]) (rest := []) ⟨hx, hb, hml, hown, hts⟩ (mX1_bits l H_3.size p0 (10 : Int32) (11 : Int32)) (va_cwS 3 hts gX1_isByRegister_X1_bits rfl rfl rfl (by decide +kernel) ⟨Nat.le_of_ble_eq_true rfl, Nat.le_of_ble_eq_true rfl⟩) ⟨fb_pure, fun U hU hW => ⟨rfl, congrArg Array.size hU⟩⟩ rfl rfl hl.1 rfl (lv_room (Nat.le_of_ble_eq_true rfl)) dX1_isByRegister_29 ⟨Nat.zero_le _, Nat.zero_le _⟩) hS (fun q _ h => Nat.le_trans hS.1 h) (fun q h => Nat.le_trans hS.1 h) (fun r_5 _ _ H_5 _ _ _ hw _ _ _ hS => ?_)
      subst hw
      refine lv_iconst (v := 2) hx hb dX1_isByRegister_32 (by decide) ?_
      refine lv_icmp_ne (tgt := 40) hx hb dX1_isByRegister_33 (by decide) (fun c_6 => ?_) (fun c_6 => ?_)
      · -- taken
        refine lv_iconst (v := 0) hx hb dX1_isByRegister_40 (by decide) ?_
        exact W.zret (v := (0 : Int32)) hx hb hr (nb_01 (Or.inl rfl)) (fun t ht hW => ⟨⟨(0 : Int32), (), rfl, by rw [fX1_isByRegister, if_pos c_2, if_pos c_4, if_neg c_6], trivial⟩, hS.F ht⟩) hS.2.2 dX1_isByRegister_41
      · -- not taken
        refine lv_iconst (v := 1) hx hb dX1_isByRegister_36 (by decide) ?_
        refine lv_goto (tgt := 41) hx hb dX1_isByRegister_37 (by decide) ?_
        exact W.zret (v := (1 : Int32)) hx hb hr (nb_01 (Or.inr rfl)) (fun t ht hW => ⟨⟨(1 : Int32), (), rfl, by rw [fX1_isByRegister, if_pos c_2, if_pos c_4, if_pos c_6], trivial⟩, hS.F ht⟩) hS.2.2 dX1_isByRegister_41
set_option maxHeartbeats 4000000 in
set_option maxRecDepth 100000 in
theorem mX1_isSize (l : Launch) (sz : Nat) (p0 : Int32) : Met l yX1_isSize wsX1_isSize ({ frames := 1, cells := 0, slots := 0, locals := 22 }) (va_Pc [.int p0] (fun U => U.heap.size = sz)) (va_Qi (fun (r : Int32) (_ : Unit) => r = fX1_isSize p0) (fun _ _ => True) (fun q : Nat => sz ≤ q)) 0 0 (fun q : Nat => sz ≤ q) := by
  refine Met.ofW (cc := cX1_isSize) (maxL := 3) (ret := (some .boolean)) (by decide) rfl ?_
  intro p e s m args below meth c s₁ B hml hv
  obtain ⟨rfl, hsz⟩ := hv
  have hx := B.exec
  have hb := B.bytes
  have hr := B.returns
  have hts := atoms_spec (ws := wsX1_isSize) B.pre
  have hown : s.vm.findClass RX1 = some m.cls := findClass_of_methodNamed B.named
  have hlocks := B.notSynchronized
  subst hsz
  have hS : va_S (fun q : Nat => s.heap.size ≤ q) s.heap s.heap [] := va_S.rf
  have hl := lv_entry ([.int p0]) (n := 3) (Nat.le_of_ble_eq_true rfl)
  rw [lg_entry_eq]
  generalize (lg_sl ([.int p0]) ++ List.replicate (3 - (lg_sl ([.int p0])).length) Slot.unset).toArray = ls at hl ⊢
  have hl : lv_has ls 3 [(0, .int p0)] := hl
  refine lv_iload_n hx hb dX1_isSize_0 rfl (lv_at hl 0 rfl) ?_
  refine lv_bipush (v := 30) hx hb dX1_isSize_1 (by decide) ?_
  refine lv_bipush (v := 31) hx hb dX1_isSize_3 (by decide) ?_
  refine va_calli (va_runS (As := [.int p0, .int (30 : Int32), .int (31 : Int32)]) (rest := []) ⟨hx, hb, hml, hown, hts⟩ (mX1_bits l s.heap.size p0 (30 : Int32) (31 : Int32)) (va_cwS 3 hts gX1_isSize_X1_bits rfl rfl rfl (by decide +kernel) ⟨Nat.le_of_ble_eq_true rfl, Nat.le_of_ble_eq_true rfl⟩) ⟨fb_pure, fun U hU hW => ⟨rfl, congrArg Array.size hU⟩⟩ rfl rfl hl.1 rfl (lv_room (Nat.le_of_ble_eq_true rfl)) dX1_isSize_5 ⟨Nat.zero_le _, Nat.zero_le _⟩) hS (fun q _ h => Nat.le_trans hS.1 h) (fun q h => Nat.le_trans hS.1 h) (fun r_1 _ _ H_1 _ _ _ hw _ _ _ hS => ?_)
  subst hw
  refine lv_istore_n (lv' := [(1, .int (fX1_bits p0 (30 : Int32) (31 : Int32))), (0, .int p0)]) hx hb dX1_isSize_8 rfl hl (by decide) rfl (fun ls hl => ?_)
  refine lv_iload_n hx hb dX1_isSize_9 rfl (lv_at hl 1 rfl) ?_
  refine lv_bipush (v := 22) hx hb dX1_isSize_10 (by decide) ?_
  refine lv_bipush (v := 23) hx hb dX1_isSize_12 (by decide) ?_
  refine va_calli (va_runS (As := [.int p0, .int (22 : Int32), .int (23 : Int32)]) (rest := []) ⟨hx, hb, hml, hown, hts⟩ (mX1_bits l H_1.size p0 (22 : Int32) (23 : Int32)) (va_cwS 3 hts gX1_isSize_X1_bits rfl rfl rfl (by decide +kernel) ⟨Nat.le_of_ble_eq_true rfl, Nat.le_of_ble_eq_true rfl⟩) ⟨fb_pure, fun U hU hW => ⟨rfl, congrArg Array.size hU⟩⟩ rfl rfl hl.1 rfl (lv_room (Nat.le_of_ble_eq_true rfl)) dX1_isSize_14 ⟨Nat.zero_le _, Nat.zero_le _⟩) hS (fun q _ h => Nat.le_trans hS.1 h) (fun q h => Nat.le_trans hS.1 h) (fun r_2 _ _ H_2 _ _ _ hw _ _ _ hS => ?_)
  subst hw
  refine lv_istore_n (lv' := [(2, .int (fX1_bits p0 (22 : Int32) (23 : Int32))), (1, .int (fX1_bits p0 (30 : Int32) (31 : Int32))), (0, .int p0)]) hx hb dX1_isSize_17 rfl hl (by decide) rfl (fun ls hl => ?_)
  refine lv_iload_n hx hb dX1_isSize_18 rfl (lv_at hl 1 rfl) ?_
  refine lv_iconst (v := 1) hx hb dX1_isSize_19 (by decide) ?_
  refine lv_icmp_eq (tgt := 42) hx hb dX1_isSize_20 (by decide) (fun c_3 => ?_) (fun c_3 => ?_)
  · -- taken
    refine lv_iconst (v := 0) hx hb dX1_isSize_42 (by decide) ?_
    exact W.zret (v := (0 : Int32)) hx hb hr (nb_01 (Or.inl rfl)) (fun t ht hW => ⟨⟨(0 : Int32), (), rfl, by rw [fX1_isSize, if_pos c_3], trivial⟩, hS.F ht⟩) hS.2.2 dX1_isSize_43
  · -- not taken
    refine lv_iload_n hx hb dX1_isSize_23 rfl (lv_at hl 0 rfl) ?_
    refine lv_iconst (v := 2) hx hb dX1_isSize_24 (by decide) ?_
    refine lv_icmp_lt (tgt := 38) hx hb dX1_isSize_25 (by decide) (fun c_4 => ?_) (fun c_4 => ?_)
    · -- taken
      refine lv_iconst (v := 1) hx hb dX1_isSize_38 (by decide) ?_
      refine lv_goto (tgt := 43) hx hb dX1_isSize_39 (by decide) ?_
      exact W.zret (v := (1 : Int32)) hx hb hr (nb_01 (Or.inr rfl)) (fun t ht hW => ⟨⟨(1 : Int32), (), rfl, by rw [fX1_isSize, if_neg c_3, if_pos c_4], trivial⟩, hS.F ht⟩) hS.2.2 dX1_isSize_43
    · -- not taken
      refine lv_iload_n hx hb dX1_isSize_28 rfl (lv_at hl 0 rfl) ?_
      refine lv_iconst (v := 2) hx hb dX1_isSize_29 (by decide) ?_
      refine lv_icmp_ne (tgt := 42) hx hb dX1_isSize_30 (by decide) (fun c_5 => ?_) (fun c_5 => ?_)
      · -- taken
        refine lv_iconst (v := 0) hx hb dX1_isSize_42 (by decide) ?_
        exact W.zret (v := (0 : Int32)) hx hb hr (nb_01 (Or.inl rfl)) (fun t ht hW => ⟨⟨(0 : Int32), (), rfl, by rw [fX1_isSize, if_neg c_3, if_neg c_4, if_neg c_5], trivial⟩, hS.F ht⟩) hS.2.2 dX1_isSize_43
      · -- not taken
        refine lv_iload_n hx hb dX1_isSize_33 rfl (lv_at hl 1 rfl) ?_
        refine lv_iconst (v := 2) hx hb dX1_isSize_34 (by decide) ?_
        refine lv_icmp_ne (tgt := 42) hx hb dX1_isSize_35 (by decide) (fun c_6 => ?_) (fun c_6 => ?_)
        · -- taken
          refine lv_iconst (v := 0) hx hb dX1_isSize_42 (by decide) ?_
          exact W.zret (v := (0 : Int32)) hx hb hr (nb_01 (Or.inl rfl)) (fun t ht hW => ⟨⟨(0 : Int32), (), rfl, by rw [fX1_isSize, if_neg c_3, if_neg c_4, if_pos c_5, if_neg c_6], trivial⟩, hS.F ht⟩) hS.2.2 dX1_isSize_43
        · -- not taken
          refine lv_iconst (v := 1) hx hb dX1_isSize_38 (by decide) ?_
          refine lv_goto (tgt := 43) hx hb dX1_isSize_39 (by decide) ?_
          exact W.zret (v := (1 : Int32)) hx hb hr (nb_01 (Or.inr rfl)) (fun t ht hW => ⟨⟨(1 : Int32), (), rfl, by rw [fX1_isSize, if_neg c_3, if_neg c_4, if_pos c_5, if_pos c_6], trivial⟩, hS.F ht⟩) hS.2.2 dX1_isSize_43
set_option maxHeartbeats 4000000 in
set_option maxRecDepth 100000 in
theorem mX1_inTwo (l : Launch) (sz : Nat) (p0 : Int32) : Met l yX1_inTwo wsX1_inTwo ({ frames := 1, cells := 0, slots := 0, locals := 22 }) (va_Pc [.int p0] (fun U => U.heap.size = sz)) (va_Qi (fun (r : Int32) (_ : Unit) => r = fX1_inTwo p0) (fun _ _ => True) (fun q : Nat => sz ≤ q)) 0 0 (fun q : Nat => sz ≤ q) := by
  refine Met.ofW (cc := cX1_inTwo) (maxL := 4) (ret := (some .int)) (by decide) rfl ?_
  intro p e s m args below meth c s₁ B hml hv
  obtain ⟨rfl, hsz⟩ := hv
  have hx := B.exec
  have hb := B.bytes
  have hr := B.returns
  have hts := atoms_spec (ws := wsX1_inTwo) B.pre
  have hown : s.vm.findClass RX1 = some m.cls := findClass_of_methodNamed B.named
  have hlocks := B.notSynchronized
  subst hsz
  have hS : va_S (fun q : Nat => s.heap.size ≤ q) s.heap s.heap [] := va_S.rf
  have hl := lv_entry ([.int p0]) (n := 4) (Nat.le_of_ble_eq_true rfl)
  rw [lg_entry_eq]
  generalize (lg_sl ([.int p0]) ++ List.replicate (4 - (lg_sl ([.int p0])).length) Slot.unset).toArray = ls at hl ⊢
  have hl : lv_has ls 4 [(0, .int p0)] := hl
  refine lv_iload_n hx hb dX1_inTwo_0 rfl (lv_at hl 0 rfl) ?_
  refine lv_bipush (v := 21) hx hb dX1_inTwo_1 (by decide) ?_
  refine lv_bipush (v := 23) hx hb dX1_inTwo_3 (by decide) ?_
  refine va_calli (va_runS (As := [.int p0, .int (21 : Int32), .int (23 : Int32)]) (rest := []) ⟨hx, hb, hml, hown, hts⟩ (mX1_bits l s.heap.size p0 (21 : Int32) (23 : Int32)) (va_cwS 3 hts gX1_inTwo_X1_bits rfl rfl rfl (by decide +kernel) ⟨Nat.le_of_ble_eq_true rfl, Nat.le_of_ble_eq_true rfl⟩) ⟨fb_pure, fun U hU hW => ⟨rfl, congrArg Array.size hU⟩⟩ rfl rfl hl.1 rfl (lv_room (Nat.le_of_ble_eq_true rfl)) dX1_inTwo_5 ⟨Nat.zero_le _, Nat.zero_le _⟩) hS (fun q _ h => Nat.le_trans hS.1 h) (fun q h => Nat.le_trans hS.1 h) (fun r_1 _ _ H_1 _ _ _ hw _ _ _ hS => ?_)
  subst hw
  refine lv_istore_n (lv' := [(1, .int (fX1_bits p0 (21 : Int32) (23 : Int32))), (0, .int p0)]) hx hb dX1_inTwo_8 rfl hl (by decide) rfl (fun ls hl => ?_)
  refine lv_iload_n hx hb dX1_inTwo_9 rfl (lv_at hl 1 rfl) ?_
  refine lv_bipush (v := 10) hx hb dX1_inTwo_10 (by decide) ?_
  refine lv_bipush (v := 15) hx hb dX1_inTwo_12 (by decide) ?_
  refine va_calli (va_runS (As := [.int p0, .int (10 : Int32), .int (15 : Int32)]) (rest := []) ⟨hx, hb, hml, hown, hts⟩ (mX1_bits l H_1.size p0 (10 : Int32) (15 : Int32)) (va_cwS 3 hts gX1_inTwo_X1_bits rfl rfl rfl (by decide +kernel) ⟨Nat.le_of_ble_eq_true rfl, Nat.le_of_ble_eq_true rfl⟩) ⟨fb_pure, fun U hU hW => ⟨rfl, congrArg Array.size hU⟩⟩ rfl rfl hl.1 rfl (lv_room (Nat.le_of_ble_eq_true rfl)) dX1_inTwo_14 ⟨Nat.zero_le _, Nat.zero_le _⟩) hS (fun q _ h => Nat.le_trans hS.1 h) (fun q h => Nat.le_trans hS.1 h) (fun r_2 _ _ H_2 _ _ _ hw _ _ _ hS => ?_)
  subst hw
  refine lv_istore_n (lv' := [(2, .int (fX1_bits p0 (10 : Int32) (15 : Int32))), (1, .int (fX1_bits p0 (21 : Int32) (23 : Int32))), (0, .int p0)]) hx hb dX1_inTwo_17 rfl hl (by decide) rfl (fun ls hl => ?_)
  refine lv_iload_n hx hb dX1_inTwo_18 rfl (lv_at hl 1 rfl) ?_
  refine lv_bipush (v := 6) hx hb dX1_inTwo_19 (by decide) ?_
  refine lv_icmp_ne (tgt := 53) hx hb dX1_inTwo_21 (by decide) (fun c_3 => ?_) (fun c_3 => ?_)
  · -- taken
    refine lv_iload_n hx hb dX1_inTwo_53 rfl (lv_at hl 1 rfl) ?_
    refine lv_iconst (v := 4) hx hb dX1_inTwo_54 (by decide) ?_
    refine lv_icmp_ne (tgt := 86) hx hb dX1_inTwo_55 (by decide) (fun c_4 => ?_) (fun c_4 => ?_)
    · -- taken
      refine lv_iconst (v := 0) hx hb dX1_inTwo_86 (by decide) ?_
      refine lv_istore_n (lv' := [(3, .int (0 : Int32)), (2, .int (fX1_bits p0 (10 : Int32) (15 : Int32))), (1, .int (fX1_bits p0 (21 : Int32) (23 : Int32))), (0, .int p0)]) hx hb dX1_inTwo_87 rfl hl (by decide) rfl (fun ls hl => ?_)
      refine lv_iload_n hx hb dX1_inTwo_88 rfl (lv_at hl 0 rfl) ?_
      refine lv_if_eq (tgt := 97) hx hb dX1_inTwo_89 (by decide) (fun _ => ?_) (fun c => absurd c (by decide))
      refine lv_iconst (v := 0) hx hb dX1_inTwo_97 (by decide) ?_
      exact W.iret (v := (0 : Int32)) hx hb hr (fun t ht hW => ⟨⟨(0 : Int32), (), rfl, by rw [fX1_inTwo, if_neg c_3, if_neg c_4], trivial⟩, hS.F ht⟩) hS.2.2 dX1_inTwo_98
    · -- not taken
      refine lv_iload_n hx hb dX1_inTwo_58 rfl (lv_at hl 2 rfl) ?_
      refine lv_bipush (v := 11) hx hb dX1_inTwo_59 (by decide) ?_
      refine lv_bipush (v := 11) hx hb dX1_inTwo_61 (by decide) ?_
      refine va_calli (va_runS (As := [.int p0, .int (11 : Int32), .int (11 : Int32)]) (rest := []) ⟨hx, hb, hml, hown, hts⟩ (mX1_bits l H_2.size p0 (11 : Int32) (11 : Int32)) (va_cwS 3 hts gX1_inTwo_X1_bits rfl rfl rfl (by decide +kernel) ⟨Nat.le_of_ble_eq_true rfl, Nat.le_of_ble_eq_true rfl⟩) ⟨fb_pure, fun U hU hW => ⟨rfl, congrArg Array.size hU⟩⟩ rfl rfl hl.1 rfl (lv_room (Nat.le_of_ble_eq_true rfl)) dX1_inTwo_63 ⟨Nat.zero_le _, Nat.zero_le _⟩) hS (fun q _ h => Nat.le_trans hS.1 h) (fun q h => Nat.le_trans hS.1 h) (fun r_5 _ _ H_5 _ _ _ hw _ _ _ hS => ?_)
      subst hw
      refine lv_if_ne (tgt := 86) hx hb dX1_inTwo_66 (by decide) (fun c_6 => ?_) (fun c_6 => ?_)
      · -- taken
        refine lv_iconst (v := 0) hx hb dX1_inTwo_86 (by decide) ?_
        refine lv_istore_n (lv' := [(3, .int (0 : Int32)), (2, .int (fX1_bits p0 (10 : Int32) (15 : Int32))), (1, .int (fX1_bits p0 (21 : Int32) (23 : Int32))), (0, .int p0)]) hx hb dX1_inTwo_87 rfl hl (by decide) rfl (fun ls hl => ?_)
        refine lv_iload_n hx hb dX1_inTwo_88 rfl (lv_at hl 0 rfl) ?_
        refine lv_if_eq (tgt := 97) hx hb dX1_inTwo_89 (by decide) (fun _ => ?_) (fun c => absurd c (by decide))
        refine lv_iconst (v := 0) hx hb dX1_inTwo_97 (by decide) ?_
        exact W.iret (v := (0 : Int32)) hx hb hr (fun t ht hW => ⟨⟨(0 : Int32), (), rfl, by rw [fX1_inTwo, if_neg c_3, if_pos c_4, if_neg c_6], trivial⟩, hS.F ht⟩) hS.2.2 dX1_inTwo_98
      · -- not taken
        refine lv_iload_n hx hb dX1_inTwo_69 rfl (lv_at hl 2 rfl) ?_
        refine lv_bipush (v := 12) hx hb dX1_inTwo_70 (by decide) ?_
        refine lv_bipush (v := 15) hx hb dX1_inTwo_72 (by decide) ?_
        refine va_calli (va_runS (As := [.int p0, .int (12 : Int32), .int (15 : Int32)]) (rest := []) ⟨hx, hb, hml, hown, hts⟩ (mX1_bits l H_5.size p0 (12 : Int32) (15 : Int32)) (va_cwS 3 hts gX1_inTwo_X1_bits rfl rfl rfl (by decide +kernel) ⟨Nat.le_of_ble_eq_true rfl, Nat.le_of_ble_eq_true rfl⟩) ⟨fb_pure, fun U hU hW => ⟨rfl, congrArg Array.size hU⟩⟩ rfl rfl hl.1 rfl (lv_room (Nat.le_of_ble_eq_true rfl)) dX1_inTwo_74 ⟨Nat.zero_le _, Nat.zero_le _⟩) hS (fun q _ h => Nat.le_trans hS.1 h) (fun q h => Nat.le_trans hS.1 h) (fun r_7 _ _ H_7 _ _ _ hw _ _ _ hS => ?_)
        subst hw
        refine lv_bipush (v := 14) hx hb dX1_inTwo_77 (by decide) ?_
        refine lv_icmp_ge (tgt := 86) hx hb dX1_inTwo_79 (by decide) (fun c_8 => ?_) (fun c_8 => ?_)
        · -- taken
          refine lv_iconst (v := 0) hx hb dX1_inTwo_86 (by decide) ?_
          refine lv_istore_n (lv' := [(3, .int (0 : Int32)), (2, .int (fX1_bits p0 (10 : Int32) (15 : Int32))), (1, .int (fX1_bits p0 (21 : Int32) (23 : Int32))), (0, .int p0)]) hx hb dX1_inTwo_87 rfl hl (by decide) rfl (fun ls hl => ?_)
          refine lv_iload_n hx hb dX1_inTwo_88 rfl (lv_at hl 0 rfl) ?_
          refine lv_if_eq (tgt := 97) hx hb dX1_inTwo_89 (by decide) (fun _ => ?_) (fun c => absurd c (by decide))
          refine lv_iconst (v := 0) hx hb dX1_inTwo_97 (by decide) ?_
          exact W.iret (v := (0 : Int32)) hx hb hr (fun t ht hW => ⟨⟨(0 : Int32), (), rfl, by rw [fX1_inTwo, if_neg c_3, if_pos c_4, if_pos c_6, if_pos c_8], trivial⟩, hS.F ht⟩) hS.2.2 dX1_inTwo_98
        · -- not taken
          refine lv_iconst (v := 1) hx hb dX1_inTwo_82 (by decide) ?_
          refine lv_goto (tgt := 87) hx hb dX1_inTwo_83 (by decide) ?_
          refine lv_istore_n (lv' := [(3, .int (1 : Int32)), (2, .int (fX1_bits p0 (10 : Int32) (15 : Int32))), (1, .int (fX1_bits p0 (21 : Int32) (23 : Int32))), (0, .int p0)]) hx hb dX1_inTwo_87 rfl hl (by decide) rfl (fun ls hl => ?_)
          refine lv_iload_n hx hb dX1_inTwo_88 rfl (lv_at hl 0 rfl) ?_
          refine lv_if_eq (tgt := 97) hx hb dX1_inTwo_89 (by decide) (fun c => absurd c (by decide)) (fun _ => ?_)
          refine lv_bipush (v := 8) hx hb dX1_inTwo_92 (by decide) ?_
          refine lv_goto (tgt := 98) hx hb dX1_inTwo_94 (by decide) ?_
          exact W.iret (v := (8 : Int32)) hx hb hr (fun t ht hW => ⟨⟨(8 : Int32), (), rfl, by rw [fX1_inTwo, if_neg c_3, if_pos c_4, if_pos c_6, if_neg c_8], trivial⟩, hS.F ht⟩) hS.2.2 dX1_inTwo_98
  · -- not taken
    refine lv_iload_n hx hb dX1_inTwo_24 rfl (lv_at hl 0 rfl) ?_
    refine lv_iconst (v := 2) hx hb dX1_inTwo_25 (by decide) ?_
    refine lv_icmp_eq (tgt := 46) hx hb dX1_inTwo_26 (by decide) (fun c_9 => ?_) (fun c_9 => ?_)
    · -- taken
      refine lv_bipush (v := 7) hx hb dX1_inTwo_46 (by decide) ?_
      refine lv_goto (tgt := 52) hx hb dX1_inTwo_48 (by decide) ?_
      exact W.iret (v := (7 : Int32)) hx hb hr (fun t ht hW => ⟨⟨(7 : Int32), (), rfl, by rw [fX1_inTwo, if_pos c_3, if_pos c_9], trivial⟩, hS.F ht⟩) hS.2.2 dX1_inTwo_52
    · -- not taken
      refine lv_iload_n hx hb dX1_inTwo_29 rfl (lv_at hl 0 rfl) ?_
      refine lv_iconst (v := 3) hx hb dX1_inTwo_30 (by decide) ?_
      refine lv_icmp_eq (tgt := 46) hx hb dX1_inTwo_31 (by decide) (fun c_10 => ?_) (fun c_10 => ?_)
      · -- taken
        refine lv_bipush (v := 7) hx hb dX1_inTwo_46 (by decide) ?_
        refine lv_goto (tgt := 52) hx hb dX1_inTwo_48 (by decide) ?_
        exact W.iret (v := (7 : Int32)) hx hb hr (fun t ht hW => ⟨⟨(7 : Int32), (), rfl, by rw [fX1_inTwo, if_pos c_3, if_neg c_9, if_pos c_10], trivial⟩, hS.F ht⟩) hS.2.2 dX1_inTwo_52
      · -- not taken
        refine lv_iload_n hx hb dX1_inTwo_34 rfl (lv_at hl 0 rfl) ?_
        refine lv_bipush (v := 7) hx hb dX1_inTwo_35 (by decide) ?_
        refine lv_icmp_le (tgt := 51) hx hb dX1_inTwo_37 (by decide) (fun c_11 => ?_) (fun c_11 => ?_)
        · -- taken
          refine lv_iconst (v := 0) hx hb dX1_inTwo_51 (by decide) ?_
          exact W.iret (v := (0 : Int32)) hx hb hr (fun t ht hW => ⟨⟨(0 : Int32), (), rfl, by rw [fX1_inTwo, if_pos c_3, if_neg c_9, if_neg c_10, if_pos c_11], trivial⟩, hS.F ht⟩) hS.2.2 dX1_inTwo_52
        · -- not taken
          refine lv_iload_n hx hb dX1_inTwo_40 rfl (lv_at hl 0 rfl) ?_
          refine lv_bipush (v := 11) hx hb dX1_inTwo_41 (by decide) ?_
          refine lv_icmp_ge (tgt := 51) hx hb dX1_inTwo_43 (by decide) (fun c_12 => ?_) (fun c_12 => ?_)
          · -- taken
            refine lv_iconst (v := 0) hx hb dX1_inTwo_51 (by decide) ?_
            exact W.iret (v := (0 : Int32)) hx hb hr (fun t ht hW => ⟨⟨(0 : Int32), (), rfl, by rw [fX1_inTwo, if_pos c_3, if_neg c_9, if_neg c_10, if_neg c_11, if_pos c_12], trivial⟩, hS.F ht⟩) hS.2.2 dX1_inTwo_52
          · -- not taken
            refine lv_bipush (v := 7) hx hb dX1_inTwo_46 (by decide) ?_
            refine lv_goto (tgt := 52) hx hb dX1_inTwo_48 (by decide) ?_
            exact W.iret (v := (7 : Int32)) hx hb hr (fun t ht hW => ⟨⟨(7 : Int32), (), rfl, by rw [fX1_inTwo, if_pos c_3, if_neg c_9, if_neg c_10, if_neg c_11, if_neg c_12], trivial⟩, hS.F ht⟩) hS.2.2 dX1_inTwo_52
set_option maxHeartbeats 4000000 in
set_option maxRecDepth 100000 in
theorem mX1_goesByRegister (l : Launch) (sz : Nat) (p0 : Int32) : Met l yX1_goesByRegister wsX1_goesByRegister ({ frames := 1, cells := 0, slots := 0, locals := 22 }) (va_Pc [.int p0] (fun U => U.heap.size = sz)) (va_Qi (fun (r : Int32) (_ : Unit) => r = fX1_goesByRegister p0) (fun _ _ => True) (fun q : Nat => sz ≤ q)) 0 0 (fun q : Nat => sz ≤ q) := by
  refine Met.ofW (cc := cX1_goesByRegister) (maxL := 2) (ret := (some .int)) (by decide) rfl ?_
  intro p e s m args below meth c s₁ B hml hv
  obtain ⟨rfl, hsz⟩ := hv
  have hx := B.exec
  have hb := B.bytes
  have hr := B.returns
  have hts := atoms_spec (ws := wsX1_goesByRegister) B.pre
  have hown : s.vm.findClass RX1 = some m.cls := findClass_of_methodNamed B.named
  have hlocks := B.notSynchronized
  subst hsz
  have hS : va_S (fun q : Nat => s.heap.size ≤ q) s.heap s.heap [] := va_S.rf
  have hl := lv_entry ([.int p0]) (n := 2) (Nat.le_of_ble_eq_true rfl)
  rw [lg_entry_eq]
  generalize (lg_sl ([.int p0]) ++ List.replicate (2 - (lg_sl ([.int p0])).length) Slot.unset).toArray = ls at hl ⊢
  have hl : lv_has ls 2 [(0, .int p0)] := hl
  refine lv_iload_n hx hb dX1_goesByRegister_0 rfl (lv_at hl 0 rfl) ?_
  refine lv_iconst (v := 0) hx hb dX1_goesByRegister_1 (by decide) ?_
  refine lv_iconst (v := 4) hx hb dX1_goesByRegister_2 (by decide) ?_
  refine va_calli (va_runS (As := [.int p0, .int (0 : Int32), .int (4 : Int32)]) (rest := []) ⟨hx, hb, hml, hown, hts⟩ (mX1_bits l s.heap.size p0 (0 : Int32) (4 : Int32)) (va_cwS 3 hts gX1_goesByRegister_X1_bits rfl rfl rfl (by decide +kernel) ⟨Nat.le_of_ble_eq_true rfl, Nat.le_of_ble_eq_true rfl⟩) ⟨fb_pure, fun U hU hW => ⟨rfl, congrArg Array.size hU⟩⟩ rfl rfl hl.1 rfl (lv_room (Nat.le_of_ble_eq_true rfl)) dX1_goesByRegister_3 ⟨Nat.zero_le _, Nat.zero_le _⟩) hS (fun q _ h => Nat.le_trans hS.1 h) (fun q h => Nat.le_trans hS.1 h) (fun r_1 _ _ H_1 _ _ _ hw _ _ _ hS => ?_)
  subst hw
  refine lv_if_gt (tgt := 33) hx hb dX1_goesByRegister_6 (by decide) (fun c_2 => ?_) (fun c_2 => ?_)
  · -- taken
    refine lv_iconst (v := 0) hx hb dX1_goesByRegister_33 (by decide) ?_
    exact W.iret (v := (0 : Int32)) hx hb hr (fun t ht hW => ⟨⟨(0 : Int32), (), rfl, by rw [fX1_goesByRegister, if_pos c_2], trivial⟩, hS.F ht⟩) hS.2.2 dX1_goesByRegister_34
  · -- not taken
    refine lv_iload_n hx hb dX1_goesByRegister_9 rfl (lv_at hl 0 rfl) ?_
    refine lv_bipush (v := 10) hx hb dX1_goesByRegister_10 (by decide) ?_
    refine lv_bipush (v := 15) hx hb dX1_goesByRegister_12 (by decide) ?_
    refine va_calli (va_runS (As := [.int p0, .int (10 : Int32), .int (15 : Int32)]) (rest := []) ⟨hx, hb, hml, hown, hts⟩ (mX1_bits l H_1.size p0 (10 : Int32) (15 : Int32)) (va_cwS 3 hts gX1_goesByRegister_X1_bits rfl rfl rfl (by decide +kernel) ⟨Nat.le_of_ble_eq_true rfl, Nat.le_of_ble_eq_true rfl⟩) ⟨fb_pure, fun U hU hW => ⟨rfl, congrArg Array.size hU⟩⟩ rfl rfl hl.1 rfl (lv_room (Nat.le_of_ble_eq_true rfl)) dX1_goesByRegister_14 ⟨Nat.zero_le _, Nat.zero_le _⟩) hS (fun q _ h => Nat.le_trans hS.1 h) (fun q h => Nat.le_trans hS.1 h) (fun r_3 _ _ H_3 _ _ _ hw _ _ _ hS => ?_)
    subst hw
    refine lv_if_gt (tgt := 33) hx hb dX1_goesByRegister_17 (by decide) (fun c_4 => ?_) (fun c_4 => ?_)
    · -- taken
      refine lv_iconst (v := 0) hx hb dX1_goesByRegister_33 (by decide) ?_
      exact W.iret (v := (0 : Int32)) hx hb hr (fun t ht hW => ⟨⟨(0 : Int32), (), rfl, by rw [fX1_goesByRegister, if_neg c_2, if_pos c_4], trivial⟩, hS.F ht⟩) hS.2.2 dX1_goesByRegister_34
    · -- not taken
      refine lv_iload_n hx hb dX1_goesByRegister_20 rfl (lv_at hl 0 rfl) ?_
      refine lv_bipush (v := 16) hx hb dX1_goesByRegister_21 (by decide) ?_
      refine lv_bipush (v := 20) hx hb dX1_goesByRegister_23 (by decide) ?_
      refine va_calli (va_runS (As := [.int p0, .int (16 : Int32), .int (20 : Int32)]) (rest := []) ⟨hx, hb, hml, hown, hts⟩ (mX1_bits l H_3.size p0 (16 : Int32) (20 : Int32)) (va_cwS 3 hts gX1_goesByRegister_X1_bits rfl rfl rfl (by decide +kernel) ⟨Nat.le_of_ble_eq_true rfl, Nat.le_of_ble_eq_true rfl⟩) ⟨fb_pure, fun U hU hW => ⟨rfl, congrArg Array.size hU⟩⟩ rfl rfl hl.1 rfl (lv_room (Nat.le_of_ble_eq_true rfl)) dX1_goesByRegister_25 ⟨Nat.zero_le _, Nat.zero_le _⟩) hS (fun q _ h => Nat.le_trans hS.1 h) (fun q h => Nat.le_trans hS.1 h) (fun r_5 _ _ H_5 _ _ _ hw _ _ _ hS => ?_)
      subst hw
      refine lv_bipush (v := 31) hx hb dX1_goesByRegister_28 (by decide) ?_
      refine lv_icmp_eq (tgt := 35) hx hb dX1_goesByRegister_30 (by decide) (fun c_6 => ?_) (fun c_6 => ?_)
      · -- taken
        refine lv_iload_n hx hb dX1_goesByRegister_35 rfl (lv_at hl 0 rfl) ?_
        refine lv_bipush (v := 21) hx hb dX1_goesByRegister_36 (by decide) ?_
        refine lv_bipush (v := 23) hx hb dX1_goesByRegister_38 (by decide) ?_
        refine va_calli (va_runS (As := [.int p0, .int (21 : Int32), .int (23 : Int32)]) (rest := []) ⟨hx, hb, hml, hown, hts⟩ (mX1_bits l H_5.size p0 (21 : Int32) (23 : Int32)) (va_cwS 3 hts gX1_goesByRegister_X1_bits rfl rfl rfl (by decide +kernel) ⟨Nat.le_of_ble_eq_true rfl, Nat.le_of_ble_eq_true rfl⟩) ⟨fb_pure, fun U hU hW => ⟨rfl, congrArg Array.size hU⟩⟩ rfl rfl hl.1 rfl (lv_room (Nat.le_of_ble_eq_true rfl)) dX1_goesByRegister_40 ⟨Nat.zero_le _, Nat.zero_le _⟩) hS (fun q _ h => Nat.le_trans hS.1 h) (fun q h => Nat.le_trans hS.1 h) (fun r_7 _ _ H_7 _ _ _ hw _ _ _ hS => ?_)
        subst hw
        refine lv_istore_n (lv' := [(1, .int (fX1_bits p0 (21 : Int32) (23 : Int32))), (0, .int p0)]) hx hb dX1_goesByRegister_43 rfl hl (by decide) rfl (fun ls hl => ?_)
        refine lv_iload_n hx hb dX1_goesByRegister_44 rfl (lv_at hl 0 rfl) ?_
        refine lv_iconst (v := 3) hx hb dX1_goesByRegister_45 (by decide) ?_
        refine lv_icmp_ge (tgt := 56) hx hb dX1_goesByRegister_46 (by decide) (fun c_8 => ?_) (fun c_8 => ?_)
        · -- taken
          refine lv_iconst (v := 0) hx hb dX1_goesByRegister_56 (by decide) ?_
          exact W.iret (v := (0 : Int32)) hx hb hr (fun t ht hW => ⟨⟨(0 : Int32), (), rfl, by rw [fX1_goesByRegister, if_neg c_2, if_neg c_4, if_pos c_6, if_pos c_8], trivial⟩, hS.F ht⟩) hS.2.2 dX1_goesByRegister_57
        · -- not taken
          refine lv_bipush (v := 17) hx hb dX1_goesByRegister_49 (by decide) ?_
          refine lv_iload_n hx hb dX1_goesByRegister_51 rfl (lv_at hl 0 rfl) ?_
          refine lv_iadd hx hb dX1_goesByRegister_52 ?_
          refine lv_goto (tgt := 57) hx hb dX1_goesByRegister_53 (by decide) ?_
          exact W.iret (v := ((17 : Int32) + (fX1_bits p0 (21 : Int32) (23 : Int32)))) hx hb hr (fun t ht hW => ⟨⟨((17 : Int32) + (fX1_bits p0 (21 : Int32) (23 : Int32))), (), rfl, by rw [fX1_goesByRegister, if_neg c_2, if_neg c_4, if_pos c_6, if_neg c_8], trivial⟩, hS.F ht⟩) hS.2.2 dX1_goesByRegister_57
      · -- not taken
        refine lv_iconst (v := 0) hx hb dX1_goesByRegister_33 (by decide) ?_
        exact W.iret (v := (0 : Int32)) hx hb hr (fun t ht hW => ⟨⟨(0 : Int32), (), rfl, by rw [fX1_goesByRegister, if_neg c_2, if_neg c_4, if_neg c_6], trivial⟩, hS.F ht⟩) hS.2.2 dX1_goesByRegister_34
set_option maxHeartbeats 4000000 in
set_option maxRecDepth 100000 in
theorem mX1_jumps (l : Launch) (sz : Nat) (h0 : Nat) (p0 : Int32) : Met l yX1_jumps wsX1_jumps ({ frames := 2, cells := 0, slots := 0, locals := 43 }) (va_Pc [.ref h0, .int p0] (fun U => U.heap.size = sz ∧ wv_rcv RX1 h0 U)) (va_Qi (fun (r : Int32) (_ : Unit) => r = fX1_jumps p0) (fun _ _ => True) (fun q : Nat => sz ≤ q)) 0 0 (fun q : Nat => sz ≤ q) := by
  refine Met.ofW (cc := cX1_jumps) (maxL := 4) (ret := (some .int)) (by decide) rfl ?_
  intro p e s m args below meth c s₁ B hml hv
  obtain ⟨rfl, hsz, hww⟩ := hv
  have hx := B.exec
  have hb := B.bytes
  have hr := B.returns
  have hts := atoms_spec (ws := wsX1_jumps) B.pre
  have hown : s.vm.findClass RX1 = some m.cls := findClass_of_methodNamed B.named
  have hlocks := B.notSynchronized
  subst hsz
  have hS : va_S (fun q : Nat => s.heap.size ≤ q) s.heap s.heap [] := va_S.rf
  have hl := lv_entry ([.ref h0, .int p0]) (n := 4) (Nat.le_of_ble_eq_true rfl)
  rw [lg_entry_eq]
  generalize (lg_sl ([.ref h0, .int p0]) ++ List.replicate (4 - (lg_sl ([.ref h0, .int p0])).length) Slot.unset).toArray = ls at hl ⊢
  have hl : lv_has ls 4 [(0, .ref h0), (1, .int p0)] := hl
  refine lv_iload_n hx hb dX1_jumps_0 rfl (lv_at hl 1 rfl) ?_
  refine lv_bipush (v := 26) hx hb dX1_jumps_1 (by decide) ?_
  refine lv_bipush (v := 31) hx hb dX1_jumps_3 (by decide) ?_
  refine va_calli (va_runS (As := [.int p0, .int (26 : Int32), .int (31 : Int32)]) (rest := []) ⟨hx, hb, hml, hown, hts⟩ (mX1_bits l s.heap.size p0 (26 : Int32) (31 : Int32)) (va_cwS 3 hts gX1_jumps_X1_bits rfl rfl rfl (by decide +kernel) ⟨Nat.le_of_ble_eq_true rfl, Nat.le_of_ble_eq_true rfl⟩) ⟨fb_pure, fun U hU hW => ⟨rfl, congrArg Array.size hU⟩⟩ rfl rfl hl.1 rfl (lv_room (Nat.le_of_ble_eq_true rfl)) dX1_jumps_5 ⟨Nat.zero_le _, Nat.zero_le _⟩) hS (fun q _ h => Nat.le_trans hS.1 h) (fun q h => Nat.le_trans hS.1 h) (fun r_1 _ _ H_1 _ _ _ hw _ _ _ hS => ?_)
  subst hw
  refine lv_istore_n (lv' := [(2, .int (fX1_bits p0 (26 : Int32) (31 : Int32))), (0, .ref h0), (1, .int p0)]) hx hb dX1_jumps_8 rfl hl (by decide) rfl (fun ls hl => ?_)
  refine lv_iload_n hx hb dX1_jumps_9 rfl (lv_at hl 0 rfl) ?_
  refine lv_iconst (v := 5) hx hb dX1_jumps_10 (by decide) ?_
  refine lv_icmp_ne (tgt := 17) hx hb dX1_jumps_11 (by decide) (fun c_2 => ?_) (fun c_2 => ?_)
  · -- taken
    refine lv_iload_n hx hb dX1_jumps_17 rfl (lv_at hl 0 rfl) ?_
    refine lv_bipush (v := 37) hx hb dX1_jumps_18 (by decide) ?_
    refine lv_icmp_ne (tgt := 26) hx hb dX1_jumps_20 (by decide) (fun c_3 => ?_) (fun c_3 => ?_)
    · -- taken
      refine lv_iload_n hx hb dX1_jumps_26 rfl (lv_at hl 2 rfl) ?_
      refine lv_bipush (v := 24) hx hb dX1_jumps_27 (by decide) ?_
      refine lv_bipush (v := 31) hx hb dX1_jumps_29 (by decide) ?_
      refine va_calli (va_runS (As := [.int p0, .int (24 : Int32), .int (31 : Int32)]) (rest := []) ⟨hx, hb, hml, hown, hts⟩ (mX1_bits l H_1.size p0 (24 : Int32) (31 : Int32)) (va_cwS 3 hts gX1_jumps_X1_bits rfl rfl rfl (by decide +kernel) ⟨Nat.le_of_ble_eq_true rfl, Nat.le_of_ble_eq_true rfl⟩) ⟨fb_pure, fun U hU hW => ⟨rfl, congrArg Array.size hU⟩⟩ rfl rfl hl.1 rfl (lv_room (Nat.le_of_ble_eq_true rfl)) dX1_jumps_31 ⟨Nat.zero_le _, Nat.zero_le _⟩) hS (fun q _ h => Nat.le_trans hS.1 h) (fun q h => Nat.le_trans hS.1 h) (fun r_4 _ _ H_4 _ _ _ hw _ _ _ hS => ?_)
      subst hw
      refine lv_bipush (v := 84) hx hb dX1_jumps_34 (by decide) ?_
      refine lv_icmp_ne (tgt := 66) hx hb dX1_jumps_36 (by decide) (fun c_5 => ?_) (fun c_5 => ?_)
      · -- taken
        refine lv_iload_n hx hb dX1_jumps_66 rfl (lv_at hl 2 rfl) ?_
        refine lv_bipush (v := 25) hx hb dX1_jumps_67 (by decide) ?_
        refine lv_bipush (v := 30) hx hb dX1_jumps_69 (by decide) ?_
        refine va_calli (va_runS (As := [.int p0, .int (25 : Int32), .int (30 : Int32)]) (rest := []) ⟨hx, hb, hml, hown, hts⟩ (mX1_bits l H_4.size p0 (25 : Int32) (30 : Int32)) (va_cwS 3 hts gX1_jumps_X1_bits rfl rfl rfl (by decide +kernel) ⟨Nat.le_of_ble_eq_true rfl, Nat.le_of_ble_eq_true rfl⟩) ⟨fb_pure, fun U hU hW => ⟨rfl, congrArg Array.size hU⟩⟩ rfl rfl hl.1 rfl (lv_room (Nat.le_of_ble_eq_true rfl)) dX1_jumps_71 ⟨Nat.zero_le _, Nat.zero_le _⟩) hS (fun q _ h => Nat.le_trans hS.1 h) (fun q h => Nat.le_trans hS.1 h) (fun r_6 _ _ H_6 _ _ _ hw _ _ _ hS => ?_)
        subst hw
        refine lv_istore_n (lv' := [(3, .int (fX1_bits p0 (25 : Int32) (30 : Int32))), (2, .int (fX1_bits p0 (26 : Int32) (31 : Int32))), (0, .ref h0), (1, .int p0)]) hx hb dX1_jumps_74 rfl hl (by decide) rfl (fun ls hl => ?_)
        refine lv_iload_n hx hb dX1_jumps_75 rfl (lv_at hl 0 rfl) ?_
        refine lv_bipush (v := 26) hx hb dX1_jumps_76 (by decide) ?_
        refine lv_icmp_ne (tgt := 84) hx hb dX1_jumps_78 (by decide) (fun c_7 => ?_) (fun c_7 => ?_)
        · -- taken
          refine lv_iload_n hx hb dX1_jumps_84 rfl (lv_at hl 0 rfl) ?_
          refine lv_bipush (v := 27) hx hb dX1_jumps_85 (by decide) ?_
          refine lv_icmp_ne (tgt := 93) hx hb dX1_jumps_87 (by decide) (fun c_8 => ?_) (fun c_8 => ?_)
          · -- taken
            refine lv_iload_n hx hb dX1_jumps_93 rfl (lv_at hl 3 rfl) ?_
            refine lv_bipush (v := 24) hx hb dX1_jumps_94 (by decide) ?_
            refine lv_bipush (v := 31) hx hb dX1_jumps_96 (by decide) ?_
            refine va_calli (va_runS (As := [.int p0, .int (24 : Int32), .int (31 : Int32)]) (rest := []) ⟨hx, hb, hml, hown, hts⟩ (mX1_bits l H_6.size p0 (24 : Int32) (31 : Int32)) (va_cwS 3 hts gX1_jumps_X1_bits rfl rfl rfl (by decide +kernel) ⟨Nat.le_of_ble_eq_true rfl, Nat.le_of_ble_eq_true rfl⟩) ⟨fb_pure, fun U hU hW => ⟨rfl, congrArg Array.size hU⟩⟩ rfl rfl hl.1 rfl (lv_room (Nat.le_of_ble_eq_true rfl)) dX1_jumps_98 ⟨Nat.zero_le _, Nat.zero_le _⟩) hS (fun q _ h => Nat.le_trans hS.1 h) (fun q h => Nat.le_trans hS.1 h) (fun r_9 _ _ H_9 _ _ _ hw _ _ _ hS => ?_)
            subst hw
            refine lv_sipush (v := 214) hx hb dX1_jumps_101 (by decide) ?_
            refine lv_icmp_ne (tgt := 112) hx hb dX1_jumps_104 (by decide) (fun c_10 => ?_) (fun c_10 => ?_)
            · -- taken
              refine lv_iload_n hx hb dX1_jumps_112 rfl (lv_at hl 3 rfl) ?_
              refine lv_bipush (v := 21) hx hb dX1_jumps_113 (by decide) ?_
              refine lv_bipush (v := 31) hx hb dX1_jumps_115 (by decide) ?_
              refine va_calli (va_runS (As := [.int p0, .int (21 : Int32), .int (31 : Int32)]) (rest := []) ⟨hx, hb, hml, hown, hts⟩ (mX1_bits l H_9.size p0 (21 : Int32) (31 : Int32)) (va_cwS 3 hts gX1_jumps_X1_bits rfl rfl rfl (by decide +kernel) ⟨Nat.le_of_ble_eq_true rfl, Nat.le_of_ble_eq_true rfl⟩) ⟨fb_pure, fun U hU hW => ⟨rfl, congrArg Array.size hU⟩⟩ rfl rfl hl.1 rfl (lv_room (Nat.le_of_ble_eq_true rfl)) dX1_jumps_117 ⟨Nat.zero_le _, Nat.zero_le _⟩) hS (fun q _ h => Nat.le_trans hS.1 h) (fun q h => Nat.le_trans hS.1 h) (fun r_11 _ _ H_11 _ _ _ hw _ _ _ hS => ?_)
              subst hw
              refine lv_sipush (v := 1696) hx hb dX1_jumps_120 (by decide) ?_
              refine lv_icmp_ne (tgt := 139) hx hb dX1_jumps_123 (by decide) (fun c_12 => ?_) (fun c_12 => ?_)
              · -- taken
                refine lv_iload_n hx hb dX1_jumps_139 rfl (lv_at hl 3 rfl) ?_
                refine lv_ldc hx hb hown (hts (.constant RX1 36 (-721215457)) (by decide +kernel)) dX1_jumps_140 ?_
                refine lv_icmp_ne (tgt := 150) hx hb dX1_jumps_142 (by decide) (fun c_13 => ?_) (fun c_13 => ?_)
                · -- taken
                  refine lv_iconst (v := 0) hx hb dX1_jumps_150 (by decide) ?_
                  exact W.iret (v := (0 : Int32)) hx hb hr (fun t ht hW => ⟨⟨(0 : Int32), (), rfl, by rw [fX1_jumps, if_neg c_2, if_neg c_3, if_neg c_5, if_neg c_7, if_neg c_8, if_neg c_10, if_neg c_12, if_neg c_13], trivial⟩, hS.F ht⟩) hS.2.2 dX1_jumps_151
                · -- not taken
                  refine lv_bipush (v := 21) hx hb dX1_jumps_145 (by decide) ?_
                  refine lv_goto (tgt := 151) hx hb dX1_jumps_147 (by decide) ?_
                  exact W.iret (v := (21 : Int32)) hx hb hr (fun t ht hW => ⟨⟨(21 : Int32), (), rfl, by rw [fX1_jumps, if_neg c_2, if_neg c_3, if_neg c_5, if_neg c_7, if_neg c_8, if_neg c_10, if_neg c_12, if_pos c_13], trivial⟩, hS.F ht⟩) hS.2.2 dX1_jumps_151
              · -- not taken
                refine lv_iload_n hx hb dX1_jumps_126 rfl (lv_at hl 3 rfl) ?_
                refine lv_iconst (v := 0) hx hb dX1_jumps_127 (by decide) ?_
                refine lv_iconst (v := 4) hx hb dX1_jumps_128 (by decide) ?_
                refine va_calli (va_runS (As := [.int p0, .int (0 : Int32), .int (4 : Int32)]) (rest := []) ⟨hx, hb, hml, hown, hts⟩ (mX1_bits l H_11.size p0 (0 : Int32) (4 : Int32)) (va_cwS 3 hts gX1_jumps_X1_bits rfl rfl rfl (by decide +kernel) ⟨Nat.le_of_ble_eq_true rfl, Nat.le_of_ble_eq_true rfl⟩) ⟨fb_pure, fun U hU hW => ⟨rfl, congrArg Array.size hU⟩⟩ rfl rfl hl.1 rfl (lv_room (Nat.le_of_ble_eq_true rfl)) dX1_jumps_129 ⟨Nat.zero_le _, Nat.zero_le _⟩) hS (fun q _ h => Nat.le_trans hS.1 h) (fun q h => Nat.le_trans hS.1 h) (fun r_14 _ _ H_14 _ _ _ hw _ _ _ hS => ?_)
                subst hw
                refine lv_iconst (v := 1) hx hb dX1_jumps_132 (by decide) ?_
                refine lv_icmp_ne (tgt := 139) hx hb dX1_jumps_133 (by decide) (fun c_15 => ?_) (fun c_15 => ?_)
                · -- taken
                  refine lv_iload_n hx hb dX1_jumps_139 rfl (lv_at hl 3 rfl) ?_
                  refine lv_ldc hx hb hown (hts (.constant RX1 36 (-721215457)) (by decide +kernel)) dX1_jumps_140 ?_
                  refine lv_icmp_ne (tgt := 150) hx hb dX1_jumps_142 (by decide) (fun c_16 => ?_) (fun c_16 => ?_)
                  · -- taken
                    refine lv_iconst (v := 0) hx hb dX1_jumps_150 (by decide) ?_
                    exact W.iret (v := (0 : Int32)) hx hb hr (fun t ht hW => ⟨⟨(0 : Int32), (), rfl, by rw [fX1_jumps, if_neg c_2, if_neg c_3, if_neg c_5, if_neg c_7, if_neg c_8, if_neg c_10, if_pos c_12, if_neg c_15, if_neg c_16], trivial⟩, hS.F ht⟩) hS.2.2 dX1_jumps_151
                  · -- not taken
                    refine lv_bipush (v := 21) hx hb dX1_jumps_145 (by decide) ?_
                    refine lv_goto (tgt := 151) hx hb dX1_jumps_147 (by decide) ?_
                    exact W.iret (v := (21 : Int32)) hx hb hr (fun t ht hW => ⟨⟨(21 : Int32), (), rfl, by rw [fX1_jumps, if_neg c_2, if_neg c_3, if_neg c_5, if_neg c_7, if_neg c_8, if_neg c_10, if_pos c_12, if_neg c_15, if_pos c_16], trivial⟩, hS.F ht⟩) hS.2.2 dX1_jumps_151
                · -- not taken
                  refine lv_bipush (v := 20) hx hb dX1_jumps_136 (by decide) ?_
                  exact W.iret (v := (20 : Int32)) hx hb hr (fun t ht hW => ⟨⟨(20 : Int32), (), rfl, by rw [fX1_jumps, if_neg c_2, if_neg c_3, if_neg c_5, if_neg c_7, if_neg c_8, if_neg c_10, if_pos c_12, if_pos c_15], trivial⟩, hS.F ht⟩) hS.2.2 dX1_jumps_138
            · -- not taken
              refine lv_iload_n hx hb dX1_jumps_107 rfl (lv_at hl 3 rfl) ?_
              refine va_calli (va_runS (As := [.int p0]) (rest := []) ⟨hx, hb, hml, hown, hts⟩ (mX1_goesByRegister l H_9.size p0) (va_cwS 1 hts gX1_jumps_X1_goesByRegister rfl rfl rfl (by decide +kernel) ⟨Nat.le_of_ble_eq_true rfl, Nat.le_of_ble_eq_true rfl⟩) ⟨fb_pure, fun U hU hW => ⟨rfl, congrArg Array.size hU⟩⟩ rfl rfl hl.1 rfl (lv_room (Nat.le_of_ble_eq_true rfl)) dX1_jumps_108 ⟨Nat.zero_le _, Nat.zero_le _⟩) hS (fun q _ h => Nat.le_trans hS.1 h) (fun q h => Nat.le_trans hS.1 h) (fun r_17 _ _ H_17 _ _ _ hw _ _ _ hS => ?_)
              subst hw
              exact W.iret (v := (fX1_goesByRegister p0)) hx hb hr (fun t ht hW => ⟨⟨(fX1_goesByRegister p0), (), rfl, by rw [fX1_jumps, if_neg c_2, if_neg c_3, if_neg c_5, if_neg c_7, if_neg c_8, if_pos c_10], trivial⟩, hS.F ht⟩) hS.2.2 dX1_jumps_111
          · -- not taken
            refine lv_bipush (v := 16) hx hb dX1_jumps_90 (by decide) ?_
            exact W.iret (v := (16 : Int32)) hx hb hr (fun t ht hW => ⟨⟨(16 : Int32), (), rfl, by rw [fX1_jumps, if_neg c_2, if_neg c_3, if_neg c_5, if_neg c_7, if_pos c_8], trivial⟩, hS.F ht⟩) hS.2.2 dX1_jumps_92
        · -- not taken
          refine lv_bipush (v := 15) hx hb dX1_jumps_81 (by decide) ?_
          exact W.iret (v := (15 : Int32)) hx hb hr (fun t ht hW => ⟨⟨(15 : Int32), (), rfl, by rw [fX1_jumps, if_neg c_2, if_neg c_3, if_neg c_5, if_pos c_7], trivial⟩, hS.F ht⟩) hS.2.2 dX1_jumps_83
      · -- not taken
        refine lv_iload_n hx hb dX1_jumps_39 rfl (lv_at hl 2 rfl) ?_
        refine lv_iconst (v := 4) hx hb dX1_jumps_40 (by decide) ?_
        refine lv_iconst (v := 4) hx hb dX1_jumps_41 (by decide) ?_
        refine va_calli (va_runS (As := [.int p0, .int (4 : Int32), .int (4 : Int32)]) (rest := []) ⟨hx, hb, hml, hown, hts⟩ (mX1_bits l H_4.size p0 (4 : Int32) (4 : Int32)) (va_cwS 3 hts gX1_jumps_X1_bits rfl rfl rfl (by decide +kernel) ⟨Nat.le_of_ble_eq_true rfl, Nat.le_of_ble_eq_true rfl⟩) ⟨fb_pure, fun U hU hW => ⟨rfl, congrArg Array.size hU⟩⟩ rfl rfl hl.1 rfl (lv_room (Nat.le_of_ble_eq_true rfl)) dX1_jumps_42 ⟨Nat.zero_le _, Nat.zero_le _⟩) hS (fun q _ h => Nat.le_trans hS.1 h) (fun q h => Nat.le_trans hS.1 h) (fun r_18 _ _ H_18 _ _ _ hw _ _ _ hS => ?_)
        subst hw
        refine lv_if_ne (tgt := 64) hx hb dX1_jumps_45 (by decide) (fun c_19 => ?_) (fun c_19 => ?_)
        · -- taken
          refine lv_iconst (v := 0) hx hb dX1_jumps_64 (by decide) ?_
          exact W.iret (v := (0 : Int32)) hx hb hr (fun t ht hW => ⟨⟨(0 : Int32), (), rfl, by rw [fX1_jumps, if_neg c_2, if_neg c_3, if_pos c_5, if_neg c_19], trivial⟩, hS.F ht⟩) hS.2.2 dX1_jumps_65
        · -- not taken
          refine lv_iload_n hx hb dX1_jumps_48 rfl (lv_at hl 2 rfl) ?_
          refine lv_iconst (v := 0) hx hb dX1_jumps_49 (by decide) ?_
          refine lv_iconst (v := 3) hx hb dX1_jumps_50 (by decide) ?_
          refine va_calli (va_runS (As := [.int p0, .int (0 : Int32), .int (3 : Int32)]) (rest := []) ⟨hx, hb, hml, hown, hts⟩ (mX1_bits l H_18.size p0 (0 : Int32) (3 : Int32)) (va_cwS 3 hts gX1_jumps_X1_bits rfl rfl rfl (by decide +kernel) ⟨Nat.le_of_ble_eq_true rfl, Nat.le_of_ble_eq_true rfl⟩) ⟨fb_pure, fun U hU hW => ⟨rfl, congrArg Array.size hU⟩⟩ rfl rfl hl.1 rfl (lv_room (Nat.le_of_ble_eq_true rfl)) dX1_jumps_51 ⟨Nat.zero_le _, Nat.zero_le _⟩) hS (fun q _ h => Nat.le_trans hS.1 h) (fun q h => Nat.le_trans hS.1 h) (fun r_20 _ _ H_20 _ _ _ hw _ _ _ hS => ?_)
          subst hw
          refine lv_bipush (v := 14) hx hb dX1_jumps_54 (by decide) ?_
          refine lv_icmp_ge (tgt := 64) hx hb dX1_jumps_56 (by decide) (fun c_21 => ?_) (fun c_21 => ?_)
          · -- taken
            refine lv_iconst (v := 0) hx hb dX1_jumps_64 (by decide) ?_
            exact W.iret (v := (0 : Int32)) hx hb hr (fun t ht hW => ⟨⟨(0 : Int32), (), rfl, by rw [fX1_jumps, if_neg c_2, if_neg c_3, if_pos c_5, if_pos c_19, if_pos c_21], trivial⟩, hS.F ht⟩) hS.2.2 dX1_jumps_65
          · -- not taken
            refine lv_bipush (v := 14) hx hb dX1_jumps_59 (by decide) ?_
            refine lv_goto (tgt := 65) hx hb dX1_jumps_61 (by decide) ?_
            exact W.iret (v := (14 : Int32)) hx hb hr (fun t ht hW => ⟨⟨(14 : Int32), (), rfl, by rw [fX1_jumps, if_neg c_2, if_neg c_3, if_pos c_5, if_pos c_19, if_neg c_21], trivial⟩, hS.F ht⟩) hS.2.2 dX1_jumps_65
    · -- not taken
      refine lv_bipush (v := 13) hx hb dX1_jumps_23 (by decide) ?_
      exact W.iret (v := (13 : Int32)) hx hb hr (fun t ht hW => ⟨⟨(13 : Int32), (), rfl, by rw [fX1_jumps, if_neg c_2, if_pos c_3], trivial⟩, hS.F ht⟩) hS.2.2 dX1_jumps_25
  · -- not taken
    refine lv_bipush (v := 12) hx hb dX1_jumps_14 (by decide) ?_
    exact W.iret (v := (12 : Int32)) hx hb hr (fun t ht hW => ⟨⟨(12 : Int32), (), rfl, by rw [fX1_jumps, if_pos c_2], trivial⟩, hS.F ht⟩) hS.2.2 dX1_jumps_16
set_option maxHeartbeats 4000000 in
set_option maxRecDepth 100000 in
theorem mX1_kind (l : Launch) (sz : Nat) (h0 : Nat) (p0 : Int32) : Met l yX1_kind wsX1_kind ({ frames := 3, cells := 0, slots := 0, locals := 66 }) (va_Pc [.ref h0, .int p0] (fun U => U.heap.size = sz ∧ wv_rcv RX1 h0 U)) (va_Qi (fun (r : Int32) (_ : Unit) => r = fX1_kind p0) (fun _ _ => True) (fun q : Nat => sz ≤ q)) 0 0 (fun q : Nat => sz ≤ q) := by
  refine Met.ofW (cc := cX1_kind) (maxL := 3) (ret := (some .int)) (by decide) rfl ?_
  intro p e s m args below meth c s₁ B hml hv
  obtain ⟨rfl, hsz, hww⟩ := hv
  have hx := B.exec
  have hb := B.bytes
  have hr := B.returns
  have hts := atoms_spec (ws := wsX1_kind) B.pre
  have hown : s.vm.findClass RX1 = some m.cls := findClass_of_methodNamed B.named
  have hlocks := B.notSynchronized
  subst hsz
  have hS : va_S (fun q : Nat => s.heap.size ≤ q) s.heap s.heap [] := va_S.rf
  have hl := lv_entry ([.ref h0, .int p0]) (n := 3) (Nat.le_of_ble_eq_true rfl)
  rw [lg_entry_eq]
  generalize (lg_sl ([.ref h0, .int p0]) ++ List.replicate (3 - (lg_sl ([.ref h0, .int p0])).length) Slot.unset).toArray = ls at hl ⊢
  have hl : lv_has ls 3 [(0, .ref h0), (1, .int p0)] := hl
  refine lv_iload_n hx hb dX1_kind_0 rfl (lv_at hl 1 rfl) ?_
  refine lv_bipush (v := 24) hx hb dX1_kind_1 (by decide) ?_
  refine lv_bipush (v := 28) hx hb dX1_kind_3 (by decide) ?_
  refine va_calli (va_runS (As := [.int p0, .int (24 : Int32), .int (28 : Int32)]) (rest := []) ⟨hx, hb, hml, hown, hts⟩ (mX1_bits l s.heap.size p0 (24 : Int32) (28 : Int32)) (va_cwS 3 hts gX1_kind_X1_bits rfl rfl rfl (by decide +kernel) ⟨Nat.le_of_ble_eq_true rfl, Nat.le_of_ble_eq_true rfl⟩) ⟨fb_pure, fun U hU hW => ⟨rfl, congrArg Array.size hU⟩⟩ rfl rfl hl.1 rfl (lv_room (Nat.le_of_ble_eq_true rfl)) dX1_kind_5 ⟨Nat.zero_le _, Nat.zero_le _⟩) hS (fun q _ h => Nat.le_trans hS.1 h) (fun q h => Nat.le_trans hS.1 h) (fun r_1 _ _ H_1 _ _ _ hw _ _ _ hS => ?_)
  subst hw
  refine lv_istore_n (lv' := [(2, .int (fX1_bits p0 (24 : Int32) (28 : Int32))), (0, .ref h0), (1, .int p0)]) hx hb dX1_kind_8 rfl hl (by decide) rfl (fun ls hl => ?_)
  refine lv_iload_n hx hb dX1_kind_9 rfl (lv_at hl 0 rfl) ?_
  by_cases c_2 : (fX1_bits p0 (24 : Int32) (28 : Int32)) = (8 : Int32)
  · refine lv_tableIn (off := 323) (tgt := 333) hx hb dX1_kind_10 (by rw [c_2]; decide) (by rw [c_2]; decide) (by rw [c_2]; decide) (by decide) ?_
    refine lv_iload_n hx hb dX1_kind_333 rfl (lv_at hl 2 rfl) ?_
    refine lv_bipush (v := 25) hx hb dX1_kind_334 (by decide) ?_
    refine lv_bipush (v := 31) hx hb dX1_kind_336 (by decide) ?_
    refine va_calli (va_runS (As := [.int p0, .int (25 : Int32), .int (31 : Int32)]) (rest := []) ⟨hx, hb, hml, hown, hts⟩ (mX1_bits l H_1.size p0 (25 : Int32) (31 : Int32)) (va_cwS 3 hts gX1_kind_X1_bits rfl rfl rfl (by decide +kernel) ⟨Nat.le_of_ble_eq_true rfl, Nat.le_of_ble_eq_true rfl⟩) ⟨fb_pure, fun U hU hW => ⟨rfl, congrArg Array.size hU⟩⟩ rfl rfl hl.1 rfl (lv_room (Nat.le_of_ble_eq_true rfl)) dX1_kind_338 ⟨Nat.zero_le _, Nat.zero_le _⟩) hS (fun q _ h => Nat.le_trans hS.1 h) (fun q h => Nat.le_trans hS.1 h) (fun r_3 _ _ H_3 _ _ _ hw _ _ _ hS => ?_)
    subst hw
    refine lv_bipush (v := 84) hx hb dX1_kind_341 (by decide) ?_
    refine lv_icmp_ne (tgt := 358) hx hb dX1_kind_343 (by decide) (fun c_4 => ?_) (fun c_4 => ?_)
    · -- taken
      refine lv_iconst (v := 0) hx hb dX1_kind_358 (by decide) ?_
      exact W.iret (v := (0 : Int32)) hx hb hr (fun t ht hW => ⟨⟨(0 : Int32), (), rfl, by rw [fX1_kind, if_pos c_2, if_neg c_4], trivial⟩, hS.F ht⟩) hS.2.2 dX1_kind_359
    · -- not taken
      refine lv_iload_n hx hb dX1_kind_346 rfl (lv_at hl 2 rfl) ?_
      refine va_calli (va_runS (As := [.int p0]) (rest := []) ⟨hx, hb, hml, hown, hts⟩ (mX1_isPair l H_3.size p0) (va_cwS 1 hts gX1_kind_X1_isPair rfl rfl rfl (by decide +kernel) ⟨Nat.le_of_ble_eq_true rfl, Nat.le_of_ble_eq_true rfl⟩) ⟨fb_pure, fun U hU hW => ⟨rfl, congrArg Array.size hU⟩⟩ rfl rfl hl.1 rfl (lv_room (Nat.le_of_ble_eq_true rfl)) dX1_kind_347 ⟨Nat.zero_le _, Nat.zero_le _⟩) hS (fun q _ h => Nat.le_trans hS.1 h) (fun q h => Nat.le_trans hS.1 h) (fun r_5 _ _ H_5 _ _ _ hw _ _ _ hS => ?_)
      subst hw
      refine lv_if_eq (tgt := 358) hx hb dX1_kind_350 (by decide) (fun c_6 => ?_) (fun c_6 => ?_)
      · -- taken
        refine lv_iconst (v := 0) hx hb dX1_kind_358 (by decide) ?_
        exact W.iret (v := (0 : Int32)) hx hb hr (fun t ht hW => ⟨⟨(0 : Int32), (), rfl, by rw [fX1_kind, if_pos c_2, if_pos c_4, if_pos c_6], trivial⟩, hS.F ht⟩) hS.2.2 dX1_kind_359
      · -- not taken
        refine lv_bipush (v := 11) hx hb dX1_kind_353 (by decide) ?_
        refine lv_goto (tgt := 359) hx hb dX1_kind_355 (by decide) ?_
        exact W.iret (v := (11 : Int32)) hx hb hr (fun t ht hW => ⟨⟨(11 : Int32), (), rfl, by rw [fX1_kind, if_pos c_2, if_pos c_4, if_neg c_6], trivial⟩, hS.F ht⟩) hS.2.2 dX1_kind_359
  · -- another
    by_cases c_7 : (fX1_bits p0 (24 : Int32) (28 : Int32)) = (9 : Int32)
    · refine lv_tableIn (off := 323) (tgt := 333) hx hb dX1_kind_10 (by rw [c_7]; decide) (by rw [c_7]; decide) (by rw [c_7]; decide) (by decide) ?_
      refine lv_iload_n hx hb dX1_kind_333 rfl (lv_at hl 2 rfl) ?_
      refine lv_bipush (v := 25) hx hb dX1_kind_334 (by decide) ?_
      refine lv_bipush (v := 31) hx hb dX1_kind_336 (by decide) ?_
      refine va_calli (va_runS (As := [.int p0, .int (25 : Int32), .int (31 : Int32)]) (rest := []) ⟨hx, hb, hml, hown, hts⟩ (mX1_bits l H_1.size p0 (25 : Int32) (31 : Int32)) (va_cwS 3 hts gX1_kind_X1_bits rfl rfl rfl (by decide +kernel) ⟨Nat.le_of_ble_eq_true rfl, Nat.le_of_ble_eq_true rfl⟩) ⟨fb_pure, fun U hU hW => ⟨rfl, congrArg Array.size hU⟩⟩ rfl rfl hl.1 rfl (lv_room (Nat.le_of_ble_eq_true rfl)) dX1_kind_338 ⟨Nat.zero_le _, Nat.zero_le _⟩) hS (fun q _ h => Nat.le_trans hS.1 h) (fun q h => Nat.le_trans hS.1 h) (fun r_8 _ _ H_8 _ _ _ hw _ _ _ hS => ?_)
      subst hw
      refine lv_bipush (v := 84) hx hb dX1_kind_341 (by decide) ?_
      refine lv_icmp_ne (tgt := 358) hx hb dX1_kind_343 (by decide) (fun c_9 => ?_) (fun c_9 => ?_)
      · -- taken
        refine lv_iconst (v := 0) hx hb dX1_kind_358 (by decide) ?_
        exact W.iret (v := (0 : Int32)) hx hb hr (fun t ht hW => ⟨⟨(0 : Int32), (), rfl, by rw [fX1_kind, if_neg c_2, if_pos c_7, if_neg c_9], trivial⟩, hS.F ht⟩) hS.2.2 dX1_kind_359
      · -- not taken
        refine lv_iload_n hx hb dX1_kind_346 rfl (lv_at hl 2 rfl) ?_
        refine va_calli (va_runS (As := [.int p0]) (rest := []) ⟨hx, hb, hml, hown, hts⟩ (mX1_isPair l H_8.size p0) (va_cwS 1 hts gX1_kind_X1_isPair rfl rfl rfl (by decide +kernel) ⟨Nat.le_of_ble_eq_true rfl, Nat.le_of_ble_eq_true rfl⟩) ⟨fb_pure, fun U hU hW => ⟨rfl, congrArg Array.size hU⟩⟩ rfl rfl hl.1 rfl (lv_room (Nat.le_of_ble_eq_true rfl)) dX1_kind_347 ⟨Nat.zero_le _, Nat.zero_le _⟩) hS (fun q _ h => Nat.le_trans hS.1 h) (fun q h => Nat.le_trans hS.1 h) (fun r_10 _ _ H_10 _ _ _ hw _ _ _ hS => ?_)
        subst hw
        refine lv_if_eq (tgt := 358) hx hb dX1_kind_350 (by decide) (fun c_11 => ?_) (fun c_11 => ?_)
        · -- taken
          refine lv_iconst (v := 0) hx hb dX1_kind_358 (by decide) ?_
          exact W.iret (v := (0 : Int32)) hx hb hr (fun t ht hW => ⟨⟨(0 : Int32), (), rfl, by rw [fX1_kind, if_neg c_2, if_pos c_7, if_pos c_9, if_pos c_11], trivial⟩, hS.F ht⟩) hS.2.2 dX1_kind_359
        · -- not taken
          refine lv_bipush (v := 11) hx hb dX1_kind_353 (by decide) ?_
          refine lv_goto (tgt := 359) hx hb dX1_kind_355 (by decide) ?_
          exact W.iret (v := (11 : Int32)) hx hb hr (fun t ht hW => ⟨⟨(11 : Int32), (), rfl, by rw [fX1_kind, if_neg c_2, if_pos c_7, if_pos c_9, if_neg c_11], trivial⟩, hS.F ht⟩) hS.2.2 dX1_kind_359
    · -- another
      by_cases c_12 : (fX1_bits p0 (24 : Int32) (28 : Int32)) = (10 : Int32)
      · refine lv_tableIn (off := 166) (tgt := 176) hx hb dX1_kind_10 (by rw [c_12]; decide) (by rw [c_12]; decide) (by rw [c_12]; decide) (by decide) ?_
        refine lv_iload_n hx hb dX1_kind_176 rfl (lv_at hl 2 rfl) ?_
        refine va_calli (va_runS (As := [.int p0]) (rest := []) ⟨hx, hb, hml, hown, hts⟩ (mX1_isMoved l H_1.size p0) (va_cwS 1 hts gX1_kind_X1_isMoved rfl rfl rfl (by decide +kernel) ⟨Nat.le_of_ble_eq_true rfl, Nat.le_of_ble_eq_true rfl⟩) ⟨fb_pure, fun U hU hW => ⟨rfl, congrArg Array.size hU⟩⟩ rfl rfl hl.1 rfl (lv_room (Nat.le_of_ble_eq_true rfl)) dX1_kind_177 ⟨Nat.zero_le _, Nat.zero_le _⟩) hS (fun q _ h => Nat.le_trans hS.1 h) (fun q h => Nat.le_trans hS.1 h) (fun r_13 _ _ H_13 _ _ _ hw _ _ _ hS => ?_)
        subst hw
        refine lv_if_eq (tgt := 187) hx hb dX1_kind_180 (by decide) (fun c_14 => ?_) (fun c_14 => ?_)
        · -- taken
          refine lv_iconst (v := 0) hx hb dX1_kind_187 (by decide) ?_
          exact W.iret (v := (0 : Int32)) hx hb hr (fun t ht hW => ⟨⟨(0 : Int32), (), rfl, by rw [fX1_kind, if_neg c_2, if_neg c_7, if_pos c_12, if_pos c_14], trivial⟩, hS.F ht⟩) hS.2.2 dX1_kind_188
        · -- not taken
          refine lv_iconst (v := 3) hx hb dX1_kind_183 (by decide) ?_
          refine lv_goto (tgt := 188) hx hb dX1_kind_184 (by decide) ?_
          exact W.iret (v := (3 : Int32)) hx hb hr (fun t ht hW => ⟨⟨(3 : Int32), (), rfl, by rw [fX1_kind, if_neg c_2, if_neg c_7, if_pos c_12, if_neg c_14], trivial⟩, hS.F ht⟩) hS.2.2 dX1_kind_188
      · -- another
        by_cases c_15 : (fX1_bits p0 (24 : Int32) (28 : Int32)) = (11 : Int32)
        · refine lv_tableIn (off := 179) (tgt := 189) hx hb dX1_kind_10 (by rw [c_15]; decide) (by rw [c_15]; decide) (by rw [c_15]; decide) (by decide) ?_
          refine lv_iload_n hx hb dX1_kind_189 rfl (lv_at hl 2 rfl) ?_
          refine lv_bipush (v := 21) hx hb dX1_kind_190 (by decide) ?_
          refine lv_bipush (v := 21) hx hb dX1_kind_192 (by decide) ?_
          refine va_calli (va_runS (As := [.int p0, .int (21 : Int32), .int (21 : Int32)]) (rest := []) ⟨hx, hb, hml, hown, hts⟩ (mX1_bits l H_1.size p0 (21 : Int32) (21 : Int32)) (va_cwS 3 hts gX1_kind_X1_bits rfl rfl rfl (by decide +kernel) ⟨Nat.le_of_ble_eq_true rfl, Nat.le_of_ble_eq_true rfl⟩) ⟨fb_pure, fun U hU hW => ⟨rfl, congrArg Array.size hU⟩⟩ rfl rfl hl.1 rfl (lv_room (Nat.le_of_ble_eq_true rfl)) dX1_kind_194 ⟨Nat.zero_le _, Nat.zero_le _⟩) hS (fun q _ h => Nat.le_trans hS.1 h) (fun q h => Nat.le_trans hS.1 h) (fun r_16 _ _ H_16 _ _ _ hw _ _ _ hS => ?_)
          subst hw
          refine lv_if_ne (tgt := 223) hx hb dX1_kind_197 (by decide) (fun c_17 => ?_) (fun c_17 => ?_)
          · -- taken
            refine lv_iconst (v := 0) hx hb dX1_kind_223 (by decide) ?_
            exact W.iret (v := (0 : Int32)) hx hb hr (fun t ht hW => ⟨⟨(0 : Int32), (), rfl, by rw [fX1_kind, if_neg c_2, if_neg c_7, if_neg c_12, if_pos c_15, if_neg c_17], trivial⟩, hS.F ht⟩) hS.2.2 dX1_kind_224
          · -- not taken
            refine lv_iload_n hx hb dX1_kind_200 rfl (lv_at hl 2 rfl) ?_
            refine lv_bipush (v := 22) hx hb dX1_kind_201 (by decide) ?_
            refine lv_bipush (v := 23) hx hb dX1_kind_203 (by decide) ?_
            refine va_calli (va_runS (As := [.int p0, .int (22 : Int32), .int (23 : Int32)]) (rest := []) ⟨hx, hb, hml, hown, hts⟩ (mX1_bits l H_16.size p0 (22 : Int32) (23 : Int32)) (va_cwS 3 hts gX1_kind_X1_bits rfl rfl rfl (by decide +kernel) ⟨Nat.le_of_ble_eq_true rfl, Nat.le_of_ble_eq_true rfl⟩) ⟨fb_pure, fun U hU hW => ⟨rfl, congrArg Array.size hU⟩⟩ rfl rfl hl.1 rfl (lv_room (Nat.le_of_ble_eq_true rfl)) dX1_kind_205 ⟨Nat.zero_le _, Nat.zero_le _⟩) hS (fun q _ h => Nat.le_trans hS.1 h) (fun q h => Nat.le_trans hS.1 h) (fun r_18 _ _ H_18 _ _ _ hw _ _ _ hS => ?_)
            subst hw
            refine lv_iconst (v := 3) hx hb dX1_kind_208 (by decide) ?_
            refine lv_icmp_eq (tgt := 223) hx hb dX1_kind_209 (by decide) (fun c_19 => ?_) (fun c_19 => ?_)
            · -- taken
              refine lv_iconst (v := 0) hx hb dX1_kind_223 (by decide) ?_
              exact W.iret (v := (0 : Int32)) hx hb hr (fun t ht hW => ⟨⟨(0 : Int32), (), rfl, by rw [fX1_kind, if_neg c_2, if_neg c_7, if_neg c_12, if_pos c_15, if_pos c_17, if_pos c_19], trivial⟩, hS.F ht⟩) hS.2.2 dX1_kind_224
            · -- not taken
              refine lv_iload_n hx hb dX1_kind_212 rfl (lv_at hl 2 rfl) ?_
              refine va_calli (va_runS (As := [.int p0]) (rest := []) ⟨hx, hb, hml, hown, hts⟩ (mX1_isMoved l H_18.size p0) (va_cwS 1 hts gX1_kind_X1_isMoved rfl rfl rfl (by decide +kernel) ⟨Nat.le_of_ble_eq_true rfl, Nat.le_of_ble_eq_true rfl⟩) ⟨fb_pure, fun U hU hW => ⟨rfl, congrArg Array.size hU⟩⟩ rfl rfl hl.1 rfl (lv_room (Nat.le_of_ble_eq_true rfl)) dX1_kind_213 ⟨Nat.zero_le _, Nat.zero_le _⟩) hS (fun q _ h => Nat.le_trans hS.1 h) (fun q h => Nat.le_trans hS.1 h) (fun r_20 _ _ H_20 _ _ _ hw _ _ _ hS => ?_)
              subst hw
              refine lv_if_eq (tgt := 223) hx hb dX1_kind_216 (by decide) (fun c_21 => ?_) (fun c_21 => ?_)
              · -- taken
                refine lv_iconst (v := 0) hx hb dX1_kind_223 (by decide) ?_
                exact W.iret (v := (0 : Int32)) hx hb hr (fun t ht hW => ⟨⟨(0 : Int32), (), rfl, by rw [fX1_kind, if_neg c_2, if_neg c_7, if_neg c_12, if_pos c_15, if_pos c_17, if_neg c_19, if_pos c_21], trivial⟩, hS.F ht⟩) hS.2.2 dX1_kind_224
              · -- not taken
                refine lv_iconst (v := 2) hx hb dX1_kind_219 (by decide) ?_
                refine lv_goto (tgt := 224) hx hb dX1_kind_220 (by decide) ?_
                exact W.iret (v := (2 : Int32)) hx hb hr (fun t ht hW => ⟨⟨(2 : Int32), (), rfl, by rw [fX1_kind, if_neg c_2, if_neg c_7, if_neg c_12, if_pos c_15, if_pos c_17, if_neg c_19, if_neg c_21], trivial⟩, hS.F ht⟩) hS.2.2 dX1_kind_224
        · -- another
          by_cases c_22 : (fX1_bits p0 (24 : Int32) (28 : Int32)) = (16 : Int32)
          · refine lv_tableIn (off := 94) (tgt := 104) hx hb dX1_kind_10 (by rw [c_22]; decide) (by rw [c_22]; decide) (by rw [c_22]; decide) (by decide) ?_
            refine lv_iload_n hx hb dX1_kind_104 rfl (lv_at hl 2 rfl) ?_
            refine lv_if_ge (tgt := 112) hx hb dX1_kind_105 (by decide) (fun c_23 => ?_) (fun c_23 => ?_)
            · -- taken
              refine lv_iconst (v := 0) hx hb dX1_kind_112 (by decide) ?_
              exact W.iret (v := (0 : Int32)) hx hb hr (fun t ht hW => ⟨⟨(0 : Int32), (), rfl, by rw [fX1_kind, if_neg c_2, if_neg c_7, if_neg c_12, if_neg c_15, if_pos c_22, if_pos c_23], trivial⟩, hS.F ht⟩) hS.2.2 dX1_kind_113
            · -- not taken
              refine lv_iconst (v := 5) hx hb dX1_kind_108 (by decide) ?_
              refine lv_goto (tgt := 113) hx hb dX1_kind_109 (by decide) ?_
              exact W.iret (v := (5 : Int32)) hx hb hr (fun t ht hW => ⟨⟨(5 : Int32), (), rfl, by rw [fX1_kind, if_neg c_2, if_neg c_7, if_neg c_12, if_neg c_15, if_pos c_22, if_neg c_23], trivial⟩, hS.F ht⟩) hS.2.2 dX1_kind_113
          · -- another
            by_cases c_24 : (fX1_bits p0 (24 : Int32) (28 : Int32)) = (17 : Int32)
            · refine lv_tableIn (off := 104) (tgt := 114) hx hb dX1_kind_10 (by rw [c_24]; decide) (by rw [c_24]; decide) (by rw [c_24]; decide) (by decide) ?_
              refine lv_iload_n hx hb dX1_kind_114 rfl (lv_at hl 2 rfl) ?_
              refine lv_bipush (v := 23) hx hb dX1_kind_115 (by decide) ?_
              refine lv_bipush (v := 23) hx hb dX1_kind_117 (by decide) ?_
              refine va_calli (va_runS (As := [.int p0, .int (23 : Int32), .int (23 : Int32)]) (rest := []) ⟨hx, hb, hml, hown, hts⟩ (mX1_bits l H_1.size p0 (23 : Int32) (23 : Int32)) (va_cwS 3 hts gX1_kind_X1_bits rfl rfl rfl (by decide +kernel) ⟨Nat.le_of_ble_eq_true rfl, Nat.le_of_ble_eq_true rfl⟩) ⟨fb_pure, fun U hU hW => ⟨rfl, congrArg Array.size hU⟩⟩ rfl rfl hl.1 rfl (lv_room (Nat.le_of_ble_eq_true rfl)) dX1_kind_119 ⟨Nat.zero_le _, Nat.zero_le _⟩) hS (fun q _ h => Nat.le_trans hS.1 h) (fun q h => Nat.le_trans hS.1 h) (fun r_25 _ _ H_25 _ _ _ hw _ _ _ hS => ?_)
              subst hw
              refine lv_if_ne (tgt := 129) hx hb dX1_kind_122 (by decide) (fun c_26 => ?_) (fun c_26 => ?_)
              · -- taken
                refine lv_iconst (v := 0) hx hb dX1_kind_129 (by decide) ?_
                exact W.iret (v := (0 : Int32)) hx hb hr (fun t ht hW => ⟨⟨(0 : Int32), (), rfl, by rw [fX1_kind, if_neg c_2, if_neg c_7, if_neg c_12, if_neg c_15, if_neg c_22, if_pos c_24, if_neg c_26], trivial⟩, hS.F ht⟩) hS.2.2 dX1_kind_130
              · -- not taken
                refine lv_iconst (v := 1) hx hb dX1_kind_125 (by decide) ?_
                refine lv_goto (tgt := 130) hx hb dX1_kind_126 (by decide) ?_
                exact W.iret (v := (1 : Int32)) hx hb hr (fun t ht hW => ⟨⟨(1 : Int32), (), rfl, by rw [fX1_kind, if_neg c_2, if_neg c_7, if_neg c_12, if_neg c_15, if_neg c_22, if_pos c_24, if_pos c_26], trivial⟩, hS.F ht⟩) hS.2.2 dX1_kind_130
            · -- another
              by_cases c_27 : (fX1_bits p0 (24 : Int32) (28 : Int32)) = (18 : Int32)
              · refine lv_tableIn (off := 121) (tgt := 131) hx hb dX1_kind_10 (by rw [c_27]; decide) (by rw [c_27]; decide) (by rw [c_27]; decide) (by decide) ?_
                refine lv_iload_n hx hb dX1_kind_131 rfl (lv_at hl 2 rfl) ?_
                refine lv_bipush (v := 23) hx hb dX1_kind_132 (by decide) ?_
                refine lv_bipush (v := 23) hx hb dX1_kind_134 (by decide) ?_
                refine va_calli (va_runS (As := [.int p0, .int (23 : Int32), .int (23 : Int32)]) (rest := []) ⟨hx, hb, hml, hown, hts⟩ (mX1_bits l H_1.size p0 (23 : Int32) (23 : Int32)) (va_cwS 3 hts gX1_kind_X1_bits rfl rfl rfl (by decide +kernel) ⟨Nat.le_of_ble_eq_true rfl, Nat.le_of_ble_eq_true rfl⟩) ⟨fb_pure, fun U hU hW => ⟨rfl, congrArg Array.size hU⟩⟩ rfl rfl hl.1 rfl (lv_room (Nat.le_of_ble_eq_true rfl)) dX1_kind_136 ⟨Nat.zero_le _, Nat.zero_le _⟩) hS (fun q _ h => Nat.le_trans hS.1 h) (fun q h => Nat.le_trans hS.1 h) (fun r_28 _ _ H_28 _ _ _ hw _ _ _ hS => ?_)
                subst hw
                refine lv_iconst (v := 1) hx hb dX1_kind_139 (by decide) ?_
                refine lv_icmp_ne (tgt := 174) hx hb dX1_kind_140 (by decide) (fun c_29 => ?_) (fun c_29 => ?_)
                · -- taken
                  refine lv_iconst (v := 0) hx hb dX1_kind_174 (by decide) ?_
                  exact W.iret (v := (0 : Int32)) hx hb hr (fun t ht hW => ⟨⟨(0 : Int32), (), rfl, by rw [fX1_kind, if_neg c_2, if_neg c_7, if_neg c_12, if_neg c_15, if_neg c_22, if_neg c_24, if_pos c_27, if_neg c_29], trivial⟩, hS.F ht⟩) hS.2.2 dX1_kind_175
                · -- not taken
                  refine lv_iload_n hx hb dX1_kind_143 rfl (lv_at hl 2 rfl) ?_
                  refine lv_bipush (v := 29) hx hb dX1_kind_144 (by decide) ?_
                  refine lv_bipush (v := 30) hx hb dX1_kind_146 (by decide) ?_
                  refine va_calli (va_runS (As := [.int p0, .int (29 : Int32), .int (30 : Int32)]) (rest := []) ⟨hx, hb, hml, hown, hts⟩ (mX1_bits l H_28.size p0 (29 : Int32) (30 : Int32)) (va_cwS 3 hts gX1_kind_X1_bits rfl rfl rfl (by decide +kernel) ⟨Nat.le_of_ble_eq_true rfl, Nat.le_of_ble_eq_true rfl⟩) ⟨fb_pure, fun U hU hW => ⟨rfl, congrArg Array.size hU⟩⟩ rfl rfl hl.1 rfl (lv_room (Nat.le_of_ble_eq_true rfl)) dX1_kind_148 ⟨Nat.zero_le _, Nat.zero_le _⟩) hS (fun q _ h => Nat.le_trans hS.1 h) (fun q h => Nat.le_trans hS.1 h) (fun r_30 _ _ H_30 _ _ _ hw _ _ _ hS => ?_)
                  subst hw
                  refine lv_iconst (v := 1) hx hb dX1_kind_151 (by decide) ?_
                  refine lv_icmp_eq (tgt := 174) hx hb dX1_kind_152 (by decide) (fun c_31 => ?_) (fun c_31 => ?_)
                  · -- taken
                    refine lv_iconst (v := 0) hx hb dX1_kind_174 (by decide) ?_
                    exact W.iret (v := (0 : Int32)) hx hb hr (fun t ht hW => ⟨⟨(0 : Int32), (), rfl, by rw [fX1_kind, if_neg c_2, if_neg c_7, if_neg c_12, if_neg c_15, if_neg c_22, if_neg c_24, if_pos c_27, if_pos c_29, if_pos c_31], trivial⟩, hS.F ht⟩) hS.2.2 dX1_kind_175
                  · -- not taken
                    refine lv_iload_n hx hb dX1_kind_155 rfl (lv_at hl 2 rfl) ?_
                    refine lv_if_lt (tgt := 170) hx hb dX1_kind_156 (by decide) (fun c_32 => ?_) (fun c_32 => ?_)
                    · -- taken
                      refine lv_iconst (v := 4) hx hb dX1_kind_170 (by decide) ?_
                      refine lv_goto (tgt := 175) hx hb dX1_kind_171 (by decide) ?_
                      exact W.iret (v := (4 : Int32)) hx hb hr (fun t ht hW => ⟨⟨(4 : Int32), (), rfl, by rw [fX1_kind, if_neg c_2, if_neg c_7, if_neg c_12, if_neg c_15, if_neg c_22, if_neg c_24, if_pos c_27, if_pos c_29, if_neg c_31, if_pos c_32], trivial⟩, hS.F ht⟩) hS.2.2 dX1_kind_175
                    · -- not taken
                      refine lv_iload_n hx hb dX1_kind_159 rfl (lv_at hl 2 rfl) ?_
                      refine lv_bipush (v := 22) hx hb dX1_kind_160 (by decide) ?_
                      refine lv_bipush (v := 22) hx hb dX1_kind_162 (by decide) ?_
                      refine va_calli (va_runS (As := [.int p0, .int (22 : Int32), .int (22 : Int32)]) (rest := []) ⟨hx, hb, hml, hown, hts⟩ (mX1_bits l H_30.size p0 (22 : Int32) (22 : Int32)) (va_cwS 3 hts gX1_kind_X1_bits rfl rfl rfl (by decide +kernel) ⟨Nat.le_of_ble_eq_true rfl, Nat.le_of_ble_eq_true rfl⟩) ⟨fb_pure, fun U hU hW => ⟨rfl, congrArg Array.size hU⟩⟩ rfl rfl hl.1 rfl (lv_room (Nat.le_of_ble_eq_true rfl)) dX1_kind_164 ⟨Nat.zero_le _, Nat.zero_le _⟩) hS (fun q _ h => Nat.le_trans hS.1 h) (fun q h => Nat.le_trans hS.1 h) (fun r_33 _ _ H_33 _ _ _ hw _ _ _ hS => ?_)
                      subst hw
                      refine lv_if_ne (tgt := 174) hx hb dX1_kind_167 (by decide) (fun c_34 => ?_) (fun c_34 => ?_)
                      · -- taken
                        refine lv_iconst (v := 0) hx hb dX1_kind_174 (by decide) ?_
                        exact W.iret (v := (0 : Int32)) hx hb hr (fun t ht hW => ⟨⟨(0 : Int32), (), rfl, by rw [fX1_kind, if_neg c_2, if_neg c_7, if_neg c_12, if_neg c_15, if_neg c_22, if_neg c_24, if_pos c_27, if_pos c_29, if_neg c_31, if_neg c_32, if_neg c_34], trivial⟩, hS.F ht⟩) hS.2.2 dX1_kind_175
                      · -- not taken
                        refine lv_iconst (v := 4) hx hb dX1_kind_170 (by decide) ?_
                        refine lv_goto (tgt := 175) hx hb dX1_kind_171 (by decide) ?_
                        exact W.iret (v := (4 : Int32)) hx hb hr (fun t ht hW => ⟨⟨(4 : Int32), (), rfl, by rw [fX1_kind, if_neg c_2, if_neg c_7, if_neg c_12, if_neg c_15, if_neg c_22, if_neg c_24, if_pos c_27, if_pos c_29, if_neg c_31, if_neg c_32, if_pos c_34], trivial⟩, hS.F ht⟩) hS.2.2 dX1_kind_175
              · -- another
                by_cases c_35 : (fX1_bits p0 (24 : Int32) (28 : Int32)) = (24 : Int32)
                · refine lv_tableIn (off := 264) (tgt := 274) hx hb dX1_kind_10 (by rw [c_35]; decide) (by rw [c_35]; decide) (by rw [c_35]; decide) (by decide) ?_
                  refine lv_iload_n hx hb dX1_kind_274 rfl (lv_at hl 2 rfl) ?_
                  refine lv_bipush (v := 29) hx hb dX1_kind_275 (by decide) ?_
                  refine lv_bipush (v := 29) hx hb dX1_kind_277 (by decide) ?_
                  refine va_calli (va_runS (As := [.int p0, .int (29 : Int32), .int (29 : Int32)]) (rest := []) ⟨hx, hb, hml, hown, hts⟩ (mX1_bits l H_1.size p0 (29 : Int32) (29 : Int32)) (va_cwS 3 hts gX1_kind_X1_bits rfl rfl rfl (by decide +kernel) ⟨Nat.le_of_ble_eq_true rfl, Nat.le_of_ble_eq_true rfl⟩) ⟨fb_pure, fun U hU hW => ⟨rfl, congrArg Array.size hU⟩⟩ rfl rfl hl.1 rfl (lv_room (Nat.le_of_ble_eq_true rfl)) dX1_kind_279 ⟨Nat.zero_le _, Nat.zero_le _⟩) hS (fun q _ h => Nat.le_trans hS.1 h) (fun q h => Nat.le_trans hS.1 h) (fun r_36 _ _ H_36 _ _ _ hw _ _ _ hS => ?_)
                  subst hw
                  refine lv_iconst (v := 1) hx hb dX1_kind_282 (by decide) ?_
                  refine lv_icmp_ne (tgt := 305) hx hb dX1_kind_283 (by decide) (fun c_37 => ?_) (fun c_37 => ?_)
                  · -- taken
                    refine lv_iconst (v := 0) hx hb dX1_kind_305 (by decide) ?_
                    exact W.iret (v := (0 : Int32)) hx hb hr (fun t ht hW => ⟨⟨(0 : Int32), (), rfl, by rw [fX1_kind, if_neg c_2, if_neg c_7, if_neg c_12, if_neg c_15, if_neg c_22, if_neg c_24, if_neg c_27, if_pos c_35, if_neg c_37], trivial⟩, hS.F ht⟩) hS.2.2 dX1_kind_306
                  · -- not taken
                    refine lv_iload_n hx hb dX1_kind_286 rfl (lv_at hl 2 rfl) ?_
                    refine va_calli (va_runS (As := [.int p0]) (rest := []) ⟨hx, hb, hml, hown, hts⟩ (mX1_isByRegister l H_36.size p0) (va_cwS 1 hts gX1_kind_X1_isByRegister rfl rfl rfl (by decide +kernel) ⟨Nat.le_of_ble_eq_true rfl, Nat.le_of_ble_eq_true rfl⟩) ⟨fb_pure, fun U hU hW => ⟨rfl, congrArg Array.size hU⟩⟩ rfl rfl hl.1 rfl (lv_room (Nat.le_of_ble_eq_true rfl)) dX1_kind_287 ⟨Nat.zero_le _, Nat.zero_le _⟩) hS (fun q _ h => Nat.le_trans hS.1 h) (fun q h => Nat.le_trans hS.1 h) (fun r_38 _ _ H_38 _ _ _ hw _ _ _ hS => ?_)
                    subst hw
                    refine lv_if_eq (tgt := 305) hx hb dX1_kind_290 (by decide) (fun c_39 => ?_) (fun c_39 => ?_)
                    · -- taken
                      refine lv_iconst (v := 0) hx hb dX1_kind_305 (by decide) ?_
                      exact W.iret (v := (0 : Int32)) hx hb hr (fun t ht hW => ⟨⟨(0 : Int32), (), rfl, by rw [fX1_kind, if_neg c_2, if_neg c_7, if_neg c_12, if_neg c_15, if_neg c_22, if_neg c_24, if_neg c_27, if_pos c_35, if_pos c_37, if_pos c_39], trivial⟩, hS.F ht⟩) hS.2.2 dX1_kind_306
                    · -- not taken
                      refine lv_iload_n hx hb dX1_kind_293 rfl (lv_at hl 2 rfl) ?_
                      refine va_calli (va_runS (As := [.int p0]) (rest := []) ⟨hx, hb, hml, hown, hts⟩ (mX1_isSize l H_38.size p0) (va_cwS 1 hts gX1_kind_X1_isSize rfl rfl rfl (by decide +kernel) ⟨Nat.le_of_ble_eq_true rfl, Nat.le_of_ble_eq_true rfl⟩) ⟨fb_pure, fun U hU hW => ⟨rfl, congrArg Array.size hU⟩⟩ rfl rfl hl.1 rfl (lv_room (Nat.le_of_ble_eq_true rfl)) dX1_kind_294 ⟨Nat.zero_le _, Nat.zero_le _⟩) hS (fun q _ h => Nat.le_trans hS.1 h) (fun q h => Nat.le_trans hS.1 h) (fun r_40 _ _ H_40 _ _ _ hw _ _ _ hS => ?_)
                      subst hw
                      refine lv_if_eq (tgt := 305) hx hb dX1_kind_297 (by decide) (fun c_41 => ?_) (fun c_41 => ?_)
                      · -- taken
                        refine lv_iconst (v := 0) hx hb dX1_kind_305 (by decide) ?_
                        exact W.iret (v := (0 : Int32)) hx hb hr (fun t ht hW => ⟨⟨(0 : Int32), (), rfl, by rw [fX1_kind, if_neg c_2, if_neg c_7, if_neg c_12, if_neg c_15, if_neg c_22, if_neg c_24, if_neg c_27, if_pos c_35, if_pos c_37, if_neg c_39, if_pos c_41], trivial⟩, hS.F ht⟩) hS.2.2 dX1_kind_306
                      · -- not taken
                        refine lv_bipush (v := 10) hx hb dX1_kind_300 (by decide) ?_
                        refine lv_goto (tgt := 306) hx hb dX1_kind_302 (by decide) ?_
                        exact W.iret (v := (10 : Int32)) hx hb hr (fun t ht hW => ⟨⟨(10 : Int32), (), rfl, by rw [fX1_kind, if_neg c_2, if_neg c_7, if_neg c_12, if_neg c_15, if_neg c_22, if_neg c_24, if_neg c_27, if_pos c_35, if_pos c_37, if_neg c_39, if_neg c_41], trivial⟩, hS.F ht⟩) hS.2.2 dX1_kind_306
                · -- another
                  by_cases c_42 : (fX1_bits p0 (24 : Int32) (28 : Int32)) = (25 : Int32)
                  · refine lv_tableIn (off := 297) (tgt := 307) hx hb dX1_kind_10 (by rw [c_42]; decide) (by rw [c_42]; decide) (by rw [c_42]; decide) (by decide) ?_
                    refine lv_iload_n hx hb dX1_kind_307 rfl (lv_at hl 2 rfl) ?_
                    refine lv_bipush (v := 29) hx hb dX1_kind_308 (by decide) ?_
                    refine lv_bipush (v := 29) hx hb dX1_kind_310 (by decide) ?_
                    refine va_calli (va_runS (As := [.int p0, .int (29 : Int32), .int (29 : Int32)]) (rest := []) ⟨hx, hb, hml, hown, hts⟩ (mX1_bits l H_1.size p0 (29 : Int32) (29 : Int32)) (va_cwS 3 hts gX1_kind_X1_bits rfl rfl rfl (by decide +kernel) ⟨Nat.le_of_ble_eq_true rfl, Nat.le_of_ble_eq_true rfl⟩) ⟨fb_pure, fun U hU hW => ⟨rfl, congrArg Array.size hU⟩⟩ rfl rfl hl.1 rfl (lv_room (Nat.le_of_ble_eq_true rfl)) dX1_kind_312 ⟨Nat.zero_le _, Nat.zero_le _⟩) hS (fun q _ h => Nat.le_trans hS.1 h) (fun q h => Nat.le_trans hS.1 h) (fun r_43 _ _ H_43 _ _ _ hw _ _ _ hS => ?_)
                    subst hw
                    refine lv_iconst (v := 1) hx hb dX1_kind_315 (by decide) ?_
                    refine lv_icmp_ne (tgt := 331) hx hb dX1_kind_316 (by decide) (fun c_44 => ?_) (fun c_44 => ?_)
                    · -- taken
                      refine lv_iconst (v := 0) hx hb dX1_kind_331 (by decide) ?_
                      exact W.iret (v := (0 : Int32)) hx hb hr (fun t ht hW => ⟨⟨(0 : Int32), (), rfl, by rw [fX1_kind, if_neg c_2, if_neg c_7, if_neg c_12, if_neg c_15, if_neg c_22, if_neg c_24, if_neg c_27, if_neg c_35, if_pos c_42, if_neg c_44], trivial⟩, hS.F ht⟩) hS.2.2 dX1_kind_332
                    · -- not taken
                      refine lv_iload_n hx hb dX1_kind_319 rfl (lv_at hl 2 rfl) ?_
                      refine va_calli (va_runS (As := [.int p0]) (rest := []) ⟨hx, hb, hml, hown, hts⟩ (mX1_isSize l H_43.size p0) (va_cwS 1 hts gX1_kind_X1_isSize rfl rfl rfl (by decide +kernel) ⟨Nat.le_of_ble_eq_true rfl, Nat.le_of_ble_eq_true rfl⟩) ⟨fb_pure, fun U hU hW => ⟨rfl, congrArg Array.size hU⟩⟩ rfl rfl hl.1 rfl (lv_room (Nat.le_of_ble_eq_true rfl)) dX1_kind_320 ⟨Nat.zero_le _, Nat.zero_le _⟩) hS (fun q _ h => Nat.le_trans hS.1 h) (fun q h => Nat.le_trans hS.1 h) (fun r_45 _ _ H_45 _ _ _ hw _ _ _ hS => ?_)
                      subst hw
                      refine lv_if_eq (tgt := 331) hx hb dX1_kind_323 (by decide) (fun c_46 => ?_) (fun c_46 => ?_)
                      · -- taken
                        refine lv_iconst (v := 0) hx hb dX1_kind_331 (by decide) ?_
                        exact W.iret (v := (0 : Int32)) hx hb hr (fun t ht hW => ⟨⟨(0 : Int32), (), rfl, by rw [fX1_kind, if_neg c_2, if_neg c_7, if_neg c_12, if_neg c_15, if_neg c_22, if_neg c_24, if_neg c_27, if_neg c_35, if_pos c_42, if_pos c_44, if_pos c_46], trivial⟩, hS.F ht⟩) hS.2.2 dX1_kind_332
                      · -- not taken
                        refine lv_bipush (v := 9) hx hb dX1_kind_326 (by decide) ?_
                        refine lv_goto (tgt := 332) hx hb dX1_kind_328 (by decide) ?_
                        exact W.iret (v := (9 : Int32)) hx hb hr (fun t ht hW => ⟨⟨(9 : Int32), (), rfl, by rw [fX1_kind, if_neg c_2, if_neg c_7, if_neg c_12, if_neg c_15, if_neg c_22, if_neg c_24, if_neg c_27, if_neg c_35, if_pos c_42, if_pos c_44, if_neg c_46], trivial⟩, hS.F ht⟩) hS.2.2 dX1_kind_332
                  · -- another
                    by_cases c_47 : (fX1_bits p0 (24 : Int32) (28 : Int32)) = (26 : Int32)
                    · refine lv_tableIn (off := 215) (tgt := 225) hx hb dX1_kind_10 (by rw [c_47]; decide) (by rw [c_47]; decide) (by rw [c_47]; decide) (by decide) ?_
                      refine lv_iload_n hx hb dX1_kind_225 rfl (lv_at hl 2 rfl) ?_
                      refine lv_bipush (v := 29) hx hb dX1_kind_226 (by decide) ?_
                      refine lv_bipush (v := 30) hx hb dX1_kind_228 (by decide) ?_
                      refine va_calli (va_runS (As := [.int p0, .int (29 : Int32), .int (30 : Int32)]) (rest := []) ⟨hx, hb, hml, hown, hts⟩ (mX1_bits l H_1.size p0 (29 : Int32) (30 : Int32)) (va_cwS 3 hts gX1_kind_X1_bits rfl rfl rfl (by decide +kernel) ⟨Nat.le_of_ble_eq_true rfl, Nat.le_of_ble_eq_true rfl⟩) ⟨fb_pure, fun U hU hW => ⟨rfl, congrArg Array.size hU⟩⟩ rfl rfl hl.1 rfl (lv_room (Nat.le_of_ble_eq_true rfl)) dX1_kind_230 ⟨Nat.zero_le _, Nat.zero_le _⟩) hS (fun q _ h => Nat.le_trans hS.1 h) (fun q h => Nat.le_trans hS.1 h) (fun r_48 _ _ H_48 _ _ _ hw _ _ _ hS => ?_)
                      subst hw
                      refine lv_if_le (tgt := 240) hx hb dX1_kind_233 (by decide) (fun c_49 => ?_) (fun c_49 => ?_)
                      · -- taken
                        refine lv_iload_n hx hb dX1_kind_240 rfl (lv_at hl 2 rfl) ?_
                        refine va_calli (va_runS (As := [.int p0]) (rest := []) ⟨hx, hb, hml, hown, hts⟩ (mX1_inTwo l H_48.size p0) (va_cwS 1 hts gX1_kind_X1_inTwo rfl rfl rfl (by decide +kernel) ⟨Nat.le_of_ble_eq_true rfl, Nat.le_of_ble_eq_true rfl⟩) ⟨fb_pure, fun U hU hW => ⟨rfl, congrArg Array.size hU⟩⟩ rfl rfl hl.1 rfl (lv_room (Nat.le_of_ble_eq_true rfl)) dX1_kind_241 ⟨Nat.zero_le _, Nat.zero_le _⟩) hS (fun q _ h => Nat.le_trans hS.1 h) (fun q h => Nat.le_trans hS.1 h) (fun r_50 _ _ H_50 _ _ _ hw _ _ _ hS => ?_)
                        subst hw
                        exact W.iret (v := (fX1_inTwo p0)) hx hb hr (fun t ht hW => ⟨⟨(fX1_inTwo p0), (), rfl, by rw [fX1_kind, if_neg c_2, if_neg c_7, if_neg c_12, if_neg c_15, if_neg c_22, if_neg c_24, if_neg c_27, if_neg c_35, if_neg c_42, if_pos c_47, if_pos c_49], trivial⟩, hS.F ht⟩) hS.2.2 dX1_kind_244
                      · -- not taken
                        refine lv_iconst (v := 0) hx hb dX1_kind_236 (by decide) ?_
                        refine lv_goto (tgt := 244) hx hb dX1_kind_237 (by decide) ?_
                        exact W.iret (v := (0 : Int32)) hx hb hr (fun t ht hW => ⟨⟨(0 : Int32), (), rfl, by rw [fX1_kind, if_neg c_2, if_neg c_7, if_neg c_12, if_neg c_15, if_neg c_22, if_neg c_24, if_neg c_27, if_neg c_35, if_neg c_42, if_pos c_47, if_neg c_49], trivial⟩, hS.F ht⟩) hS.2.2 dX1_kind_244
                    · -- another
                      by_cases c_51 : (fX1_bits p0 (24 : Int32) (28 : Int32)) = (27 : Int32)
                      · refine lv_tableIn (off := 235) (tgt := 245) hx hb dX1_kind_10 (by rw [c_51]; decide) (by rw [c_51]; decide) (by rw [c_51]; decide) (by decide) ?_
                        refine lv_iload_n hx hb dX1_kind_245 rfl (lv_at hl 2 rfl) ?_
                        refine lv_bipush (v := 21) hx hb dX1_kind_246 (by decide) ?_
                        refine lv_bipush (v := 23) hx hb dX1_kind_248 (by decide) ?_
                        refine va_calli (va_runS (As := [.int p0, .int (21 : Int32), .int (23 : Int32)]) (rest := []) ⟨hx, hb, hml, hown, hts⟩ (mX1_bits l H_1.size p0 (21 : Int32) (23 : Int32)) (va_cwS 3 hts gX1_kind_X1_bits rfl rfl rfl (by decide +kernel) ⟨Nat.le_of_ble_eq_true rfl, Nat.le_of_ble_eq_true rfl⟩) ⟨fb_pure, fun U hU hW => ⟨rfl, congrArg Array.size hU⟩⟩ rfl rfl hl.1 rfl (lv_room (Nat.le_of_ble_eq_true rfl)) dX1_kind_250 ⟨Nat.zero_le _, Nat.zero_le _⟩) hS (fun q _ h => Nat.le_trans hS.1 h) (fun q h => Nat.le_trans hS.1 h) (fun r_52 _ _ H_52 _ _ _ hw _ _ _ hS => ?_)
                        subst hw
                        refine lv_if_ne (tgt := 272) hx hb dX1_kind_253 (by decide) (fun c_53 => ?_) (fun c_53 => ?_)
                        · -- taken
                          refine lv_iconst (v := 0) hx hb dX1_kind_272 (by decide) ?_
                          exact W.iret (v := (0 : Int32)) hx hb hr (fun t ht hW => ⟨⟨(0 : Int32), (), rfl, by rw [fX1_kind, if_neg c_2, if_neg c_7, if_neg c_12, if_neg c_15, if_neg c_22, if_neg c_24, if_neg c_27, if_neg c_35, if_neg c_42, if_neg c_47, if_pos c_51, if_neg c_53], trivial⟩, hS.F ht⟩) hS.2.2 dX1_kind_273
                        · -- not taken
                          refine lv_iload_n hx hb dX1_kind_256 rfl (lv_at hl 2 rfl) ?_
                          refine lv_bipush (v := 29) hx hb dX1_kind_257 (by decide) ?_
                          refine lv_bipush (v := 30) hx hb dX1_kind_259 (by decide) ?_
                          refine va_calli (va_runS (As := [.int p0, .int (29 : Int32), .int (30 : Int32)]) (rest := []) ⟨hx, hb, hml, hown, hts⟩ (mX1_bits l H_52.size p0 (29 : Int32) (30 : Int32)) (va_cwS 3 hts gX1_kind_X1_bits rfl rfl rfl (by decide +kernel) ⟨Nat.le_of_ble_eq_true rfl, Nat.le_of_ble_eq_true rfl⟩) ⟨fb_pure, fun U hU hW => ⟨rfl, congrArg Array.size hU⟩⟩ rfl rfl hl.1 rfl (lv_room (Nat.le_of_ble_eq_true rfl)) dX1_kind_261 ⟨Nat.zero_le _, Nat.zero_le _⟩) hS (fun q _ h => Nat.le_trans hS.1 h) (fun q h => Nat.le_trans hS.1 h) (fun r_54 _ _ H_54 _ _ _ hw _ _ _ hS => ?_)
                          subst hw
                          refine lv_if_ne (tgt := 272) hx hb dX1_kind_264 (by decide) (fun c_55 => ?_) (fun c_55 => ?_)
                          · -- taken
                            refine lv_iconst (v := 0) hx hb dX1_kind_272 (by decide) ?_
                            exact W.iret (v := (0 : Int32)) hx hb hr (fun t ht hW => ⟨⟨(0 : Int32), (), rfl, by rw [fX1_kind, if_neg c_2, if_neg c_7, if_neg c_12, if_neg c_15, if_neg c_22, if_neg c_24, if_neg c_27, if_neg c_35, if_neg c_42, if_neg c_47, if_pos c_51, if_pos c_53, if_neg c_55], trivial⟩, hS.F ht⟩) hS.2.2 dX1_kind_273
                          · -- not taken
                            refine lv_bipush (v := 6) hx hb dX1_kind_267 (by decide) ?_
                            refine lv_goto (tgt := 273) hx hb dX1_kind_269 (by decide) ?_
                            exact W.iret (v := (6 : Int32)) hx hb hr (fun t ht hW => ⟨⟨(6 : Int32), (), rfl, by rw [fX1_kind, if_neg c_2, if_neg c_7, if_neg c_12, if_neg c_15, if_neg c_22, if_neg c_24, if_neg c_27, if_neg c_35, if_neg c_42, if_neg c_47, if_pos c_51, if_pos c_53, if_pos c_55], trivial⟩, hS.F ht⟩) hS.2.2 dX1_kind_273
                      · -- another
                        refine sw_def (tgt := 360) hx hb dX1_kind_10 (by decide) (fun k hk => by
                            have e_0 := lv_neT c_2 (a := 8) (by decide); have e_1 := lv_neT c_7 (a := 9) (by decide); have e_2 := lv_neT c_12 (a := 10) (by decide); have e_3 := lv_neT c_15 (a := 11) (by decide); have e_4 := lv_neT c_22 (a := 16) (by decide); have e_5 := lv_neT c_24 (a := 17) (by decide); have e_6 := lv_neT c_27 (a := 18) (by decide); have e_7 := lv_neT c_35 (a := 24) (by decide); have e_8 := lv_neT c_42 (a := 25) (by decide); have e_9 := lv_neT c_47 (a := 26) (by decide); have e_10 := lv_neT c_51 (a := 27) (by decide)
                            rcases (show k = 0 ∨ k = 1 ∨ k = 2 ∨ k = 3 ∨ k = 4 ∨ k = 5 ∨ k = 6 ∨ k = 7 ∨ k = 8 ∨ k = 9 ∨ k = 10 ∨ k = 11 ∨ k = 12 ∨ k = 13 ∨ k = 14 ∨ k = 15 ∨ k = 16 ∨ k = 17 ∨ k = 18 ∨ k = 19 from by have hk9 : k < 20 := hk; omega) with rfl | rfl | rfl | rfl | rfl | rfl | rfl | rfl | rfl | rfl | rfl | rfl | rfl | rfl | rfl | rfl | rfl | rfl | rfl | rfl <;> first | exact Or.inl rfl | exact Or.inr (by omega)) (by decide) ?_
                        refine lv_aload_n hx hb dX1_kind_360 rfl (lv_at hl 1 rfl) ?_
                        refine lv_iload_n hx hb dX1_kind_361 rfl (lv_at hl 2 rfl) ?_
                        refine va_calli (va_runV (As := [.int p0]) (rest := []) ⟨hx, hb, hml, hown, hts⟩ (mX1_jumps l H_1.size h0 p0) (cwV 1 hts gX1_kind_X1_jumps rfl rfl rfl (by decide +kernel) ⟨Nat.le_of_ble_eq_true rfl, Nat.le_of_ble_eq_true rfl⟩) ⟨fb_rr, hww.at hS, fun U hU hW => ⟨rfl, congrArg Array.size hU, hww.go hS hU hW.alike⟩⟩ rfl rfl hl.1 rfl (lv_room (Nat.le_of_ble_eq_true rfl)) dX1_kind_362 ⟨Nat.zero_le _, Nat.zero_le _⟩) hS (fun q _ h => Nat.le_trans hS.1 h) (fun q h => Nat.le_trans hS.1 h) (fun r_56 _ _ H_56 _ _ _ hw _ _ _ hS => ?_)
                        subst hw
                        exact W.iret (v := (fX1_jumps p0)) hx hb hr (fun t ht hW => ⟨⟨(fX1_jumps p0), (), rfl, by rw [fX1_kind, if_neg c_2, if_neg c_7, if_neg c_12, if_neg c_15, if_neg c_22, if_neg c_24, if_neg c_27, if_neg c_35, if_neg c_42, if_neg c_47, if_neg c_51], trivial⟩, hS.F ht⟩) hS.2.2 dX1_kind_365
