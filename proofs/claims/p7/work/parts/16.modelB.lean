set_option maxHeartbeats 4000000 in
set_option maxRecDepth 100000 in
theorem mX1_reach (l : Launch) (sz : Nat) (p0 : Int32) : Met l yX1_reach wsX1_reach ({ frames := 0, cells := 0, slots := 0, locals := 0 }) (va_Pc [.int p0] (fun U => U.heap.size = sz)) (va_Qi (fun (r : Int32) (_ : Unit) => r = fX1_reach p0) (fun _ _ => True) (fun q : Nat => sz ≤ q)) 0 0 (fun q : Nat => sz ≤ q) := by
  refine Met.ofW (cc := cX1_reach) (maxL := 1) (ret := (some .int)) (by decide) rfl ?_
  intro p e s m args below meth c s₁ B hml hv
  obtain ⟨rfl, hsz⟩ := hv
  have hx := B.exec
  have hb := B.bytes
  have hr := B.returns
  have hts := atoms_spec (ws := wsX1_reach) B.pre
  have hown : s.vm.findClass RX1 = some m.cls := findClass_of_methodNamed B.named
  have hlocks := B.notSynchronized
  subst hsz
  have hS : va_S (fun q : Nat => s.heap.size ≤ q) s.heap s.heap [] := va_S.rf
  have hl := lv_entry ([.int p0]) (n := 1) (Nat.le_of_ble_eq_true rfl)
  rw [lg_entry_eq]
  generalize (lg_sl ([.int p0]) ++ List.replicate (1 - (lg_sl ([.int p0])).length) Slot.unset).toArray = ls at hl ⊢
  have hl : lv_has ls 1 [(0, .int p0)] := hl
  refine lv_iload_n hx hb dX1_reach_0 rfl (lv_at hl 0 rfl) ?_
  refine lv_bipush (v := 12) hx hb dX1_reach_1 (by decide) ?_
  refine lv_icmp_eq (tgt := 12) hx hb dX1_reach_3 (by decide) (fun c_1 => ?_) (fun c_1 => ?_)
  · -- taken
    refine lv_ldc hx hb hown (hts (.constant RX1 37 (134217728)) (by decide +kernel)) dX1_reach_12 ?_
    refine lv_goto (tgt := 46) hx hb dX1_reach_14 (by decide) ?_
    exact W.iret (v := (134217728 : Int32)) hx hb hr (fun t ht hW => ⟨⟨(134217728 : Int32), (), rfl, by rw [fX1_reach, if_pos c_1], trivial⟩, hS.F ht⟩) hS.2.2 dX1_reach_46
  · -- not taken
    refine lv_iload_n hx hb dX1_reach_6 rfl (lv_at hl 0 rfl) ?_
    refine lv_bipush (v := 13) hx hb dX1_reach_7 (by decide) ?_
    refine lv_icmp_ne (tgt := 17) hx hb dX1_reach_9 (by decide) (fun c_2 => ?_) (fun c_2 => ?_)
    · -- taken
      refine lv_iload_n hx hb dX1_reach_17 rfl (lv_at hl 0 rfl) ?_
      refine lv_bipush (v := 14) hx hb dX1_reach_18 (by decide) ?_
      refine lv_icmp_eq (tgt := 29) hx hb dX1_reach_20 (by decide) (fun c_3 => ?_) (fun c_3 => ?_)
      · -- taken
        refine lv_ldc hx hb hown (hts (.constant RX1 38 (1048576)) (by decide +kernel)) dX1_reach_29 ?_
        refine lv_goto (tgt := 46) hx hb dX1_reach_31 (by decide) ?_
        exact W.iret (v := (1048576 : Int32)) hx hb hr (fun t ht hW => ⟨⟨(1048576 : Int32), (), rfl, by rw [fX1_reach, if_neg c_1, if_neg c_2, if_pos c_3], trivial⟩, hS.F ht⟩) hS.2.2 dX1_reach_46
      · -- not taken
        refine lv_iload_n hx hb dX1_reach_23 rfl (lv_at hl 0 rfl) ?_
        refine lv_bipush (v := 15) hx hb dX1_reach_24 (by decide) ?_
        refine lv_icmp_ne (tgt := 34) hx hb dX1_reach_26 (by decide) (fun c_4 => ?_) (fun c_4 => ?_)
        · -- taken
          refine lv_iload_n hx hb dX1_reach_34 rfl (lv_at hl 0 rfl) ?_
          refine lv_bipush (v := 16) hx hb dX1_reach_35 (by decide) ?_
          refine lv_icmp_ne (tgt := 45) hx hb dX1_reach_37 (by decide) (fun c_5 => ?_) (fun c_5 => ?_)
          · -- taken
            refine lv_iconst (v := 0) hx hb dX1_reach_45 (by decide) ?_
            exact W.iret (v := (0 : Int32)) hx hb hr (fun t ht hW => ⟨⟨(0 : Int32), (), rfl, by rw [fX1_reach, if_neg c_1, if_neg c_2, if_neg c_3, if_neg c_4, if_neg c_5], trivial⟩, hS.F ht⟩) hS.2.2 dX1_reach_46
          · -- not taken
            refine lv_ldc hx hb hown (hts (.constant RX1 39 (32768)) (by decide +kernel)) dX1_reach_40 ?_
            refine lv_goto (tgt := 46) hx hb dX1_reach_42 (by decide) ?_
            exact W.iret (v := (32768 : Int32)) hx hb hr (fun t ht hW => ⟨⟨(32768 : Int32), (), rfl, by rw [fX1_reach, if_neg c_1, if_neg c_2, if_neg c_3, if_neg c_4, if_pos c_5], trivial⟩, hS.F ht⟩) hS.2.2 dX1_reach_46
        · -- not taken
          refine lv_ldc hx hb hown (hts (.constant RX1 38 (1048576)) (by decide +kernel)) dX1_reach_29 ?_
          refine lv_goto (tgt := 46) hx hb dX1_reach_31 (by decide) ?_
          exact W.iret (v := (1048576 : Int32)) hx hb hr (fun t ht hW => ⟨⟨(1048576 : Int32), (), rfl, by rw [fX1_reach, if_neg c_1, if_neg c_2, if_neg c_3, if_pos c_4], trivial⟩, hS.F ht⟩) hS.2.2 dX1_reach_46
    · -- not taken
      refine lv_ldc hx hb hown (hts (.constant RX1 37 (134217728)) (by decide +kernel)) dX1_reach_12 ?_
      refine lv_goto (tgt := 46) hx hb dX1_reach_14 (by decide) ?_
      exact W.iret (v := (134217728 : Int32)) hx hb hr (fun t ht hW => ⟨⟨(134217728 : Int32), (), rfl, by rw [fX1_reach, if_neg c_1, if_pos c_2], trivial⟩, hS.F ht⟩) hS.2.2 dX1_reach_46
set_option maxHeartbeats 4000000 in
set_option maxRecDepth 100000 in
theorem mX1_by (l : Launch) (sz : Nat) (h0 : Nat) (p0 : Int32) : Met l yX1_by wsX1_by ({ frames := 4, cells := 0, slots := 0, locals := 88 }) (va_Pc [.ref h0, .int p0] (fun U => U.heap.size = sz ∧ wv_rcv RX1 h0 U)) (va_Qi (fun (r : Int32) (_ : Unit) => r = fX1_by p0) (fun _ _ => True) (fun q : Nat => sz ≤ q)) 0 0 (fun q : Nat => sz ≤ q) := by
  refine Met.ofW (cc := cX1_by) (maxL := 3) (ret := (some .int)) (by decide) rfl ?_
  intro p e s m args below meth c s₁ B hml hv
  obtain ⟨rfl, hsz, hww⟩ := hv
  have hx := B.exec
  have hb := B.bytes
  have hr := B.returns
  have hts := atoms_spec (ws := wsX1_by) B.pre
  have hown : s.vm.findClass RX1 = some m.cls := findClass_of_methodNamed B.named
  have hlocks := B.notSynchronized
  subst hsz
  have hS : va_S (fun q : Nat => s.heap.size ≤ q) s.heap s.heap [] := va_S.rf
  have hl := lv_entry ([.ref h0, .int p0]) (n := 3) (Nat.le_of_ble_eq_true rfl)
  rw [lg_entry_eq]
  generalize (lg_sl ([.ref h0, .int p0]) ++ List.replicate (3 - (lg_sl ([.ref h0, .int p0])).length) Slot.unset).toArray = ls at hl ⊢
  have hl : lv_has ls 3 [(0, .ref h0), (1, .int p0)] := hl
  refine lv_aload_n hx hb dX1_by_0 rfl (lv_at hl 0 rfl) ?_
  refine lv_iload_n hx hb dX1_by_1 rfl (lv_at hl 1 rfl) ?_
  refine va_calli (va_runV (As := [.int p0]) (rest := []) ⟨hx, hb, hml, hown, hts⟩ (mX1_kind l s.heap.size h0 p0) (cwV 1 hts gX1_by_X1_kind rfl rfl rfl (by decide +kernel) ⟨Nat.le_of_ble_eq_true rfl, Nat.le_of_ble_eq_true rfl⟩) ⟨fb_rr, hww.at hS, fun U hU hW => ⟨rfl, congrArg Array.size hU, hww.go hS hU hW.alike⟩⟩ rfl rfl hl.1 rfl (lv_room (Nat.le_of_ble_eq_true rfl)) dX1_by_2 ⟨Nat.zero_le _, Nat.zero_le _⟩) hS (fun q _ h => Nat.le_trans hS.1 h) (fun q h => Nat.le_trans hS.1 h) (fun r_1 _ _ H_1 _ _ _ hw _ _ _ hS => ?_)
  subst hw
  refine lv_istore_n (lv' := [(2, .int (fX1_kind p0)), (0, .ref h0), (1, .int p0)]) hx hb dX1_by_5 rfl hl (by decide) rfl (fun ls hl => ?_)
  refine lv_iload_n hx hb dX1_by_6 rfl (lv_at hl 0 rfl) ?_
  refine lv_bipush (v := 12) hx hb dX1_by_7 (by decide) ?_
  refine lv_icmp_lt (tgt := 18) hx hb dX1_by_9 (by decide) (fun c_2 => ?_) (fun c_2 => ?_)
  · -- taken
    refine lv_iconst (v := 1) hx hb dX1_by_18 (by decide) ?_
    exact W.iret (v := (1 : Int32)) hx hb hr (fun t ht hW => ⟨⟨(1 : Int32), (), rfl, by rw [fX1_by, if_pos c_2], trivial⟩, hS.F ht⟩) hS.2.2 dX1_by_19
  · -- not taken
    refine lv_iload_n hx hb dX1_by_12 rfl (lv_at hl 0 rfl) ?_
    refine lv_bipush (v := 16) hx hb dX1_by_13 (by decide) ?_
    refine lv_icmp_le (tgt := 20) hx hb dX1_by_15 (by decide) (fun c_3 => ?_) (fun c_3 => ?_)
    · -- taken
      refine lv_iconst (v := 4) hx hb dX1_by_20 (by decide) ?_
      refine lv_iload_n hx hb dX1_by_21 rfl (lv_at hl 0 rfl) ?_
      refine lv_bipush (v := 14) hx hb dX1_by_22 (by decide) ?_
      refine lv_icmp_ge (tgt := 37) hx hb dX1_by_24 (by decide) (fun c_4 => ?_) (fun c_4 => ?_)
      · -- taken
        refine lv_iload_n hx hb dX1_by_37 rfl (lv_at hl 0 rfl) ?_
        refine lv_bipush (v := 16) hx hb dX1_by_38 (by decide) ?_
        refine lv_icmp_ge (tgt := 53) hx hb dX1_by_40 (by decide) (fun c_5 => ?_) (fun c_5 => ?_)
        · -- taken
          refine lv_iload_n hx hb dX1_by_53 rfl (lv_at hl 2 rfl) ?_
          refine lv_iconst (v := 5) hx hb dX1_by_54 (by decide) ?_
          refine lv_bipush (v := 18) hx hb dX1_by_55 (by decide) ?_
          refine va_calli (va_runS (As := [.int p0, .int (5 : Int32), .int (18 : Int32)]) (rest := [.int (4 : Int32)]) ⟨hx, hb, hml, hown, hts⟩ (mX1_signed l H_1.size p0 (5 : Int32) (18 : Int32)) (va_cwS 3 hts gX1_by_X1_signed rfl rfl rfl (by decide +kernel) ⟨Nat.le_of_ble_eq_true rfl, Nat.le_of_ble_eq_true rfl⟩) ⟨fb_pure, fun U hU hW => ⟨rfl, congrArg Array.size hU⟩⟩ rfl rfl hl.1 rfl (lv_room (Nat.le_of_ble_eq_true rfl)) dX1_by_57 ⟨Nat.zero_le _, Nat.zero_le _⟩) hS (fun q _ h => Nat.le_trans hS.1 h) (fun q h => Nat.le_trans hS.1 h) (fun r_6 _ _ H_6 _ _ _ hw _ _ _ hS => ?_)
          subst hw
          refine lv_imul hx hb dX1_by_60 ?_
          exact W.iret (v := ((4 : Int32) * (fX1_signed p0 (5 : Int32) (18 : Int32)))) hx hb hr (fun t ht hW => ⟨⟨((4 : Int32) * (fX1_signed p0 (5 : Int32) (18 : Int32))), (), rfl, by rw [fX1_by, if_neg c_2, if_pos c_3, if_pos c_4, if_pos c_5], trivial⟩, hS.F ht⟩) hS.2.2 dX1_by_61
        · -- not taken
          refine lv_iload_n hx hb dX1_by_43 rfl (lv_at hl 2 rfl) ?_
          refine lv_iconst (v := 5) hx hb dX1_by_44 (by decide) ?_
          refine lv_bipush (v := 23) hx hb dX1_by_45 (by decide) ?_
          refine va_calli (va_runS (As := [.int p0, .int (5 : Int32), .int (23 : Int32)]) (rest := [.int (4 : Int32)]) ⟨hx, hb, hml, hown, hts⟩ (mX1_signed l H_1.size p0 (5 : Int32) (23 : Int32)) (va_cwS 3 hts gX1_by_X1_signed rfl rfl rfl (by decide +kernel) ⟨Nat.le_of_ble_eq_true rfl, Nat.le_of_ble_eq_true rfl⟩) ⟨fb_pure, fun U hU hW => ⟨rfl, congrArg Array.size hU⟩⟩ rfl rfl hl.1 rfl (lv_room (Nat.le_of_ble_eq_true rfl)) dX1_by_47 ⟨Nat.zero_le _, Nat.zero_le _⟩) hS (fun q _ h => Nat.le_trans hS.1 h) (fun q h => Nat.le_trans hS.1 h) (fun r_7 _ _ H_7 _ _ _ hw _ _ _ hS => ?_)
          subst hw
          refine lv_goto (tgt := 60) hx hb dX1_by_50 (by decide) ?_
          refine lv_imul hx hb dX1_by_60 ?_
          exact W.iret (v := ((4 : Int32) * (fX1_signed p0 (5 : Int32) (23 : Int32)))) hx hb hr (fun t ht hW => ⟨⟨((4 : Int32) * (fX1_signed p0 (5 : Int32) (23 : Int32))), (), rfl, by rw [fX1_by, if_neg c_2, if_pos c_3, if_pos c_4, if_neg c_5], trivial⟩, hS.F ht⟩) hS.2.2 dX1_by_61
      · -- not taken
        refine lv_iload_n hx hb dX1_by_27 rfl (lv_at hl 2 rfl) ?_
        refine lv_iconst (v := 0) hx hb dX1_by_28 (by decide) ?_
        refine lv_bipush (v := 25) hx hb dX1_by_29 (by decide) ?_
        refine va_calli (va_runS (As := [.int p0, .int (0 : Int32), .int (25 : Int32)]) (rest := [.int (4 : Int32)]) ⟨hx, hb, hml, hown, hts⟩ (mX1_signed l H_1.size p0 (0 : Int32) (25 : Int32)) (va_cwS 3 hts gX1_by_X1_signed rfl rfl rfl (by decide +kernel) ⟨Nat.le_of_ble_eq_true rfl, Nat.le_of_ble_eq_true rfl⟩) ⟨fb_pure, fun U hU hW => ⟨rfl, congrArg Array.size hU⟩⟩ rfl rfl hl.1 rfl (lv_room (Nat.le_of_ble_eq_true rfl)) dX1_by_31 ⟨Nat.zero_le _, Nat.zero_le _⟩) hS (fun q _ h => Nat.le_trans hS.1 h) (fun q h => Nat.le_trans hS.1 h) (fun r_8 _ _ H_8 _ _ _ hw _ _ _ hS => ?_)
        subst hw
        refine lv_goto (tgt := 60) hx hb dX1_by_34 (by decide) ?_
        refine lv_imul hx hb dX1_by_60 ?_
        exact W.iret (v := ((4 : Int32) * (fX1_signed p0 (0 : Int32) (25 : Int32)))) hx hb hr (fun t ht hW => ⟨⟨((4 : Int32) * (fX1_signed p0 (0 : Int32) (25 : Int32))), (), rfl, by rw [fX1_by, if_neg c_2, if_pos c_3, if_neg c_4], trivial⟩, hS.F ht⟩) hS.2.2 dX1_by_61
    · -- not taken
      refine lv_iconst (v := 1) hx hb dX1_by_18 (by decide) ?_
      exact W.iret (v := (1 : Int32)) hx hb hr (fun t ht hW => ⟨⟨(1 : Int32), (), rfl, by rw [fX1_by, if_neg c_2, if_neg c_3], trivial⟩, hS.F ht⟩) hS.2.2 dX1_by_19
set_option maxHeartbeats 4000000 in
set_option maxRecDepth 100000 in
theorem mX1_reaches (l : Launch) (sz : Nat) (h0 : Nat) (p0 : Int32) (p1 : Int64) : Met l yX1_reaches wsX1_reaches ({ frames := 4, cells := 0, slots := 0, locals := 88 }) (va_Pc [.ref h0, .int p0, .long p1] (fun U => U.heap.size = sz ∧ wv_rcv RX1 h0 U)) (va_Qi (fun (r : Int32) (_ : Unit) => r = fX1_reaches p0 p1) (fun _ _ => True) (fun q : Nat => sz ≤ q)) 0 0 (fun q : Nat => sz ≤ q) := by
  refine Met.ofW (cc := cX1_reaches) (maxL := 5) (ret := (some .boolean)) (by decide) rfl ?_
  intro p e s m args below meth c s₁ B hml hv
  obtain ⟨rfl, hsz, hww⟩ := hv
  have hx := B.exec
  have hb := B.bytes
  have hr := B.returns
  have hts := atoms_spec (ws := wsX1_reaches) B.pre
  have hown : s.vm.findClass RX1 = some m.cls := findClass_of_methodNamed B.named
  have hlocks := B.notSynchronized
  subst hsz
  have hS : va_S (fun q : Nat => s.heap.size ≤ q) s.heap s.heap [] := va_S.rf
  have hl := lv_entry ([.ref h0, .int p0, .long p1]) (n := 5) (Nat.le_of_ble_eq_true rfl)
  rw [lg_entry_eq]
  generalize (lg_sl ([.ref h0, .int p0, .long p1]) ++ List.replicate (5 - (lg_sl ([.ref h0, .int p0, .long p1])).length) Slot.unset).toArray = ls at hl ⊢
  have hl : lv_has ls 5 [(0, .ref h0), (1, .int p0), (2, .long p1)] := hl
  refine lv_aload_n hx hb dX1_reaches_0 rfl (lv_at hl 0 rfl) ?_
  refine lv_iload_n hx hb dX1_reaches_1 rfl (lv_at hl 1 rfl) ?_
  refine va_calli (va_runV (As := [.int p0]) (rest := []) ⟨hx, hb, hml, hown, hts⟩ (mX1_kind l s.heap.size h0 p0) (cwV 1 hts gX1_reaches_X1_kind rfl rfl rfl (by decide +kernel) ⟨Nat.le_of_ble_eq_true rfl, Nat.le_of_ble_eq_true rfl⟩) ⟨fb_rr, hww.at hS, fun U hU hW => ⟨rfl, congrArg Array.size hU, hww.go hS hU hW.alike⟩⟩ rfl rfl hl.1 rfl (lv_room (Nat.le_of_ble_eq_true rfl)) dX1_reaches_2 ⟨Nat.zero_le _, Nat.zero_le _⟩) hS (fun q _ h => Nat.le_trans hS.1 h) (fun q h => Nat.le_trans hS.1 h) (fun r_1 _ _ H_1 _ _ _ hw _ _ _ hS => ?_)
  subst hw
  refine va_calli (va_runS (As := [.int (fX1_kind p0)]) (rest := []) ⟨hx, hb, hml, hown, hts⟩ (mX1_reach l H_1.size (fX1_kind p0)) (va_cwS 1 hts gX1_reaches_X1_reach rfl rfl rfl (by decide +kernel) ⟨Nat.le_of_ble_eq_true rfl, Nat.le_of_ble_eq_true rfl⟩) ⟨fb_pure, fun U hU hW => ⟨rfl, congrArg Array.size hU⟩⟩ rfl rfl hl.1 rfl (lv_room (Nat.le_of_ble_eq_true rfl)) dX1_reaches_5 ⟨Nat.zero_le _, Nat.zero_le _⟩) hS (fun q _ h => Nat.le_trans hS.1 h) (fun q h => Nat.le_trans hS.1 h) (fun r_2 _ _ H_2 _ _ _ hw _ _ _ hS => ?_)
  subst hw
  refine lv_istore (lv' := [(4, .int (fX1_reach (fX1_kind p0))), (0, .ref h0), (1, .int p0), (2, .long p1)]) hx hb dX1_reaches_8 hl (by decide) rfl (fun ls hl => ?_)
  refine lv_iload hx hb dX1_reaches_10 (lv_at hl 0 rfl) ?_
  refine lv_if_le (tgt := 46) hx hb dX1_reaches_12 (by decide) (fun c_3 => ?_) (fun c_3 => ?_)
  · -- taken
    refine lv_iconst (v := 0) hx hb dX1_reaches_46 (by decide) ?_
    exact W.zret (v := (0 : Int32)) hx hb hr (nb_01 (Or.inl rfl)) (fun t ht hW => ⟨⟨(0 : Int32), (), rfl, by rw [fX1_reaches, if_pos c_3], trivial⟩, hS.F ht⟩) hS.2.2 dX1_reaches_47
  · -- not taken
    refine lv_lload_n hx hb dX1_reaches_15 rfl (lv_at hl 3 rfl) ?_
    refine lv_ldc2 hx hb hown (hts (.constantLong RX1 49 (4)) (by decide +kernel)) dX1_reaches_16 ?_
    refine lv_lrem hx hb dX1_reaches_19 (by decide) ?_
    refine lv_lconst (v := 0) hx hb dX1_reaches_20 (by decide) ?_
    refine W.lcmp hx hb dX1_reaches_21 ?_
    refine lv_if_ne (tgt := 46) hx hb dX1_reaches_22 (by decide) (fun c_4 => ?_) (fun c_4 => ?_)
    · -- taken
      refine lv_iconst (v := 0) hx hb dX1_reaches_46 (by decide) ?_
      exact W.zret (v := (0 : Int32)) hx hb hr (nb_01 (Or.inl rfl)) (fun t ht hW => ⟨⟨(0 : Int32), (), rfl, by rw [fX1_reaches, if_neg c_3, if_neg c_4], trivial⟩, hS.F ht⟩) hS.2.2 dX1_reaches_47
    · -- not taken
      refine lv_lload_n hx hb dX1_reaches_25 rfl (lv_at hl 3 rfl) ?_
      refine lv_iload hx hb dX1_reaches_26 (lv_at hl 0 rfl) ?_
      refine lv_ineg hx hb dX1_reaches_28 ?_
      refine lv_i2l hx hb dX1_reaches_29 rfl ?_
      refine W.lcmp hx hb dX1_reaches_30 ?_
      refine lv_if_lt (tgt := 46) hx hb dX1_reaches_31 (by decide) (fun c_5 => ?_) (fun c_5 => ?_)
      · -- taken
        refine lv_iconst (v := 0) hx hb dX1_reaches_46 (by decide) ?_
        exact W.zret (v := (0 : Int32)) hx hb hr (nb_01 (Or.inl rfl)) (fun t ht hW => ⟨⟨(0 : Int32), (), rfl, by rw [fX1_reaches, if_neg c_3, if_pos c_4, if_pos c_5], trivial⟩, hS.F ht⟩) hS.2.2 dX1_reaches_47
      · -- not taken
        refine lv_lload_n hx hb dX1_reaches_34 rfl (lv_at hl 3 rfl) ?_
        refine lv_iload hx hb dX1_reaches_35 (lv_at hl 0 rfl) ?_
        refine lv_i2l hx hb dX1_reaches_37 rfl ?_
        refine W.lcmp hx hb dX1_reaches_38 ?_
        refine lv_if_ge (tgt := 46) hx hb dX1_reaches_39 (by decide) (fun c_6 => ?_) (fun c_6 => ?_)
        · -- taken
          refine lv_iconst (v := 0) hx hb dX1_reaches_46 (by decide) ?_
          exact W.zret (v := (0 : Int32)) hx hb hr (nb_01 (Or.inl rfl)) (fun t ht hW => ⟨⟨(0 : Int32), (), rfl, by rw [fX1_reaches, if_neg c_3, if_pos c_4, if_neg c_5, if_pos c_6], trivial⟩, hS.F ht⟩) hS.2.2 dX1_reaches_47
        · -- not taken
          refine lv_iconst (v := 1) hx hb dX1_reaches_42 (by decide) ?_
          refine lv_goto (tgt := 47) hx hb dX1_reaches_43 (by decide) ?_
          exact W.zret (v := (1 : Int32)) hx hb hr (nb_01 (Or.inr rfl)) (fun t ht hW => ⟨⟨(1 : Int32), (), rfl, by rw [fX1_reaches, if_neg c_3, if_pos c_4, if_neg c_5, if_neg c_6], trivial⟩, hS.F ht⟩) hS.2.2 dX1_reaches_47
set_option maxHeartbeats 4000000 in
set_option maxRecDepth 100000 in
theorem mX1_going (l : Launch) (sz : Nat) (h0 : Nat) (p0 : Int32) (p1 : Int32) : Met l yX1_going wsX1_going ({ frames := 5, cells := 0, slots := 0, locals := 112 }) (va_Pc [.ref h0, .int p0, .int p1] (fun U => U.heap.size = sz ∧ wv_rcv RX1 h0 U)) (va_Qi (fun (r : Int32) (_ : Unit) => r = fX1_going p0 p1) (fun _ _ => True) (fun q : Nat => sz ≤ q)) 0 0 (fun q : Nat => sz ≤ q) := by
  refine Met.ofW (cc := cX1_going) (maxL := 6) (ret := (some .int)) (by decide) rfl ?_
  intro p e s m args below meth c s₁ B hml hv
  obtain ⟨rfl, hsz, hww⟩ := hv
  have hx := B.exec
  have hb := B.bytes
  have hr := B.returns
  have hts := atoms_spec (ws := wsX1_going) B.pre
  have hown : s.vm.findClass RX1 = some m.cls := findClass_of_methodNamed B.named
  have hlocks := B.notSynchronized
  subst hsz
  have hS : va_S (fun q : Nat => s.heap.size ≤ q) s.heap s.heap [] := va_S.rf
  have hl := lv_entry ([.ref h0, .int p0, .int p1]) (n := 6) (Nat.le_of_ble_eq_true rfl)
  rw [lg_entry_eq]
  generalize (lg_sl ([.ref h0, .int p0, .int p1]) ++ List.replicate (6 - (lg_sl ([.ref h0, .int p0, .int p1])).length) Slot.unset).toArray = ls at hl ⊢
  have hl : lv_has ls 6 [(0, .ref h0), (1, .int p0), (2, .int p1)] := hl
  refine lv_aload_n hx hb dX1_going_0 rfl (lv_at hl 0 rfl) ?_
  refine lv_iload_n hx hb dX1_going_1 rfl (lv_at hl 1 rfl) ?_
  refine lv_iload_n hx hb dX1_going_2 rfl (lv_at hl 2 rfl) ?_
  refine lv_i2l hx hb dX1_going_3 rfl ?_
  refine va_calli (va_runV (As := [.int p0, .long ((p1).toInt64)]) (rest := []) ⟨hx, hb, hml, hown, hts⟩ (mX1_reaches l s.heap.size h0 p0 ((p1).toInt64)) (cwV 2 hts gX1_going_X1_reaches rfl rfl rfl (by decide +kernel) ⟨Nat.le_of_ble_eq_true rfl, Nat.le_of_ble_eq_true rfl⟩) ⟨fb_rr, hww.at hS, fun U hU hW => ⟨rfl, congrArg Array.size hU, hww.go hS hU hW.alike⟩⟩ rfl rfl hl.1 rfl (lv_room (Nat.le_of_ble_eq_true rfl)) dX1_going_4 ⟨Nat.zero_le _, Nat.zero_le _⟩) hS (fun q _ h => Nat.le_trans hS.1 h) (fun q h => Nat.le_trans hS.1 h) (fun r_1 _ _ H_1 _ _ _ hw _ _ _ hS => ?_)
  subst hw
  refine lv_if_ne (tgt := 12) hx hb dX1_going_7 (by decide) (fun c_2 => ?_) (fun c_2 => ?_)
  · -- taken
    refine lv_aload_n hx hb dX1_going_12 rfl (lv_at hl 0 rfl) ?_
    refine lv_iload_n hx hb dX1_going_13 rfl (lv_at hl 1 rfl) ?_
    refine va_calli (va_runV (As := [.int p0]) (rest := []) ⟨hx, hb, hml, hown, hts⟩ (mX1_kind l H_1.size h0 p0) (cwV 1 hts gX1_going_X1_kind rfl rfl rfl (by decide +kernel) ⟨Nat.le_of_ble_eq_true rfl, Nat.le_of_ble_eq_true rfl⟩) ⟨fb_rr, hww.at hS, fun U hU hW => ⟨rfl, congrArg Array.size hU, hww.go hS hU hW.alike⟩⟩ rfl rfl hl.1 rfl (lv_room (Nat.le_of_ble_eq_true rfl)) dX1_going_14 ⟨Nat.zero_le _, Nat.zero_le _⟩) hS (fun q _ h => Nat.le_trans hS.1 h) (fun q h => Nat.le_trans hS.1 h) (fun r_3 _ _ H_3 _ _ _ hw _ _ _ hS => ?_)
    subst hw
    refine lv_istore_n (lv' := [(3, .int (fX1_kind p0)), (0, .ref h0), (1, .int p0), (2, .int p1)]) hx hb dX1_going_17 rfl hl (by decide) rfl (fun ls hl => ?_)
    refine lv_iload_n hx hb dX1_going_18 rfl (lv_at hl 0 rfl) ?_
    refine lv_bipush (v := 14) hx hb dX1_going_19 (by decide) ?_
    refine lv_icmp_ge (tgt := 28) hx hb dX1_going_21 (by decide) (fun c_4 => ?_) (fun c_4 => ?_)
    · -- taken
      refine lv_iconst (v := 5) hx hb dX1_going_28 (by decide) ?_
      refine lv_istore (lv' := [(4, .int (5 : Int32)), (3, .int (fX1_kind p0)), (0, .ref h0), (1, .int p0), (2, .int p1)]) hx hb dX1_going_29 hl (by decide) rfl (fun ls hl => ?_)
      refine lv_iload_n hx hb dX1_going_31 rfl (lv_at hl 1 rfl) ?_
      refine va_calli (va_runS (As := [.int (fX1_kind p0)]) (rest := []) ⟨hx, hb, hml, hown, hts⟩ (mX1_reach l H_3.size (fX1_kind p0)) (va_cwS 1 hts gX1_going_X1_reach rfl rfl rfl (by decide +kernel) ⟨Nat.le_of_ble_eq_true rfl, Nat.le_of_ble_eq_true rfl⟩) ⟨fb_pure, fun U hU hW => ⟨rfl, congrArg Array.size hU⟩⟩ rfl rfl hl.1 rfl (lv_room (Nat.le_of_ble_eq_true rfl)) dX1_going_32 ⟨Nat.zero_le _, Nat.zero_le _⟩) hS (fun q _ h => Nat.le_trans hS.1 h) (fun q h => Nat.le_trans hS.1 h) (fun r_5 _ _ H_5 _ _ _ hw _ _ _ hS => ?_)
      subst hw
      refine lv_iconst (v := 2) hx hb dX1_going_35 (by decide) ?_
      refine lv_idiv hx hb dX1_going_36 (by decide) ?_
      refine lv_iconst (v := 1) hx hb dX1_going_37 (by decide) ?_
      refine lv_isub hx hb dX1_going_38 ?_
      refine lv_istore (lv' := [(5, .int (((fX1_reach (fX1_kind p0)) / (2 : Int32)) - (1 : Int32))), (4, .int (5 : Int32)), (3, .int (fX1_kind p0)), (0, .ref h0), (1, .int p0), (2, .int p1)]) hx hb dX1_going_39 hl (by decide) rfl (fun ls hl => ?_)
      refine lv_iload_n hx hb dX1_going_41 rfl (lv_at hl 4 rfl) ?_
      refine lv_iload_n hx hb dX1_going_42 rfl (lv_at hl 4 rfl) ?_
      refine lv_iload hx hb dX1_going_43 (lv_at hl 0 rfl) ?_
      refine lv_iload hx hb dX1_going_45 (lv_at hl 1 rfl) ?_
      refine lv_ishl hx hb dX1_going_47 ?_
      refine lv_iand hx hb dX1_going_48 ?_
      refine lv_isub hx hb dX1_going_49 ?_
      refine lv_iload_n hx hb dX1_going_50 rfl (lv_at hl 5 rfl) ?_
      refine lv_iconst (v := 4) hx hb dX1_going_51 (by decide) ?_
      refine lv_idiv hx hb dX1_going_52 (by decide) ?_
      refine lv_iload hx hb dX1_going_53 (lv_at hl 0 rfl) ?_
      refine lv_iand hx hb dX1_going_55 ?_
      refine lv_iload hx hb dX1_going_56 (lv_at hl 1 rfl) ?_
      refine lv_ishl hx hb dX1_going_58 ?_
      refine lv_iadd hx hb dX1_going_59 ?_
      exact W.iret (v := ((p0 - (p0 &&& ((((fX1_reach (fX1_kind p0)) / (2 : Int32)) - (1 : Int32)) <<< ((5 : Int32) &&& 31)))) + (((p1 / (4 : Int32)) &&& (((fX1_reach (fX1_kind p0)) / (2 : Int32)) - (1 : Int32))) <<< ((5 : Int32) &&& 31)))) hx hb hr (fun t ht hW => ⟨⟨((p0 - (p0 &&& ((((fX1_reach (fX1_kind p0)) / (2 : Int32)) - (1 : Int32)) <<< ((5 : Int32) &&& 31)))) + (((p1 / (4 : Int32)) &&& (((fX1_reach (fX1_kind p0)) / (2 : Int32)) - (1 : Int32))) <<< ((5 : Int32) &&& 31))), (), rfl, by rw [fX1_going, if_neg c_2, if_pos c_4], trivial⟩, hS.F ht⟩) hS.2.2 dX1_going_60
    · -- not taken
      refine lv_iconst (v := 0) hx hb dX1_going_24 (by decide) ?_
      refine lv_goto (tgt := 29) hx hb dX1_going_25 (by decide) ?_
      refine lv_istore (lv' := [(4, .int (0 : Int32)), (3, .int (fX1_kind p0)), (0, .ref h0), (1, .int p0), (2, .int p1)]) hx hb dX1_going_29 hl (by decide) rfl (fun ls hl => ?_)
      refine lv_iload_n hx hb dX1_going_31 rfl (lv_at hl 1 rfl) ?_
      refine va_calli (va_runS (As := [.int (fX1_kind p0)]) (rest := []) ⟨hx, hb, hml, hown, hts⟩ (mX1_reach l H_3.size (fX1_kind p0)) (va_cwS 1 hts gX1_going_X1_reach rfl rfl rfl (by decide +kernel) ⟨Nat.le_of_ble_eq_true rfl, Nat.le_of_ble_eq_true rfl⟩) ⟨fb_pure, fun U hU hW => ⟨rfl, congrArg Array.size hU⟩⟩ rfl rfl hl.1 rfl (lv_room (Nat.le_of_ble_eq_true rfl)) dX1_going_32 ⟨Nat.zero_le _, Nat.zero_le _⟩) hS (fun q _ h => Nat.le_trans hS.1 h) (fun q h => Nat.le_trans hS.1 h) (fun r_6 _ _ H_6 _ _ _ hw _ _ _ hS => ?_)
      subst hw
      refine lv_iconst (v := 2) hx hb dX1_going_35 (by decide) ?_
      refine lv_idiv hx hb dX1_going_36 (by decide) ?_
      refine lv_iconst (v := 1) hx hb dX1_going_37 (by decide) ?_
      refine lv_isub hx hb dX1_going_38 ?_
      refine lv_istore (lv' := [(5, .int (((fX1_reach (fX1_kind p0)) / (2 : Int32)) - (1 : Int32))), (4, .int (0 : Int32)), (3, .int (fX1_kind p0)), (0, .ref h0), (1, .int p0), (2, .int p1)]) hx hb dX1_going_39 hl (by decide) rfl (fun ls hl => ?_)
      refine lv_iload_n hx hb dX1_going_41 rfl (lv_at hl 4 rfl) ?_
      refine lv_iload_n hx hb dX1_going_42 rfl (lv_at hl 4 rfl) ?_
      refine lv_iload hx hb dX1_going_43 (lv_at hl 0 rfl) ?_
      refine lv_iload hx hb dX1_going_45 (lv_at hl 1 rfl) ?_
      refine lv_ishl hx hb dX1_going_47 ?_
      refine lv_iand hx hb dX1_going_48 ?_
      refine lv_isub hx hb dX1_going_49 ?_
      refine lv_iload_n hx hb dX1_going_50 rfl (lv_at hl 5 rfl) ?_
      refine lv_iconst (v := 4) hx hb dX1_going_51 (by decide) ?_
      refine lv_idiv hx hb dX1_going_52 (by decide) ?_
      refine lv_iload hx hb dX1_going_53 (lv_at hl 0 rfl) ?_
      refine lv_iand hx hb dX1_going_55 ?_
      refine lv_iload hx hb dX1_going_56 (lv_at hl 1 rfl) ?_
      refine lv_ishl hx hb dX1_going_58 ?_
      refine lv_iadd hx hb dX1_going_59 ?_
      exact W.iret (v := ((p0 - (p0 &&& ((((fX1_reach (fX1_kind p0)) / (2 : Int32)) - (1 : Int32)) <<< ((0 : Int32) &&& 31)))) + (((p1 / (4 : Int32)) &&& (((fX1_reach (fX1_kind p0)) / (2 : Int32)) - (1 : Int32))) <<< ((0 : Int32) &&& 31)))) hx hb hr (fun t ht hW => ⟨⟨((p0 - (p0 &&& ((((fX1_reach (fX1_kind p0)) / (2 : Int32)) - (1 : Int32)) <<< ((0 : Int32) &&& 31)))) + (((p1 / (4 : Int32)) &&& (((fX1_reach (fX1_kind p0)) / (2 : Int32)) - (1 : Int32))) <<< ((0 : Int32) &&& 31))), (), rfl, by rw [fX1_going, if_neg c_2, if_neg c_4], trivial⟩, hS.F ht⟩) hS.2.2 dX1_going_60
  · -- not taken
    refine lv_iload_n hx hb dX1_going_10 rfl (lv_at hl 1 rfl) ?_
    exact W.iret (v := p0) hx hb hr (fun t ht hW => ⟨⟨p0, (), rfl, by rw [fX1_going, if_pos c_2], trivial⟩, hS.F ht⟩) hS.2.2 dX1_going_11
set_option maxHeartbeats 4000000 in
set_option maxRecDepth 100000 in
theorem mX1_turned (l : Launch) (sz : Nat) (h0 : Nat) (p0 : Int32) : Met l yX1_turned wsX1_turned ({ frames := 4, cells := 0, slots := 0, locals := 88 }) (va_Pc [.ref h0, .int p0] (fun U => U.heap.size = sz ∧ wv_rcv RX1 h0 U)) (va_Qi (fun (r : Int32) (_ : Unit) => r = fX1_turned p0) (fun _ _ => True) (fun q : Nat => sz ≤ q)) 0 0 (fun q : Nat => sz ≤ q) := by
  refine Met.ofW (cc := cX1_turned) (maxL := 4) (ret := (some .int)) (by decide) rfl ?_
  intro p e s m args below meth c s₁ B hml hv
  obtain ⟨rfl, hsz, hww⟩ := hv
  have hx := B.exec
  have hb := B.bytes
  have hr := B.returns
  have hts := atoms_spec (ws := wsX1_turned) B.pre
  have hown : s.vm.findClass RX1 = some m.cls := findClass_of_methodNamed B.named
  have hlocks := B.notSynchronized
  subst hsz
  have hS : va_S (fun q : Nat => s.heap.size ≤ q) s.heap s.heap [] := va_S.rf
  have hl := lv_entry ([.ref h0, .int p0]) (n := 4) (Nat.le_of_ble_eq_true rfl)
  rw [lg_entry_eq]
  generalize (lg_sl ([.ref h0, .int p0]) ++ List.replicate (4 - (lg_sl ([.ref h0, .int p0])).length) Slot.unset).toArray = ls at hl ⊢
  have hl : lv_has ls 4 [(0, .ref h0), (1, .int p0)] := hl
  refine lv_aload_n hx hb dX1_turned_0 rfl (lv_at hl 0 rfl) ?_
  refine lv_iload_n hx hb dX1_turned_1 rfl (lv_at hl 1 rfl) ?_
  refine va_calli (va_runV (As := [.int p0]) (rest := []) ⟨hx, hb, hml, hown, hts⟩ (mX1_kind l s.heap.size h0 p0) (cwV 1 hts gX1_turned_X1_kind rfl rfl rfl (by decide +kernel) ⟨Nat.le_of_ble_eq_true rfl, Nat.le_of_ble_eq_true rfl⟩) ⟨fb_rr, hww.at hS, fun U hU hW => ⟨rfl, congrArg Array.size hU, hww.go hS hU hW.alike⟩⟩ rfl rfl hl.1 rfl (lv_room (Nat.le_of_ble_eq_true rfl)) dX1_turned_2 ⟨Nat.zero_le _, Nat.zero_le _⟩) hS (fun q _ h => Nat.le_trans hS.1 h) (fun q h => Nat.le_trans hS.1 h) (fun r_1 _ _ H_1 _ _ _ hw _ _ _ hS => ?_)
  subst hw
  refine lv_istore_n (lv' := [(2, .int (fX1_kind p0)), (0, .ref h0), (1, .int p0)]) hx hb dX1_turned_5 rfl hl (by decide) rfl (fun ls hl => ?_)
  refine lv_iload_n hx hb dX1_turned_6 rfl (lv_at hl 0 rfl) ?_
  refine lv_bipush (v := 14) hx hb dX1_turned_7 (by decide) ?_
  refine lv_icmp_ne (tgt := 16) hx hb dX1_turned_9 (by decide) (fun c_2 => ?_) (fun c_2 => ?_)
  · -- taken
    refine lv_iload_n hx hb dX1_turned_16 rfl (lv_at hl 0 rfl) ?_
    refine lv_bipush (v := 15) hx hb dX1_turned_17 (by decide) ?_
    refine lv_icmp_eq (tgt := 28) hx hb dX1_turned_19 (by decide) (fun c_3 => ?_) (fun c_3 => ?_)
    · -- taken
      refine lv_ldc hx hb hown (hts (.constant RX1 55 (16777216)) (by decide +kernel)) dX1_turned_28 ?_
      refine lv_goto (tgt := 34) hx hb dX1_turned_30 (by decide) ?_
      refine lv_istore_n (lv' := [(3, .int (16777216 : Int32)), (2, .int (fX1_kind p0)), (0, .ref h0), (1, .int p0)]) hx hb dX1_turned_34 rfl hl (by decide) rfl (fun ls hl => ?_)
      refine lv_iload_n hx hb dX1_turned_35 rfl (lv_at hl 3 rfl) ?_
      refine lv_iload_n hx hb dX1_turned_36 rfl (lv_at hl 0 rfl) ?_
      refine lv_iand hx hb dX1_turned_37 ?_
      refine lv_if_ne (tgt := 47) hx hb dX1_turned_38 (by decide) (fun c_4 => ?_) (fun c_4 => ?_)
      · -- taken
        refine lv_iload_n hx hb dX1_turned_47 rfl (lv_at hl 3 rfl) ?_
        refine lv_iload_n hx hb dX1_turned_48 rfl (lv_at hl 0 rfl) ?_
        refine lv_isub hx hb dX1_turned_49 ?_
        exact W.iret (v := (p0 - (16777216 : Int32))) hx hb hr (fun t ht hW => ⟨⟨(p0 - (16777216 : Int32)), (), rfl, by rw [fX1_turned, if_neg c_2, if_pos c_3, if_neg c_4], trivial⟩, hS.F ht⟩) hS.2.2 dX1_turned_50
      · -- not taken
        refine lv_iload_n hx hb dX1_turned_41 rfl (lv_at hl 3 rfl) ?_
        refine lv_iload_n hx hb dX1_turned_42 rfl (lv_at hl 0 rfl) ?_
        refine lv_iadd hx hb dX1_turned_43 ?_
        refine lv_goto (tgt := 50) hx hb dX1_turned_44 (by decide) ?_
        exact W.iret (v := (p0 + (16777216 : Int32))) hx hb hr (fun t ht hW => ⟨⟨(p0 + (16777216 : Int32)), (), rfl, by rw [fX1_turned, if_neg c_2, if_pos c_3, if_pos c_4], trivial⟩, hS.F ht⟩) hS.2.2 dX1_turned_50
    · -- not taken
      refine lv_iload_n hx hb dX1_turned_22 rfl (lv_at hl 0 rfl) ?_
      refine lv_bipush (v := 16) hx hb dX1_turned_23 (by decide) ?_
      refine lv_icmp_ne (tgt := 33) hx hb dX1_turned_25 (by decide) (fun c_5 => ?_) (fun c_5 => ?_)
      · -- taken
        refine lv_iconst (v := 0) hx hb dX1_turned_33 (by decide) ?_
        refine lv_istore_n (lv' := [(3, .int (0 : Int32)), (2, .int (fX1_kind p0)), (0, .ref h0), (1, .int p0)]) hx hb dX1_turned_34 rfl hl (by decide) rfl (fun ls hl => ?_)
        refine lv_iload_n hx hb dX1_turned_35 rfl (lv_at hl 3 rfl) ?_
        refine lv_iload_n hx hb dX1_turned_36 rfl (lv_at hl 0 rfl) ?_
        refine lv_iand hx hb dX1_turned_37 ?_
        refine lv_if_ne (tgt := 47) hx hb dX1_turned_38 (by decide) (fun c_6 => ?_) (fun c_6 => ?_)
        · -- taken
          refine lv_iload_n hx hb dX1_turned_47 rfl (lv_at hl 3 rfl) ?_
          refine lv_iload_n hx hb dX1_turned_48 rfl (lv_at hl 0 rfl) ?_
          refine lv_isub hx hb dX1_turned_49 ?_
          exact W.iret (v := (p0 - (0 : Int32))) hx hb hr (fun t ht hW => ⟨⟨(p0 - (0 : Int32)), (), rfl, by rw [fX1_turned, if_neg c_2, if_neg c_3, if_neg c_5, if_neg c_6], trivial⟩, hS.F ht⟩) hS.2.2 dX1_turned_50
        · -- not taken
          refine lv_iload_n hx hb dX1_turned_41 rfl (lv_at hl 3 rfl) ?_
          refine lv_iload_n hx hb dX1_turned_42 rfl (lv_at hl 0 rfl) ?_
          refine lv_iadd hx hb dX1_turned_43 ?_
          refine lv_goto (tgt := 50) hx hb dX1_turned_44 (by decide) ?_
          exact W.iret (v := (p0 + (0 : Int32))) hx hb hr (fun t ht hW => ⟨⟨(p0 + (0 : Int32)), (), rfl, by rw [fX1_turned, if_neg c_2, if_neg c_3, if_neg c_5, if_pos c_6], trivial⟩, hS.F ht⟩) hS.2.2 dX1_turned_50
      · -- not taken
        refine lv_ldc hx hb hown (hts (.constant RX1 55 (16777216)) (by decide +kernel)) dX1_turned_28 ?_
        refine lv_goto (tgt := 34) hx hb dX1_turned_30 (by decide) ?_
        refine lv_istore_n (lv' := [(3, .int (16777216 : Int32)), (2, .int (fX1_kind p0)), (0, .ref h0), (1, .int p0)]) hx hb dX1_turned_34 rfl hl (by decide) rfl (fun ls hl => ?_)
        refine lv_iload_n hx hb dX1_turned_35 rfl (lv_at hl 3 rfl) ?_
        refine lv_iload_n hx hb dX1_turned_36 rfl (lv_at hl 0 rfl) ?_
        refine lv_iand hx hb dX1_turned_37 ?_
        refine lv_if_ne (tgt := 47) hx hb dX1_turned_38 (by decide) (fun c_7 => ?_) (fun c_7 => ?_)
        · -- taken
          refine lv_iload_n hx hb dX1_turned_47 rfl (lv_at hl 3 rfl) ?_
          refine lv_iload_n hx hb dX1_turned_48 rfl (lv_at hl 0 rfl) ?_
          refine lv_isub hx hb dX1_turned_49 ?_
          exact W.iret (v := (p0 - (16777216 : Int32))) hx hb hr (fun t ht hW => ⟨⟨(p0 - (16777216 : Int32)), (), rfl, by rw [fX1_turned, if_neg c_2, if_neg c_3, if_pos c_5, if_neg c_7], trivial⟩, hS.F ht⟩) hS.2.2 dX1_turned_50
        · -- not taken
          refine lv_iload_n hx hb dX1_turned_41 rfl (lv_at hl 3 rfl) ?_
          refine lv_iload_n hx hb dX1_turned_42 rfl (lv_at hl 0 rfl) ?_
          refine lv_iadd hx hb dX1_turned_43 ?_
          refine lv_goto (tgt := 50) hx hb dX1_turned_44 (by decide) ?_
          exact W.iret (v := (p0 + (16777216 : Int32))) hx hb hr (fun t ht hW => ⟨⟨(p0 + (16777216 : Int32)), (), rfl, by rw [fX1_turned, if_neg c_2, if_neg c_3, if_pos c_5, if_pos c_7], trivial⟩, hS.F ht⟩) hS.2.2 dX1_turned_50
  · -- not taken
    refine lv_iconst (v := 1) hx hb dX1_turned_12 (by decide) ?_
    refine lv_goto (tgt := 34) hx hb dX1_turned_13 (by decide) ?_
    refine lv_istore_n (lv' := [(3, .int (1 : Int32)), (2, .int (fX1_kind p0)), (0, .ref h0), (1, .int p0)]) hx hb dX1_turned_34 rfl hl (by decide) rfl (fun ls hl => ?_)
    refine lv_iload_n hx hb dX1_turned_35 rfl (lv_at hl 3 rfl) ?_
    refine lv_iload_n hx hb dX1_turned_36 rfl (lv_at hl 0 rfl) ?_
    refine lv_iand hx hb dX1_turned_37 ?_
    refine lv_if_ne (tgt := 47) hx hb dX1_turned_38 (by decide) (fun c_8 => ?_) (fun c_8 => ?_)
    · -- taken
      refine lv_iload_n hx hb dX1_turned_47 rfl (lv_at hl 3 rfl) ?_
      refine lv_iload_n hx hb dX1_turned_48 rfl (lv_at hl 0 rfl) ?_
      refine lv_isub hx hb dX1_turned_49 ?_
      exact W.iret (v := (p0 - (1 : Int32))) hx hb hr (fun t ht hW => ⟨⟨(p0 - (1 : Int32)), (), rfl, by rw [fX1_turned, if_pos c_2, if_neg c_8], trivial⟩, hS.F ht⟩) hS.2.2 dX1_turned_50
    · -- not taken
      refine lv_iload_n hx hb dX1_turned_41 rfl (lv_at hl 3 rfl) ?_
      refine lv_iload_n hx hb dX1_turned_42 rfl (lv_at hl 0 rfl) ?_
      refine lv_iadd hx hb dX1_turned_43 ?_
      refine lv_goto (tgt := 50) hx hb dX1_turned_44 (by decide) ?_
      exact W.iret (v := (p0 + (1 : Int32))) hx hb hr (fun t ht hW => ⟨⟨(p0 + (1 : Int32)), (), rfl, by rw [fX1_turned, if_pos c_2, if_pos c_8], trivial⟩, hS.F ht⟩) hS.2.2 dX1_turned_50
set_option maxHeartbeats 4000000 in
set_option maxRecDepth 100000 in
theorem mX1_page (l : Launch) (sz : Nat) (h0 : Nat) (p0 : Int32) (p1 : Int64) : Met l yX1_page wsX1_page ({ frames := 4, cells := 0, slots := 0, locals := 88 }) (va_Pc [.ref h0, .int p0, .long p1] (fun U => U.heap.size = sz ∧ wv_rcv RX1 h0 U)) (va_Ql (fun (r : Int64) (_ : Unit) => r = fX1_page p0 p1) (fun _ _ => True) (fun q : Nat => sz ≤ q)) 0 0 (fun q : Nat => sz ≤ q) := by
  refine Met.ofW (cc := cX1_page) (maxL := 6) (ret := (some .long)) (by decide) rfl ?_
  intro p e s m args below meth c s₁ B hml hv
  obtain ⟨rfl, hsz, hww⟩ := hv
  have hx := B.exec
  have hb := B.bytes
  have hr := B.returns
  have hts := atoms_spec (ws := wsX1_page) B.pre
  have hown : s.vm.findClass RX1 = some m.cls := findClass_of_methodNamed B.named
  have hlocks := B.notSynchronized
  subst hsz
  have hS : va_S (fun q : Nat => s.heap.size ≤ q) s.heap s.heap [] := va_S.rf
  have hl := lv_entry ([.ref h0, .int p0, .long p1]) (n := 6) (Nat.le_of_ble_eq_true rfl)
  rw [lg_entry_eq]
  generalize (lg_sl ([.ref h0, .int p0, .long p1]) ++ List.replicate (6 - (lg_sl ([.ref h0, .int p0, .long p1])).length) Slot.unset).toArray = ls at hl ⊢
  have hl : lv_has ls 6 [(0, .ref h0), (1, .int p0), (2, .long p1)] := hl
  refine lv_aload_n hx hb dX1_page_0 rfl (lv_at hl 0 rfl) ?_
  refine lv_iload_n hx hb dX1_page_1 rfl (lv_at hl 1 rfl) ?_
  refine va_calli (va_runV (As := [.int p0]) (rest := []) ⟨hx, hb, hml, hown, hts⟩ (mX1_kind l s.heap.size h0 p0) (cwV 1 hts gX1_page_X1_kind rfl rfl rfl (by decide +kernel) ⟨Nat.le_of_ble_eq_true rfl, Nat.le_of_ble_eq_true rfl⟩) ⟨fb_rr, hww.at hS, fun U hU hW => ⟨rfl, congrArg Array.size hU, hww.go hS hU hW.alike⟩⟩ rfl rfl hl.1 rfl (lv_room (Nat.le_of_ble_eq_true rfl)) dX1_page_2 ⟨Nat.zero_le _, Nat.zero_le _⟩) hS (fun q _ h => Nat.le_trans hS.1 h) (fun q h => Nat.le_trans hS.1 h) (fun r_1 _ _ H_1 _ _ _ hw _ _ _ hS => ?_)
  subst hw
  refine lv_iconst (v := 5) hx hb dX1_page_5 (by decide) ?_
  refine lv_icmp_eq (tgt := 13) hx hb dX1_page_6 (by decide) (fun c_2 => ?_) (fun c_2 => ?_)
  · -- taken
    refine lv_ldc2 hx hb hown (hts (.constantLong RX1 49 (4)) (by decide +kernel)) dX1_page_13 ?_
    refine lv_iload_n hx hb dX1_page_16 rfl (lv_at hl 1 rfl) ?_
    refine lv_iconst (v := 5) hx hb dX1_page_17 (by decide) ?_
    refine lv_bipush (v := 23) hx hb dX1_page_18 (by decide) ?_
    refine va_calli (va_runS (As := [.int p0, .int (5 : Int32), .int (23 : Int32)]) (rest := [.long (4 : Int64)]) ⟨hx, hb, hml, hown, hts⟩ (mX1_signed l H_1.size p0 (5 : Int32) (23 : Int32)) (va_cwS 3 hts gX1_page_X1_signed rfl rfl rfl (by decide +kernel) ⟨Nat.le_of_ble_eq_true rfl, Nat.le_of_ble_eq_true rfl⟩) ⟨fb_pure, fun U hU hW => ⟨rfl, congrArg Array.size hU⟩⟩ rfl rfl hl.1 rfl (lv_room (Nat.le_of_ble_eq_true rfl)) dX1_page_20 ⟨Nat.zero_le _, Nat.zero_le _⟩) hS (fun q _ h => Nat.le_trans hS.1 h) (fun q h => Nat.le_trans hS.1 h) (fun r_3 _ _ H_3 _ _ _ hw _ _ _ hS => ?_)
    subst hw
    refine lv_i2l hx hb dX1_page_23 rfl ?_
    refine lv_lmul hx hb dX1_page_24 ?_
    refine lv_iload_n hx hb dX1_page_25 rfl (lv_at hl 1 rfl) ?_
    refine lv_bipush (v := 29) hx hb dX1_page_26 (by decide) ?_
    refine lv_bipush (v := 30) hx hb dX1_page_28 (by decide) ?_
    refine va_calli (va_runS (As := [.int p0, .int (29 : Int32), .int (30 : Int32)]) (rest := [.long ((4 : Int64) * (((fX1_signed p0 (5 : Int32) (23 : Int32))).toInt64))]) ⟨hx, hb, hml, hown, hts⟩ (mX1_bits l H_3.size p0 (29 : Int32) (30 : Int32)) (va_cwS 3 hts gX1_page_X1_bits rfl rfl rfl (by decide +kernel) ⟨Nat.le_of_ble_eq_true rfl, Nat.le_of_ble_eq_true rfl⟩) ⟨fb_pure, fun U hU hW => ⟨rfl, congrArg Array.size hU⟩⟩ rfl rfl hl.1 rfl (lv_room (Nat.le_of_ble_eq_true rfl)) dX1_page_30 ⟨Nat.zero_le _, Nat.zero_le _⟩) hS (fun q _ h => Nat.le_trans hS.1 h) (fun q h => Nat.le_trans hS.1 h) (fun r_4 _ _ H_4 _ _ _ hw _ _ _ hS => ?_)
    subst hw
    refine lv_i2l hx hb dX1_page_33 rfl ?_
    refine lv_ladd hx hb dX1_page_34 ?_
    refine lv_lstore (lv' := [(4, .long (((4 : Int64) * (((fX1_signed p0 (5 : Int32) (23 : Int32))).toInt64)) + (((fX1_bits p0 (29 : Int32) (30 : Int32))).toInt64))), (0, .ref h0), (1, .int p0), (2, .long p1)]) hx hb dX1_page_35 hl (by decide) rfl (fun ls hl => ?_)
    refine lv_lload_n hx hb dX1_page_37 rfl (lv_at hl 3 rfl) ?_
    refine lv_lload_n hx hb dX1_page_38 rfl (lv_at hl 3 rfl) ?_
    refine lv_ldc2 hx hb hown (hts (.constantLong RX1 58 (4095)) (by decide +kernel)) dX1_page_39 ?_
    refine lv_land hx hb dX1_page_42 ?_
    refine lv_lsub hx hb dX1_page_43 ?_
    refine lv_ldc2 hx hb hown (hts (.constantLong RX1 60 (4096)) (by decide +kernel)) dX1_page_44 ?_
    refine lv_lload hx hb dX1_page_47 (lv_at hl 0 rfl) ?_
    refine lv_lmul hx hb dX1_page_49 ?_
    refine lv_ladd hx hb dX1_page_50 ?_
    exact W.lret (v := ((p1 - (p1 &&& (4095 : Int64))) + ((4096 : Int64) * (((4 : Int64) * (((fX1_signed p0 (5 : Int32) (23 : Int32))).toInt64)) + (((fX1_bits p0 (29 : Int32) (30 : Int32))).toInt64))))) hx hb hr (fun t ht hW => ⟨⟨((p1 - (p1 &&& (4095 : Int64))) + ((4096 : Int64) * (((4 : Int64) * (((fX1_signed p0 (5 : Int32) (23 : Int32))).toInt64)) + (((fX1_bits p0 (29 : Int32) (30 : Int32))).toInt64)))), (), rfl, by rw [fX1_page, if_pos c_2], trivial⟩, hS.F ht⟩) hS.2.2 dX1_page_51
  · -- not taken
    refine lv_ldc2 hx hb hown (hts (.constantLong RX1 56 (-1)) (by decide +kernel)) dX1_page_9 ?_
    exact W.lret (v := (-1 : Int64)) hx hb hr (fun t ht hW => ⟨⟨(-1 : Int64), (), rfl, by rw [fX1_page, if_neg c_2], trivial⟩, hS.F ht⟩) hS.2.2 dX1_page_12
set_option maxHeartbeats 4000000 in
set_option maxRecDepth 100000 in
theorem mX1_paging (l : Launch) (sz : Nat) (h0 : Nat) (p0 : Int32) (p1 : Int64) (p2 : Int64) : Met l yX1_paging wsX1_paging ({ frames := 4, cells := 0, slots := 0, locals := 88 }) (va_Pc [.ref h0, .int p0, .long p1, .long p2] (fun U => U.heap.size = sz ∧ wv_rcv RX1 h0 U)) (va_Qi (fun (r : Int32) (_ : Unit) => r = fX1_paging p0 p1 p2) (fun _ _ => True) (fun q : Nat => sz ≤ q)) 0 0 (fun q : Nat => sz ≤ q) := by
  refine Met.ofW (cc := cX1_paging) (maxL := 9) (ret := (some .int)) (by decide) rfl ?_
  intro p e s m args below meth c s₁ B hml hv
  obtain ⟨rfl, hsz, hww⟩ := hv
  have hx := B.exec
  have hb := B.bytes
  have hr := B.returns
  have hts := atoms_spec (ws := wsX1_paging) B.pre
  have hown : s.vm.findClass RX1 = some m.cls := findClass_of_methodNamed B.named
  have hlocks := B.notSynchronized
  subst hsz
  have hS : va_S (fun q : Nat => s.heap.size ≤ q) s.heap s.heap [] := va_S.rf
  have hl := lv_entry ([.ref h0, .int p0, .long p1, .long p2]) (n := 9) (Nat.le_of_ble_eq_true rfl)
  rw [lg_entry_eq]
  generalize (lg_sl ([.ref h0, .int p0, .long p1, .long p2]) ++ List.replicate (9 - (lg_sl ([.ref h0, .int p0, .long p1, .long p2])).length) Slot.unset).toArray = ls at hl ⊢
  have hl : lv_has ls 9 [(0, .ref h0), (1, .int p0), (2, .long p1), (4, .long p2)] := hl
  refine lv_aload_n hx hb dX1_paging_0 rfl (lv_at hl 0 rfl) ?_
  refine lv_iload_n hx hb dX1_paging_1 rfl (lv_at hl 1 rfl) ?_
  refine va_calli (va_runV (As := [.int p0]) (rest := []) ⟨hx, hb, hml, hown, hts⟩ (mX1_kind l s.heap.size h0 p0) (cwV 1 hts gX1_paging_X1_kind rfl rfl rfl (by decide +kernel) ⟨Nat.le_of_ble_eq_true rfl, Nat.le_of_ble_eq_true rfl⟩) ⟨fb_rr, hww.at hS, fun U hU hW => ⟨rfl, congrArg Array.size hU, hww.go hS hU hW.alike⟩⟩ rfl rfl hl.1 rfl (lv_room (Nat.le_of_ble_eq_true rfl)) dX1_paging_2 ⟨Nat.zero_le _, Nat.zero_le _⟩) hS (fun q _ h => Nat.le_trans hS.1 h) (fun q h => Nat.le_trans hS.1 h) (fun r_1 _ _ H_1 _ _ _ hw _ _ _ hS => ?_)
  subst hw
  refine lv_iconst (v := 5) hx hb dX1_paging_5 (by decide) ?_
  refine lv_icmp_eq (tgt := 11) hx hb dX1_paging_6 (by decide) (fun c_2 => ?_) (fun c_2 => ?_)
  · -- taken
    refine lv_lload hx hb dX1_paging_11 (lv_at hl 3 rfl) ?_
    refine lv_lload hx hb dX1_paging_13 (lv_at hl 3 rfl) ?_
    refine lv_ldc2 hx hb hown (hts (.constantLong RX1 58 (4095)) (by decide +kernel)) dX1_paging_15 ?_
    refine lv_land hx hb dX1_paging_18 ?_
    refine lv_lsub hx hb dX1_paging_19 ?_
    refine lv_lload_n hx hb dX1_paging_20 rfl (lv_at hl 2 rfl) ?_
    refine lv_lload_n hx hb dX1_paging_21 rfl (lv_at hl 2 rfl) ?_
    refine lv_ldc2 hx hb hown (hts (.constantLong RX1 58 (4095)) (by decide +kernel)) dX1_paging_22 ?_
    refine lv_land hx hb dX1_paging_25 ?_
    refine lv_lsub hx hb dX1_paging_26 ?_
    refine lv_lsub hx hb dX1_paging_27 ?_
    refine lv_ldc2 hx hb hown (hts (.constantLong RX1 60 (4096)) (by decide +kernel)) dX1_paging_28 ?_
    refine lv_ldiv hx hb dX1_paging_31 (by decide) ?_
    refine lv_lstore (lv' := [(6, .long (((p2 - (p2 &&& (4095 : Int64))) - (p1 - (p1 &&& (4095 : Int64)))) / (4096 : Int64))), (0, .ref h0), (1, .int p0), (2, .long p1), (4, .long p2)]) hx hb dX1_paging_32 hl (by decide) rfl (fun ls hl => ?_)
    refine lv_lload hx hb dX1_paging_34 (lv_at hl 0 rfl) ?_
    refine lv_ldc2 hx hb hown (hts (.constantLong RX1 62 (-1048576)) (by decide +kernel)) dX1_paging_36 ?_
    refine W.lcmp hx hb dX1_paging_39 ?_
    refine lv_if_lt (tgt := 52) hx hb dX1_paging_40 (by decide) (fun c_3 => ?_) (fun c_3 => ?_)
    · -- taken
      refine lv_iload_n hx hb dX1_paging_52 rfl (lv_at hl 2 rfl) ?_
      exact W.iret (v := p0) hx hb hr (fun t ht hW => ⟨⟨p0, (), rfl, by rw [fX1_paging, if_pos c_2, if_pos c_3], trivial⟩, hS.F ht⟩) hS.2.2 dX1_paging_53
    · -- not taken
      refine lv_lload hx hb dX1_paging_43 (lv_at hl 0 rfl) ?_
      refine lv_ldc2 hx hb hown (hts (.constantLong RX1 64 (1048575)) (by decide +kernel)) dX1_paging_45 ?_
      refine W.lcmp hx hb dX1_paging_48 ?_
      refine lv_if_le (tgt := 54) hx hb dX1_paging_49 (by decide) (fun c_4 => ?_) (fun c_4 => ?_)
      · -- taken
        refine lv_lload hx hb dX1_paging_54 (lv_at hl 0 rfl) ?_
        refine lv_ldc2 hx hb hown (hts (.constantLong RX1 66 (3)) (by decide +kernel)) dX1_paging_56 ?_
        refine lv_land hx hb dX1_paging_59 ?_
        refine lv_l2i hx hb dX1_paging_60 rfl ?_
        refine lv_istore (lv' := [(8, .int ((((((p2 - (p2 &&& (4095 : Int64))) - (p1 - (p1 &&& (4095 : Int64)))) / (4096 : Int64)) &&& (3 : Int64))).toInt32)), (6, .long (((p2 - (p2 &&& (4095 : Int64))) - (p1 - (p1 &&& (4095 : Int64)))) / (4096 : Int64))), (0, .ref h0), (1, .int p0), (2, .long p1), (4, .long p2)]) hx hb dX1_paging_61 hl (by decide) rfl (fun ls hl => ?_)
        refine lv_iload_n hx hb dX1_paging_63 rfl (lv_at hl 3 rfl) ?_
        refine lv_iconst (v := 0) hx hb dX1_paging_64 (by decide) ?_
        refine lv_iconst (v := 4) hx hb dX1_paging_65 (by decide) ?_
        refine va_calli (va_runS (As := [.int p0, .int (0 : Int32), .int (4 : Int32)]) (rest := []) ⟨hx, hb, hml, hown, hts⟩ (mX1_bits l H_1.size p0 (0 : Int32) (4 : Int32)) (va_cwS 3 hts gX1_paging_X1_bits rfl rfl rfl (by decide +kernel) ⟨Nat.le_of_ble_eq_true rfl, Nat.le_of_ble_eq_true rfl⟩) ⟨fb_pure, fun U hU hW => ⟨rfl, congrArg Array.size hU⟩⟩ rfl rfl hl.1 rfl (lv_room (Nat.le_of_ble_eq_true rfl)) dX1_paging_66 ⟨Nat.zero_le _, Nat.zero_le _⟩) hS (fun q _ h => Nat.le_trans hS.1 h) (fun q h => Nat.le_trans hS.1 h) (fun r_5 _ _ H_5 _ _ _ hw _ _ _ hS => ?_)
        subst hw
        refine lv_ldc hx hb hown (hts (.constant RX1 68 (1879048192)) (by decide +kernel)) dX1_paging_69 ?_
        refine lv_isub hx hb dX1_paging_71 ?_
        refine lv_iload hx hb dX1_paging_72 (lv_at hl 0 rfl) ?_
        refine lv_ldc hx hb hown (hts (.constant RX1 69 (536870912)) (by decide +kernel)) dX1_paging_74 ?_
        refine lv_imul hx hb dX1_paging_76 ?_
        refine lv_iadd hx hb dX1_paging_77 ?_
        refine lv_lload hx hb dX1_paging_78 (lv_at hl 1 rfl) ?_
        refine lv_iload hx hb dX1_paging_80 (lv_at hl 0 rfl) ?_
        refine lv_i2l hx hb dX1_paging_82 rfl ?_
        refine lv_lsub hx hb dX1_paging_83 ?_
        refine lv_ldc2 hx hb hown (hts (.constantLong RX1 49 (4)) (by decide +kernel)) dX1_paging_84 ?_
        refine lv_ldiv hx hb dX1_paging_87 (by decide) ?_
        refine lv_ldc2 hx hb hown (hts (.constantLong RX1 70 (524287)) (by decide +kernel)) dX1_paging_88 ?_
        refine lv_land hx hb dX1_paging_91 ?_
        refine lv_l2i hx hb dX1_paging_92 rfl ?_
        refine lv_bipush (v := 32) hx hb dX1_paging_93 (by decide) ?_
        refine lv_imul hx hb dX1_paging_95 ?_
        refine lv_iadd hx hb dX1_paging_96 ?_
        exact W.iret (v := ((((fX1_bits p0 (0 : Int32) (4 : Int32)) - (1879048192 : Int32)) + (((((((p2 - (p2 &&& (4095 : Int64))) - (p1 - (p1 &&& (4095 : Int64)))) / (4096 : Int64)) &&& (3 : Int64))).toInt32) * (536870912 : Int32))) + (((((((((p2 - (p2 &&& (4095 : Int64))) - (p1 - (p1 &&& (4095 : Int64)))) / (4096 : Int64)) - ((((((((p2 - (p2 &&& (4095 : Int64))) - (p1 - (p1 &&& (4095 : Int64)))) / (4096 : Int64)) &&& (3 : Int64))).toInt32)).toInt64)) / (4 : Int64)) &&& (524287 : Int64))).toInt32) * (32 : Int32)))) hx hb hr (fun t ht hW => ⟨⟨((((fX1_bits p0 (0 : Int32) (4 : Int32)) - (1879048192 : Int32)) + (((((((p2 - (p2 &&& (4095 : Int64))) - (p1 - (p1 &&& (4095 : Int64)))) / (4096 : Int64)) &&& (3 : Int64))).toInt32) * (536870912 : Int32))) + (((((((((p2 - (p2 &&& (4095 : Int64))) - (p1 - (p1 &&& (4095 : Int64)))) / (4096 : Int64)) - ((((((((p2 - (p2 &&& (4095 : Int64))) - (p1 - (p1 &&& (4095 : Int64)))) / (4096 : Int64)) &&& (3 : Int64))).toInt32)).toInt64)) / (4 : Int64)) &&& (524287 : Int64))).toInt32) * (32 : Int32))), (), rfl, by rw [fX1_paging, if_pos c_2, if_neg c_3, if_pos c_4], trivial⟩, hS.F ht⟩) hS.2.2 dX1_paging_97
      · -- not taken
        refine lv_iload_n hx hb dX1_paging_52 rfl (lv_at hl 2 rfl) ?_
        exact W.iret (v := p0) hx hb hr (fun t ht hW => ⟨⟨p0, (), rfl, by rw [fX1_paging, if_pos c_2, if_neg c_3, if_neg c_4], trivial⟩, hS.F ht⟩) hS.2.2 dX1_paging_53
  · -- not taken
    refine lv_iload_n hx hb dX1_paging_9 rfl (lv_at hl 1 rfl) ?_
    exact W.iret (v := p0) hx hb hr (fun t ht hW => ⟨⟨p0, (), rfl, by rw [fX1_paging, if_neg c_2], trivial⟩, hS.F ht⟩) hS.2.2 dX1_paging_10
set_option maxHeartbeats 4000000 in
set_option maxRecDepth 100000 in
theorem mX1_goesOn (l : Launch) (sz : Nat) (h0 : Nat) (p0 : Int32) : Met l yX1_goesOn wsX1_goesOn ({ frames := 4, cells := 0, slots := 0, locals := 88 }) (va_Pc [.ref h0, .int p0] (fun U => U.heap.size = sz ∧ wv_rcv RX1 h0 U)) (va_Qi (fun (r : Int32) (_ : Unit) => r = fX1_goesOn p0) (fun _ _ => True) (fun q : Nat => sz ≤ q)) 0 0 (fun q : Nat => sz ≤ q) := by
  refine Met.ofW (cc := cX1_goesOn) (maxL := 3) (ret := (some .boolean)) (by decide) rfl ?_
  intro p e s m args below meth c s₁ B hml hv
  obtain ⟨rfl, hsz, hww⟩ := hv
  have hx := B.exec
  have hb := B.bytes
  have hr := B.returns
  have hts := atoms_spec (ws := wsX1_goesOn) B.pre
  have hown : s.vm.findClass RX1 = some m.cls := findClass_of_methodNamed B.named
  have hlocks := B.notSynchronized
  subst hsz
  have hS : va_S (fun q : Nat => s.heap.size ≤ q) s.heap s.heap [] := va_S.rf
  have hl := lv_entry ([.ref h0, .int p0]) (n := 3) (Nat.le_of_ble_eq_true rfl)
  rw [lg_entry_eq]
  generalize (lg_sl ([.ref h0, .int p0]) ++ List.replicate (3 - (lg_sl ([.ref h0, .int p0])).length) Slot.unset).toArray = ls at hl ⊢
  have hl : lv_has ls 3 [(0, .ref h0), (1, .int p0)] := hl
  refine lv_aload_n hx hb dX1_goesOn_0 rfl (lv_at hl 0 rfl) ?_
  refine lv_iload_n hx hb dX1_goesOn_1 rfl (lv_at hl 1 rfl) ?_
  refine va_calli (va_runV (As := [.int p0]) (rest := []) ⟨hx, hb, hml, hown, hts⟩ (mX1_kind l s.heap.size h0 p0) (cwV 1 hts gX1_goesOn_X1_kind rfl rfl rfl (by decide +kernel) ⟨Nat.le_of_ble_eq_true rfl, Nat.le_of_ble_eq_true rfl⟩) ⟨fb_rr, hww.at hS, fun U hU hW => ⟨rfl, congrArg Array.size hU, hww.go hS hU hW.alike⟩⟩ rfl rfl hl.1 rfl (lv_room (Nat.le_of_ble_eq_true rfl)) dX1_goesOn_2 ⟨Nat.zero_le _, Nat.zero_le _⟩) hS (fun q _ h => Nat.le_trans hS.1 h) (fun q h => Nat.le_trans hS.1 h) (fun r_1 _ _ H_1 _ _ _ hw _ _ _ hS => ?_)
  subst hw
  refine lv_istore_n (lv' := [(2, .int (fX1_kind p0)), (0, .ref h0), (1, .int p0)]) hx hb dX1_goesOn_5 rfl hl (by decide) rfl (fun ls hl => ?_)
  refine lv_iload_n hx hb dX1_goesOn_6 rfl (lv_at hl 0 rfl) ?_
  refine lv_if_le (tgt := 32) hx hb dX1_goesOn_7 (by decide) (fun c_2 => ?_) (fun c_2 => ?_)
  · -- taken
    refine lv_iconst (v := 0) hx hb dX1_goesOn_32 (by decide) ?_
    exact W.zret (v := (0 : Int32)) hx hb hr (nb_01 (Or.inl rfl)) (fun t ht hW => ⟨⟨(0 : Int32), (), rfl, by rw [fX1_goesOn, if_pos c_2], trivial⟩, hS.F ht⟩) hS.2.2 dX1_goesOn_33
  · -- not taken
    refine lv_iload_n hx hb dX1_goesOn_10 rfl (lv_at hl 0 rfl) ?_
    refine lv_bipush (v := 12) hx hb dX1_goesOn_11 (by decide) ?_
    refine lv_icmp_eq (tgt := 32) hx hb dX1_goesOn_13 (by decide) (fun c_3 => ?_) (fun c_3 => ?_)
    · -- taken
      refine lv_iconst (v := 0) hx hb dX1_goesOn_32 (by decide) ?_
      exact W.zret (v := (0 : Int32)) hx hb hr (nb_01 (Or.inl rfl)) (fun t ht hW => ⟨⟨(0 : Int32), (), rfl, by rw [fX1_goesOn, if_neg c_2, if_pos c_3], trivial⟩, hS.F ht⟩) hS.2.2 dX1_goesOn_33
    · -- not taken
      refine lv_iload_n hx hb dX1_goesOn_16 rfl (lv_at hl 0 rfl) ?_
      refine lv_bipush (v := 17) hx hb dX1_goesOn_17 (by decide) ?_
      refine lv_icmp_eq (tgt := 32) hx hb dX1_goesOn_19 (by decide) (fun c_4 => ?_) (fun c_4 => ?_)
      · -- taken
        refine lv_iconst (v := 0) hx hb dX1_goesOn_32 (by decide) ?_
        exact W.zret (v := (0 : Int32)) hx hb hr (nb_01 (Or.inl rfl)) (fun t ht hW => ⟨⟨(0 : Int32), (), rfl, by rw [fX1_goesOn, if_neg c_2, if_neg c_3, if_pos c_4], trivial⟩, hS.F ht⟩) hS.2.2 dX1_goesOn_33
      · -- not taken
        refine lv_iload_n hx hb dX1_goesOn_22 rfl (lv_at hl 0 rfl) ?_
        refine lv_bipush (v := 19) hx hb dX1_goesOn_23 (by decide) ?_
        refine lv_icmp_eq (tgt := 32) hx hb dX1_goesOn_25 (by decide) (fun c_5 => ?_) (fun c_5 => ?_)
        · -- taken
          refine lv_iconst (v := 0) hx hb dX1_goesOn_32 (by decide) ?_
          exact W.zret (v := (0 : Int32)) hx hb hr (nb_01 (Or.inl rfl)) (fun t ht hW => ⟨⟨(0 : Int32), (), rfl, by rw [fX1_goesOn, if_neg c_2, if_neg c_3, if_neg c_4, if_pos c_5], trivial⟩, hS.F ht⟩) hS.2.2 dX1_goesOn_33
        · -- not taken
          refine lv_iconst (v := 1) hx hb dX1_goesOn_28 (by decide) ?_
          refine lv_goto (tgt := 33) hx hb dX1_goesOn_29 (by decide) ?_
          exact W.zret (v := (1 : Int32)) hx hb hr (nb_01 (Or.inr rfl)) (fun t ht hW => ⟨⟨(1 : Int32), (), rfl, by rw [fX1_goesOn, if_neg c_2, if_neg c_3, if_neg c_4, if_neg c_5], trivial⟩, hS.F ht⟩) hS.2.2 dX1_goesOn_33
set_option maxHeartbeats 4000000 in
set_option maxRecDepth 100000 in
theorem mX1_register (l : Launch) (sz : Nat) (h0 : Nat) (p0 : Int32) (p1 : Int32) : Met l yX1_register wsX1_register ({ frames := 4, cells := 0, slots := 0, locals := 88 }) (va_Pc [.ref h0, .int p0, .int p1] (fun U => U.heap.size = sz ∧ wv_rcv RX1 h0 U)) (va_Qi (fun (r : Int32) (_ : Unit) => r = fX1_register p0 p1) (fun _ _ => True) (fun q : Nat => sz ≤ q)) 0 0 (fun q : Nat => sz ≤ q) := by
  refine Met.ofW (cc := cX1_register) (maxL := 6) (ret := (some .int)) (by decide) rfl ?_
  intro p e s m args below meth c s₁ B hml hv
  obtain ⟨rfl, hsz, hww⟩ := hv
  have hx := B.exec
  have hb := B.bytes
  have hr := B.returns
  have hts := atoms_spec (ws := wsX1_register) B.pre
  have hown : s.vm.findClass RX1 = some m.cls := findClass_of_methodNamed B.named
  have hlocks := B.notSynchronized
  subst hsz
  have hS : va_S (fun q : Nat => s.heap.size ≤ q) s.heap s.heap [] := va_S.rf
  have hl := lv_entry ([.ref h0, .int p0, .int p1]) (n := 6) (Nat.le_of_ble_eq_true rfl)
  rw [lg_entry_eq]
  generalize (lg_sl ([.ref h0, .int p0, .int p1]) ++ List.replicate (6 - (lg_sl ([.ref h0, .int p0, .int p1])).length) Slot.unset).toArray = ls at hl ⊢
  have hl : lv_has ls 6 [(0, .ref h0), (1, .int p0), (2, .int p1)] := hl
  refine lv_aload_n hx hb dX1_register_0 rfl (lv_at hl 0 rfl) ?_
  refine lv_iload_n hx hb dX1_register_1 rfl (lv_at hl 1 rfl) ?_
  refine va_calli (va_runV (As := [.int p0]) (rest := []) ⟨hx, hb, hml, hown, hts⟩ (mX1_kind l s.heap.size h0 p0) (cwV 1 hts gX1_register_X1_kind rfl rfl rfl (by decide +kernel) ⟨Nat.le_of_ble_eq_true rfl, Nat.le_of_ble_eq_true rfl⟩) ⟨fb_rr, hww.at hS, fun U hU hW => ⟨rfl, congrArg Array.size hU, hww.go hS hU hW.alike⟩⟩ rfl rfl hl.1 rfl (lv_room (Nat.le_of_ble_eq_true rfl)) dX1_register_2 ⟨Nat.zero_le _, Nat.zero_le _⟩) hS (fun q _ h => Nat.le_trans hS.1 h) (fun q h => Nat.le_trans hS.1 h) (fun r_1 _ _ H_1 _ _ _ hw _ _ _ hS => ?_)
  subst hw
  refine lv_istore_n (lv' := [(3, .int (fX1_kind p0)), (0, .ref h0), (1, .int p0), (2, .int p1)]) hx hb dX1_register_5 rfl hl (by decide) rfl (fun ls hl => ?_)
  refine lv_iload_n hx hb dX1_register_6 rfl (lv_at hl 3 rfl) ?_
  refine lv_if_ne (tgt := 40) hx hb dX1_register_7 (by decide) (fun c_2 => ?_) (fun c_2 => ?_)
  · -- taken
    refine lv_iload_n hx hb dX1_register_40 rfl (lv_at hl 3 rfl) ?_
    refine lv_iconst (v := 1) hx hb dX1_register_41 (by decide) ?_
    refine lv_icmp_ne (tgt := 85) hx hb dX1_register_42 (by decide) (fun c_3 => ?_) (fun c_3 => ?_)
    · -- taken
      refine lv_iload_n hx hb dX1_register_85 rfl (lv_at hl 3 rfl) ?_
      refine lv_iconst (v := 2) hx hb dX1_register_86 (by decide) ?_
      refine lv_icmp_ne (tgt := 125) hx hb dX1_register_87 (by decide) (fun c_4 => ?_) (fun c_4 => ?_)
      · -- taken
        refine lv_iload_n hx hb dX1_register_125 rfl (lv_at hl 3 rfl) ?_
        refine lv_iconst (v := 3) hx hb dX1_register_126 (by decide) ?_
        refine lv_icmp_ne (tgt := 146) hx hb dX1_register_127 (by decide) (fun c_5 => ?_) (fun c_5 => ?_)
        · -- taken
          refine lv_iconst (v := 0) hx hb dX1_register_146 (by decide) ?_
          refine lv_istore (lv' := [(4, .int (0 : Int32)), (3, .int (fX1_kind p0)), (0, .ref h0), (1, .int p0), (2, .int p1)]) hx hb dX1_register_147 hl (by decide) rfl (fun ls hl => ?_)
          refine lv_iload hx hb dX1_register_149 (lv_at hl 0 rfl) ?_
          refine lv_if_ne (tgt := 156) hx hb dX1_register_151 (by decide) (fun c => absurd c (by decide)) (fun _ => ?_)
          refine lv_iconst (v := -1) hx hb dX1_register_154 (by decide) ?_
          exact W.iret (v := (-1 : Int32)) hx hb hr (fun t ht hW => ⟨⟨(-1 : Int32), (), rfl, by rw [fX1_register, if_neg c_2, if_neg c_3, if_neg c_4, if_neg c_5], trivial⟩, hS.F ht⟩) hS.2.2 dX1_register_155
        · -- not taken
          refine lv_iload_n hx hb dX1_register_130 rfl (lv_at hl 0 rfl) ?_
          refine lv_bipush (v := 6) hx hb dX1_register_131 (by decide) ?_
          refine lv_icmp_eq (tgt := 142) hx hb dX1_register_133 (by decide) (fun c_6 => ?_) (fun c_6 => ?_)
          · -- taken
            refine lv_iconst (v := 1) hx hb dX1_register_142 (by decide) ?_
            refine lv_goto (tgt := 147) hx hb dX1_register_143 (by decide) ?_
            refine lv_istore (lv' := [(4, .int (1 : Int32)), (3, .int (fX1_kind p0)), (0, .ref h0), (1, .int p0), (2, .int p1)]) hx hb dX1_register_147 hl (by decide) rfl (fun ls hl => ?_)
            refine lv_iload hx hb dX1_register_149 (lv_at hl 0 rfl) ?_
            refine lv_if_ne (tgt := 156) hx hb dX1_register_151 (by decide) (fun _ => ?_) (fun c => absurd c (by decide))
            refine lv_iload_n hx hb dX1_register_156 rfl (lv_at hl 4 rfl) ?_
            refine lv_if_ne (tgt := 164) hx hb dX1_register_157 (by decide) (fun _ => ?_) (fun c => absurd c c_2)
            refine lv_iload_n hx hb dX1_register_164 rfl (lv_at hl 4 rfl) ?_
            refine lv_iconst (v := 1) hx hb dX1_register_165 (by decide) ?_
            refine lv_icmp_ne (tgt := 173) hx hb dX1_register_166 (by decide) (fun _ => ?_) (fun c => absurd c c_3)
            refine lv_iload_n hx hb dX1_register_173 rfl (lv_at hl 4 rfl) ?_
            refine lv_iconst (v := 2) hx hb dX1_register_174 (by decide) ?_
            refine lv_icmp_ne (tgt := 183) hx hb dX1_register_175 (by decide) (fun _ => ?_) (fun c => absurd c c_4)
            refine lv_bipush (v := 10) hx hb dX1_register_183 (by decide) ?_
            refine lv_istore (lv' := [(5, .int (10 : Int32)), (4, .int (1 : Int32)), (3, .int (fX1_kind p0)), (0, .ref h0), (1, .int p0), (2, .int p1)]) hx hb dX1_register_185 hl (by decide) rfl (fun ls hl => ?_)
            refine lv_iload_n hx hb dX1_register_187 rfl (lv_at hl 4 rfl) ?_
            refine lv_iload hx hb dX1_register_188 (lv_at hl 0 rfl) ?_
            refine lv_iload hx hb dX1_register_190 (lv_at hl 0 rfl) ?_
            refine lv_iconst (v := 4) hx hb dX1_register_192 (by decide) ?_
            refine lv_iadd hx hb dX1_register_193 ?_
            refine va_calli (va_runS (As := [.int p0, .int (10 : Int32), .int ((10 : Int32) + (4 : Int32))]) (rest := []) ⟨hx, hb, hml, hown, hts⟩ (mX1_bits l H_1.size p0 (10 : Int32) ((10 : Int32) + (4 : Int32))) (va_cwS 3 hts gX1_register_X1_bits rfl rfl rfl (by decide +kernel) ⟨Nat.le_of_ble_eq_true rfl, Nat.le_of_ble_eq_true rfl⟩) ⟨fb_pure, fun U hU hW => ⟨rfl, congrArg Array.size hU⟩⟩ rfl rfl hl.1 rfl (lv_room (Nat.le_of_ble_eq_true rfl)) dX1_register_194 ⟨Nat.zero_le _, Nat.zero_le _⟩) hS (fun q _ h => Nat.le_trans hS.1 h) (fun q h => Nat.le_trans hS.1 h) (fun r_7 _ _ H_7 _ _ _ hw _ _ _ hS => ?_)
            subst hw
            exact W.iret (v := (fX1_bits p0 (10 : Int32) ((10 : Int32) + (4 : Int32)))) hx hb hr (fun t ht hW => ⟨⟨(fX1_bits p0 (10 : Int32) ((10 : Int32) + (4 : Int32))), (), rfl, by rw [fX1_register, if_neg c_2, if_neg c_3, if_neg c_4, if_pos c_5, if_pos c_6], trivial⟩, hS.F ht⟩) hS.2.2 dX1_register_197
          · -- not taken
            refine lv_iload_n hx hb dX1_register_136 rfl (lv_at hl 0 rfl) ?_
            refine lv_bipush (v := 11) hx hb dX1_register_137 (by decide) ?_
            refine lv_icmp_ne (tgt := 146) hx hb dX1_register_139 (by decide) (fun c_8 => ?_) (fun c_8 => ?_)
            · -- taken
              refine lv_iconst (v := 0) hx hb dX1_register_146 (by decide) ?_
              refine lv_istore (lv' := [(4, .int (0 : Int32)), (3, .int (fX1_kind p0)), (0, .ref h0), (1, .int p0), (2, .int p1)]) hx hb dX1_register_147 hl (by decide) rfl (fun ls hl => ?_)
              refine lv_iload hx hb dX1_register_149 (lv_at hl 0 rfl) ?_
              refine lv_if_ne (tgt := 156) hx hb dX1_register_151 (by decide) (fun c => absurd c (by decide)) (fun _ => ?_)
              refine lv_iconst (v := -1) hx hb dX1_register_154 (by decide) ?_
              exact W.iret (v := (-1 : Int32)) hx hb hr (fun t ht hW => ⟨⟨(-1 : Int32), (), rfl, by rw [fX1_register, if_neg c_2, if_neg c_3, if_neg c_4, if_pos c_5, if_neg c_6, if_neg c_8], trivial⟩, hS.F ht⟩) hS.2.2 dX1_register_155
            · -- not taken
              refine lv_iconst (v := 1) hx hb dX1_register_142 (by decide) ?_
              refine lv_goto (tgt := 147) hx hb dX1_register_143 (by decide) ?_
              refine lv_istore (lv' := [(4, .int (1 : Int32)), (3, .int (fX1_kind p0)), (0, .ref h0), (1, .int p0), (2, .int p1)]) hx hb dX1_register_147 hl (by decide) rfl (fun ls hl => ?_)
              refine lv_iload hx hb dX1_register_149 (lv_at hl 0 rfl) ?_
              refine lv_if_ne (tgt := 156) hx hb dX1_register_151 (by decide) (fun _ => ?_) (fun c => absurd c (by decide))
              refine lv_iload_n hx hb dX1_register_156 rfl (lv_at hl 4 rfl) ?_
              refine lv_if_ne (tgt := 164) hx hb dX1_register_157 (by decide) (fun _ => ?_) (fun c => absurd c c_2)
              refine lv_iload_n hx hb dX1_register_164 rfl (lv_at hl 4 rfl) ?_
              refine lv_iconst (v := 1) hx hb dX1_register_165 (by decide) ?_
              refine lv_icmp_ne (tgt := 173) hx hb dX1_register_166 (by decide) (fun _ => ?_) (fun c => absurd c c_3)
              refine lv_iload_n hx hb dX1_register_173 rfl (lv_at hl 4 rfl) ?_
              refine lv_iconst (v := 2) hx hb dX1_register_174 (by decide) ?_
              refine lv_icmp_ne (tgt := 183) hx hb dX1_register_175 (by decide) (fun _ => ?_) (fun c => absurd c c_4)
              refine lv_bipush (v := 10) hx hb dX1_register_183 (by decide) ?_
              refine lv_istore (lv' := [(5, .int (10 : Int32)), (4, .int (1 : Int32)), (3, .int (fX1_kind p0)), (0, .ref h0), (1, .int p0), (2, .int p1)]) hx hb dX1_register_185 hl (by decide) rfl (fun ls hl => ?_)
              refine lv_iload_n hx hb dX1_register_187 rfl (lv_at hl 4 rfl) ?_
              refine lv_iload hx hb dX1_register_188 (lv_at hl 0 rfl) ?_
              refine lv_iload hx hb dX1_register_190 (lv_at hl 0 rfl) ?_
              refine lv_iconst (v := 4) hx hb dX1_register_192 (by decide) ?_
              refine lv_iadd hx hb dX1_register_193 ?_
              refine va_calli (va_runS (As := [.int p0, .int (10 : Int32), .int ((10 : Int32) + (4 : Int32))]) (rest := []) ⟨hx, hb, hml, hown, hts⟩ (mX1_bits l H_1.size p0 (10 : Int32) ((10 : Int32) + (4 : Int32))) (va_cwS 3 hts gX1_register_X1_bits rfl rfl rfl (by decide +kernel) ⟨Nat.le_of_ble_eq_true rfl, Nat.le_of_ble_eq_true rfl⟩) ⟨fb_pure, fun U hU hW => ⟨rfl, congrArg Array.size hU⟩⟩ rfl rfl hl.1 rfl (lv_room (Nat.le_of_ble_eq_true rfl)) dX1_register_194 ⟨Nat.zero_le _, Nat.zero_le _⟩) hS (fun q _ h => Nat.le_trans hS.1 h) (fun q h => Nat.le_trans hS.1 h) (fun r_9 _ _ H_9 _ _ _ hw _ _ _ hS => ?_)
              subst hw
              exact W.iret (v := (fX1_bits p0 (10 : Int32) ((10 : Int32) + (4 : Int32)))) hx hb hr (fun t ht hW => ⟨⟨(fX1_bits p0 (10 : Int32) ((10 : Int32) + (4 : Int32))), (), rfl, by rw [fX1_register, if_neg c_2, if_neg c_3, if_neg c_4, if_pos c_5, if_neg c_6, if_pos c_8], trivial⟩, hS.F ht⟩) hS.2.2 dX1_register_197
      · -- not taken
        refine lv_iload_n hx hb dX1_register_90 rfl (lv_at hl 0 rfl) ?_
        refine lv_iconst (v := 2) hx hb dX1_register_91 (by decide) ?_
        refine lv_icmp_eq (tgt := 117) hx hb dX1_register_92 (by decide) (fun c_10 => ?_) (fun c_10 => ?_)
        · -- taken
          refine lv_iconst (v := 1) hx hb dX1_register_117 (by decide) ?_
          refine lv_goto (tgt := 147) hx hb dX1_register_118 (by decide) ?_
          refine lv_istore (lv' := [(4, .int (1 : Int32)), (3, .int (fX1_kind p0)), (0, .ref h0), (1, .int p0), (2, .int p1)]) hx hb dX1_register_147 hl (by decide) rfl (fun ls hl => ?_)
          refine lv_iload hx hb dX1_register_149 (lv_at hl 0 rfl) ?_
          refine lv_if_ne (tgt := 156) hx hb dX1_register_151 (by decide) (fun _ => ?_) (fun c => absurd c (by decide))
          refine lv_iload_n hx hb dX1_register_156 rfl (lv_at hl 4 rfl) ?_
          refine lv_if_ne (tgt := 164) hx hb dX1_register_157 (by decide) (fun _ => ?_) (fun c => absurd c c_2)
          refine lv_iload_n hx hb dX1_register_164 rfl (lv_at hl 4 rfl) ?_
          refine lv_iconst (v := 1) hx hb dX1_register_165 (by decide) ?_
          refine lv_icmp_ne (tgt := 173) hx hb dX1_register_166 (by decide) (fun _ => ?_) (fun c => absurd c c_3)
          refine lv_iload_n hx hb dX1_register_173 rfl (lv_at hl 4 rfl) ?_
          refine lv_iconst (v := 2) hx hb dX1_register_174 (by decide) ?_
          refine lv_icmp_ne (tgt := 183) hx hb dX1_register_175 (by decide) (fun c => absurd c_4 c) (fun _ => ?_)
          refine lv_bipush (v := 16) hx hb dX1_register_178 (by decide) ?_
          refine lv_goto (tgt := 185) hx hb dX1_register_180 (by decide) ?_
          refine lv_istore (lv' := [(5, .int (16 : Int32)), (4, .int (1 : Int32)), (3, .int (fX1_kind p0)), (0, .ref h0), (1, .int p0), (2, .int p1)]) hx hb dX1_register_185 hl (by decide) rfl (fun ls hl => ?_)
          refine lv_iload_n hx hb dX1_register_187 rfl (lv_at hl 4 rfl) ?_
          refine lv_iload hx hb dX1_register_188 (lv_at hl 0 rfl) ?_
          refine lv_iload hx hb dX1_register_190 (lv_at hl 0 rfl) ?_
          refine lv_iconst (v := 4) hx hb dX1_register_192 (by decide) ?_
          refine lv_iadd hx hb dX1_register_193 ?_
          refine va_calli (va_runS (As := [.int p0, .int (16 : Int32), .int ((16 : Int32) + (4 : Int32))]) (rest := []) ⟨hx, hb, hml, hown, hts⟩ (mX1_bits l H_1.size p0 (16 : Int32) ((16 : Int32) + (4 : Int32))) (va_cwS 3 hts gX1_register_X1_bits rfl rfl rfl (by decide +kernel) ⟨Nat.le_of_ble_eq_true rfl, Nat.le_of_ble_eq_true rfl⟩) ⟨fb_pure, fun U hU hW => ⟨rfl, congrArg Array.size hU⟩⟩ rfl rfl hl.1 rfl (lv_room (Nat.le_of_ble_eq_true rfl)) dX1_register_194 ⟨Nat.zero_le _, Nat.zero_le _⟩) hS (fun q _ h => Nat.le_trans hS.1 h) (fun q h => Nat.le_trans hS.1 h) (fun r_11 _ _ H_11 _ _ _ hw _ _ _ hS => ?_)
          subst hw
          exact W.iret (v := (fX1_bits p0 (16 : Int32) ((16 : Int32) + (4 : Int32)))) hx hb hr (fun t ht hW => ⟨⟨(fX1_bits p0 (16 : Int32) ((16 : Int32) + (4 : Int32))), (), rfl, by rw [fX1_register, if_neg c_2, if_neg c_3, if_pos c_4, if_pos c_10], trivial⟩, hS.F ht⟩) hS.2.2 dX1_register_197
        · -- not taken
          refine lv_iload_n hx hb dX1_register_95 rfl (lv_at hl 0 rfl) ?_
          refine lv_iconst (v := 3) hx hb dX1_register_96 (by decide) ?_
          refine lv_icmp_eq (tgt := 117) hx hb dX1_register_97 (by decide) (fun c_12 => ?_) (fun c_12 => ?_)
          · -- taken
            refine lv_iconst (v := 1) hx hb dX1_register_117 (by decide) ?_
            refine lv_goto (tgt := 147) hx hb dX1_register_118 (by decide) ?_
            refine lv_istore (lv' := [(4, .int (1 : Int32)), (3, .int (fX1_kind p0)), (0, .ref h0), (1, .int p0), (2, .int p1)]) hx hb dX1_register_147 hl (by decide) rfl (fun ls hl => ?_)
            refine lv_iload hx hb dX1_register_149 (lv_at hl 0 rfl) ?_
            refine lv_if_ne (tgt := 156) hx hb dX1_register_151 (by decide) (fun _ => ?_) (fun c => absurd c (by decide))
            refine lv_iload_n hx hb dX1_register_156 rfl (lv_at hl 4 rfl) ?_
            refine lv_if_ne (tgt := 164) hx hb dX1_register_157 (by decide) (fun _ => ?_) (fun c => absurd c c_2)
            refine lv_iload_n hx hb dX1_register_164 rfl (lv_at hl 4 rfl) ?_
            refine lv_iconst (v := 1) hx hb dX1_register_165 (by decide) ?_
            refine lv_icmp_ne (tgt := 173) hx hb dX1_register_166 (by decide) (fun _ => ?_) (fun c => absurd c c_3)
            refine lv_iload_n hx hb dX1_register_173 rfl (lv_at hl 4 rfl) ?_
            refine lv_iconst (v := 2) hx hb dX1_register_174 (by decide) ?_
            refine lv_icmp_ne (tgt := 183) hx hb dX1_register_175 (by decide) (fun c => absurd c_4 c) (fun _ => ?_)
            refine lv_bipush (v := 16) hx hb dX1_register_178 (by decide) ?_
            refine lv_goto (tgt := 185) hx hb dX1_register_180 (by decide) ?_
            refine lv_istore (lv' := [(5, .int (16 : Int32)), (4, .int (1 : Int32)), (3, .int (fX1_kind p0)), (0, .ref h0), (1, .int p0), (2, .int p1)]) hx hb dX1_register_185 hl (by decide) rfl (fun ls hl => ?_)
            refine lv_iload_n hx hb dX1_register_187 rfl (lv_at hl 4 rfl) ?_
            refine lv_iload hx hb dX1_register_188 (lv_at hl 0 rfl) ?_
            refine lv_iload hx hb dX1_register_190 (lv_at hl 0 rfl) ?_
            refine lv_iconst (v := 4) hx hb dX1_register_192 (by decide) ?_
            refine lv_iadd hx hb dX1_register_193 ?_
            refine va_calli (va_runS (As := [.int p0, .int (16 : Int32), .int ((16 : Int32) + (4 : Int32))]) (rest := []) ⟨hx, hb, hml, hown, hts⟩ (mX1_bits l H_1.size p0 (16 : Int32) ((16 : Int32) + (4 : Int32))) (va_cwS 3 hts gX1_register_X1_bits rfl rfl rfl (by decide +kernel) ⟨Nat.le_of_ble_eq_true rfl, Nat.le_of_ble_eq_true rfl⟩) ⟨fb_pure, fun U hU hW => ⟨rfl, congrArg Array.size hU⟩⟩ rfl rfl hl.1 rfl (lv_room (Nat.le_of_ble_eq_true rfl)) dX1_register_194 ⟨Nat.zero_le _, Nat.zero_le _⟩) hS (fun q _ h => Nat.le_trans hS.1 h) (fun q h => Nat.le_trans hS.1 h) (fun r_13 _ _ H_13 _ _ _ hw _ _ _ hS => ?_)
            subst hw
            exact W.iret (v := (fX1_bits p0 (16 : Int32) ((16 : Int32) + (4 : Int32)))) hx hb hr (fun t ht hW => ⟨⟨(fX1_bits p0 (16 : Int32) ((16 : Int32) + (4 : Int32))), (), rfl, by rw [fX1_register, if_neg c_2, if_neg c_3, if_pos c_4, if_neg c_10, if_pos c_12], trivial⟩, hS.F ht⟩) hS.2.2 dX1_register_197
          · -- not taken
            refine lv_iload_n hx hb dX1_register_100 rfl (lv_at hl 0 rfl) ?_
            refine lv_iconst (v := 5) hx hb dX1_register_101 (by decide) ?_
            refine lv_icmp_le (tgt := 111) hx hb dX1_register_102 (by decide) (fun c_14 => ?_) (fun c_14 => ?_)
            · -- taken
              refine lv_iload_n hx hb dX1_register_111 rfl (lv_at hl 0 rfl) ?_
              refine lv_bipush (v := 10) hx hb dX1_register_112 (by decide) ?_
              refine lv_icmp_ne (tgt := 121) hx hb dX1_register_114 (by decide) (fun c_15 => ?_) (fun c_15 => ?_)
              · -- taken
                refine lv_iconst (v := 0) hx hb dX1_register_121 (by decide) ?_
                refine lv_goto (tgt := 147) hx hb dX1_register_122 (by decide) ?_
                refine lv_istore (lv' := [(4, .int (0 : Int32)), (3, .int (fX1_kind p0)), (0, .ref h0), (1, .int p0), (2, .int p1)]) hx hb dX1_register_147 hl (by decide) rfl (fun ls hl => ?_)
                refine lv_iload hx hb dX1_register_149 (lv_at hl 0 rfl) ?_
                refine lv_if_ne (tgt := 156) hx hb dX1_register_151 (by decide) (fun c => absurd c (by decide)) (fun _ => ?_)
                refine lv_iconst (v := -1) hx hb dX1_register_154 (by decide) ?_
                exact W.iret (v := (-1 : Int32)) hx hb hr (fun t ht hW => ⟨⟨(-1 : Int32), (), rfl, by rw [fX1_register, if_neg c_2, if_neg c_3, if_pos c_4, if_neg c_10, if_neg c_12, if_pos c_14, if_neg c_15], trivial⟩, hS.F ht⟩) hS.2.2 dX1_register_155
              · -- not taken
                refine lv_iconst (v := 1) hx hb dX1_register_117 (by decide) ?_
                refine lv_goto (tgt := 147) hx hb dX1_register_118 (by decide) ?_
                refine lv_istore (lv' := [(4, .int (1 : Int32)), (3, .int (fX1_kind p0)), (0, .ref h0), (1, .int p0), (2, .int p1)]) hx hb dX1_register_147 hl (by decide) rfl (fun ls hl => ?_)
                refine lv_iload hx hb dX1_register_149 (lv_at hl 0 rfl) ?_
                refine lv_if_ne (tgt := 156) hx hb dX1_register_151 (by decide) (fun _ => ?_) (fun c => absurd c (by decide))
                refine lv_iload_n hx hb dX1_register_156 rfl (lv_at hl 4 rfl) ?_
                refine lv_if_ne (tgt := 164) hx hb dX1_register_157 (by decide) (fun _ => ?_) (fun c => absurd c c_2)
                refine lv_iload_n hx hb dX1_register_164 rfl (lv_at hl 4 rfl) ?_
                refine lv_iconst (v := 1) hx hb dX1_register_165 (by decide) ?_
                refine lv_icmp_ne (tgt := 173) hx hb dX1_register_166 (by decide) (fun _ => ?_) (fun c => absurd c c_3)
                refine lv_iload_n hx hb dX1_register_173 rfl (lv_at hl 4 rfl) ?_
                refine lv_iconst (v := 2) hx hb dX1_register_174 (by decide) ?_
                refine lv_icmp_ne (tgt := 183) hx hb dX1_register_175 (by decide) (fun c => absurd c_4 c) (fun _ => ?_)
                refine lv_bipush (v := 16) hx hb dX1_register_178 (by decide) ?_
                refine lv_goto (tgt := 185) hx hb dX1_register_180 (by decide) ?_
                refine lv_istore (lv' := [(5, .int (16 : Int32)), (4, .int (1 : Int32)), (3, .int (fX1_kind p0)), (0, .ref h0), (1, .int p0), (2, .int p1)]) hx hb dX1_register_185 hl (by decide) rfl (fun ls hl => ?_)
                refine lv_iload_n hx hb dX1_register_187 rfl (lv_at hl 4 rfl) ?_
                refine lv_iload hx hb dX1_register_188 (lv_at hl 0 rfl) ?_
                refine lv_iload hx hb dX1_register_190 (lv_at hl 0 rfl) ?_
                refine lv_iconst (v := 4) hx hb dX1_register_192 (by decide) ?_
                refine lv_iadd hx hb dX1_register_193 ?_
                refine va_calli (va_runS (As := [.int p0, .int (16 : Int32), .int ((16 : Int32) + (4 : Int32))]) (rest := []) ⟨hx, hb, hml, hown, hts⟩ (mX1_bits l H_1.size p0 (16 : Int32) ((16 : Int32) + (4 : Int32))) (va_cwS 3 hts gX1_register_X1_bits rfl rfl rfl (by decide +kernel) ⟨Nat.le_of_ble_eq_true rfl, Nat.le_of_ble_eq_true rfl⟩) ⟨fb_pure, fun U hU hW => ⟨rfl, congrArg Array.size hU⟩⟩ rfl rfl hl.1 rfl (lv_room (Nat.le_of_ble_eq_true rfl)) dX1_register_194 ⟨Nat.zero_le _, Nat.zero_le _⟩) hS (fun q _ h => Nat.le_trans hS.1 h) (fun q h => Nat.le_trans hS.1 h) (fun r_16 _ _ H_16 _ _ _ hw _ _ _ hS => ?_)
                subst hw
                exact W.iret (v := (fX1_bits p0 (16 : Int32) ((16 : Int32) + (4 : Int32)))) hx hb hr (fun t ht hW => ⟨⟨(fX1_bits p0 (16 : Int32) ((16 : Int32) + (4 : Int32))), (), rfl, by rw [fX1_register, if_neg c_2, if_neg c_3, if_pos c_4, if_neg c_10, if_neg c_12, if_pos c_14, if_pos c_15], trivial⟩, hS.F ht⟩) hS.2.2 dX1_register_197
            · -- not taken
              refine lv_iload_n hx hb dX1_register_105 rfl (lv_at hl 0 rfl) ?_
              refine lv_bipush (v := 9) hx hb dX1_register_106 (by decide) ?_
              refine lv_icmp_lt (tgt := 117) hx hb dX1_register_108 (by decide) (fun c_17 => ?_) (fun c_17 => ?_)
              · -- taken
                refine lv_iconst (v := 1) hx hb dX1_register_117 (by decide) ?_
                refine lv_goto (tgt := 147) hx hb dX1_register_118 (by decide) ?_
                refine lv_istore (lv' := [(4, .int (1 : Int32)), (3, .int (fX1_kind p0)), (0, .ref h0), (1, .int p0), (2, .int p1)]) hx hb dX1_register_147 hl (by decide) rfl (fun ls hl => ?_)
                refine lv_iload hx hb dX1_register_149 (lv_at hl 0 rfl) ?_
                refine lv_if_ne (tgt := 156) hx hb dX1_register_151 (by decide) (fun _ => ?_) (fun c => absurd c (by decide))
                refine lv_iload_n hx hb dX1_register_156 rfl (lv_at hl 4 rfl) ?_
                refine lv_if_ne (tgt := 164) hx hb dX1_register_157 (by decide) (fun _ => ?_) (fun c => absurd c c_2)
                refine lv_iload_n hx hb dX1_register_164 rfl (lv_at hl 4 rfl) ?_
                refine lv_iconst (v := 1) hx hb dX1_register_165 (by decide) ?_
                refine lv_icmp_ne (tgt := 173) hx hb dX1_register_166 (by decide) (fun _ => ?_) (fun c => absurd c c_3)
                refine lv_iload_n hx hb dX1_register_173 rfl (lv_at hl 4 rfl) ?_
                refine lv_iconst (v := 2) hx hb dX1_register_174 (by decide) ?_
                refine lv_icmp_ne (tgt := 183) hx hb dX1_register_175 (by decide) (fun c => absurd c_4 c) (fun _ => ?_)
                refine lv_bipush (v := 16) hx hb dX1_register_178 (by decide) ?_
                refine lv_goto (tgt := 185) hx hb dX1_register_180 (by decide) ?_
                refine lv_istore (lv' := [(5, .int (16 : Int32)), (4, .int (1 : Int32)), (3, .int (fX1_kind p0)), (0, .ref h0), (1, .int p0), (2, .int p1)]) hx hb dX1_register_185 hl (by decide) rfl (fun ls hl => ?_)
                refine lv_iload_n hx hb dX1_register_187 rfl (lv_at hl 4 rfl) ?_
                refine lv_iload hx hb dX1_register_188 (lv_at hl 0 rfl) ?_
                refine lv_iload hx hb dX1_register_190 (lv_at hl 0 rfl) ?_
                refine lv_iconst (v := 4) hx hb dX1_register_192 (by decide) ?_
                refine lv_iadd hx hb dX1_register_193 ?_
                refine va_calli (va_runS (As := [.int p0, .int (16 : Int32), .int ((16 : Int32) + (4 : Int32))]) (rest := []) ⟨hx, hb, hml, hown, hts⟩ (mX1_bits l H_1.size p0 (16 : Int32) ((16 : Int32) + (4 : Int32))) (va_cwS 3 hts gX1_register_X1_bits rfl rfl rfl (by decide +kernel) ⟨Nat.le_of_ble_eq_true rfl, Nat.le_of_ble_eq_true rfl⟩) ⟨fb_pure, fun U hU hW => ⟨rfl, congrArg Array.size hU⟩⟩ rfl rfl hl.1 rfl (lv_room (Nat.le_of_ble_eq_true rfl)) dX1_register_194 ⟨Nat.zero_le _, Nat.zero_le _⟩) hS (fun q _ h => Nat.le_trans hS.1 h) (fun q h => Nat.le_trans hS.1 h) (fun r_18 _ _ H_18 _ _ _ hw _ _ _ hS => ?_)
                subst hw
                exact W.iret (v := (fX1_bits p0 (16 : Int32) ((16 : Int32) + (4 : Int32)))) hx hb hr (fun t ht hW => ⟨⟨(fX1_bits p0 (16 : Int32) ((16 : Int32) + (4 : Int32))), (), rfl, by rw [fX1_register, if_neg c_2, if_neg c_3, if_pos c_4, if_neg c_10, if_neg c_12, if_neg c_14, if_pos c_17], trivial⟩, hS.F ht⟩) hS.2.2 dX1_register_197
              · -- not taken
                refine lv_iload_n hx hb dX1_register_111 rfl (lv_at hl 0 rfl) ?_
                refine lv_bipush (v := 10) hx hb dX1_register_112 (by decide) ?_
                refine lv_icmp_ne (tgt := 121) hx hb dX1_register_114 (by decide) (fun c_19 => ?_) (fun c_19 => ?_)
                · -- taken
                  refine lv_iconst (v := 0) hx hb dX1_register_121 (by decide) ?_
                  refine lv_goto (tgt := 147) hx hb dX1_register_122 (by decide) ?_
                  refine lv_istore (lv' := [(4, .int (0 : Int32)), (3, .int (fX1_kind p0)), (0, .ref h0), (1, .int p0), (2, .int p1)]) hx hb dX1_register_147 hl (by decide) rfl (fun ls hl => ?_)
                  refine lv_iload hx hb dX1_register_149 (lv_at hl 0 rfl) ?_
                  refine lv_if_ne (tgt := 156) hx hb dX1_register_151 (by decide) (fun c => absurd c (by decide)) (fun _ => ?_)
                  refine lv_iconst (v := -1) hx hb dX1_register_154 (by decide) ?_
                  exact W.iret (v := (-1 : Int32)) hx hb hr (fun t ht hW => ⟨⟨(-1 : Int32), (), rfl, by rw [fX1_register, if_neg c_2, if_neg c_3, if_pos c_4, if_neg c_10, if_neg c_12, if_neg c_14, if_neg c_17, if_neg c_19], trivial⟩, hS.F ht⟩) hS.2.2 dX1_register_155
                · -- not taken
                  refine lv_iconst (v := 1) hx hb dX1_register_117 (by decide) ?_
                  refine lv_goto (tgt := 147) hx hb dX1_register_118 (by decide) ?_
                  refine lv_istore (lv' := [(4, .int (1 : Int32)), (3, .int (fX1_kind p0)), (0, .ref h0), (1, .int p0), (2, .int p1)]) hx hb dX1_register_147 hl (by decide) rfl (fun ls hl => ?_)
                  refine lv_iload hx hb dX1_register_149 (lv_at hl 0 rfl) ?_
                  refine lv_if_ne (tgt := 156) hx hb dX1_register_151 (by decide) (fun _ => ?_) (fun c => absurd c (by decide))
                  refine lv_iload_n hx hb dX1_register_156 rfl (lv_at hl 4 rfl) ?_
                  refine lv_if_ne (tgt := 164) hx hb dX1_register_157 (by decide) (fun _ => ?_) (fun c => absurd c c_2)
                  refine lv_iload_n hx hb dX1_register_164 rfl (lv_at hl 4 rfl) ?_
                  refine lv_iconst (v := 1) hx hb dX1_register_165 (by decide) ?_
                  refine lv_icmp_ne (tgt := 173) hx hb dX1_register_166 (by decide) (fun _ => ?_) (fun c => absurd c c_3)
                  refine lv_iload_n hx hb dX1_register_173 rfl (lv_at hl 4 rfl) ?_
                  refine lv_iconst (v := 2) hx hb dX1_register_174 (by decide) ?_
                  refine lv_icmp_ne (tgt := 183) hx hb dX1_register_175 (by decide) (fun c => absurd c_4 c) (fun _ => ?_)
                  refine lv_bipush (v := 16) hx hb dX1_register_178 (by decide) ?_
                  refine lv_goto (tgt := 185) hx hb dX1_register_180 (by decide) ?_
                  refine lv_istore (lv' := [(5, .int (16 : Int32)), (4, .int (1 : Int32)), (3, .int (fX1_kind p0)), (0, .ref h0), (1, .int p0), (2, .int p1)]) hx hb dX1_register_185 hl (by decide) rfl (fun ls hl => ?_)
                  refine lv_iload_n hx hb dX1_register_187 rfl (lv_at hl 4 rfl) ?_
                  refine lv_iload hx hb dX1_register_188 (lv_at hl 0 rfl) ?_
                  refine lv_iload hx hb dX1_register_190 (lv_at hl 0 rfl) ?_
                  refine lv_iconst (v := 4) hx hb dX1_register_192 (by decide) ?_
                  refine lv_iadd hx hb dX1_register_193 ?_
                  refine va_calli (va_runS (As := [.int p0, .int (16 : Int32), .int ((16 : Int32) + (4 : Int32))]) (rest := []) ⟨hx, hb, hml, hown, hts⟩ (mX1_bits l H_1.size p0 (16 : Int32) ((16 : Int32) + (4 : Int32))) (va_cwS 3 hts gX1_register_X1_bits rfl rfl rfl (by decide +kernel) ⟨Nat.le_of_ble_eq_true rfl, Nat.le_of_ble_eq_true rfl⟩) ⟨fb_pure, fun U hU hW => ⟨rfl, congrArg Array.size hU⟩⟩ rfl rfl hl.1 rfl (lv_room (Nat.le_of_ble_eq_true rfl)) dX1_register_194 ⟨Nat.zero_le _, Nat.zero_le _⟩) hS (fun q _ h => Nat.le_trans hS.1 h) (fun q h => Nat.le_trans hS.1 h) (fun r_20 _ _ H_20 _ _ _ hw _ _ _ hS => ?_)
                  subst hw
                  exact W.iret (v := (fX1_bits p0 (16 : Int32) ((16 : Int32) + (4 : Int32)))) hx hb hr (fun t ht hW => ⟨⟨(fX1_bits p0 (16 : Int32) ((16 : Int32) + (4 : Int32))), (), rfl, by rw [fX1_register, if_neg c_2, if_neg c_3, if_pos c_4, if_neg c_10, if_neg c_12, if_neg c_14, if_neg c_17, if_pos c_19], trivial⟩, hS.F ht⟩) hS.2.2 dX1_register_197
    · -- not taken
      refine lv_iload_n hx hb dX1_register_45 rfl (lv_at hl 0 rfl) ?_
      refine lv_if_le (tgt := 54) hx hb dX1_register_46 (by decide) (fun c_21 => ?_) (fun c_21 => ?_)
      · -- taken
        refine lv_iload_n hx hb dX1_register_54 rfl (lv_at hl 0 rfl) ?_
        refine lv_iconst (v := 5) hx hb dX1_register_55 (by decide) ?_
        refine lv_icmp_le (tgt := 65) hx hb dX1_register_56 (by decide) (fun c_22 => ?_) (fun c_22 => ?_)
        · -- taken
          refine lv_iload_n hx hb dX1_register_65 rfl (lv_at hl 0 rfl) ?_
          refine lv_bipush (v := 16) hx hb dX1_register_66 (by decide) ?_
          refine lv_icmp_le (tgt := 81) hx hb dX1_register_68 (by decide) (fun c_23 => ?_) (fun c_23 => ?_)
          · -- taken
            refine lv_iconst (v := 0) hx hb dX1_register_81 (by decide) ?_
            refine lv_goto (tgt := 147) hx hb dX1_register_82 (by decide) ?_
            refine lv_istore (lv' := [(4, .int (0 : Int32)), (3, .int (fX1_kind p0)), (0, .ref h0), (1, .int p0), (2, .int p1)]) hx hb dX1_register_147 hl (by decide) rfl (fun ls hl => ?_)
            refine lv_iload hx hb dX1_register_149 (lv_at hl 0 rfl) ?_
            refine lv_if_ne (tgt := 156) hx hb dX1_register_151 (by decide) (fun c => absurd c (by decide)) (fun _ => ?_)
            refine lv_iconst (v := -1) hx hb dX1_register_154 (by decide) ?_
            exact W.iret (v := (-1 : Int32)) hx hb hr (fun t ht hW => ⟨⟨(-1 : Int32), (), rfl, by rw [fX1_register, if_neg c_2, if_pos c_3, if_pos c_21, if_pos c_22, if_pos c_23], trivial⟩, hS.F ht⟩) hS.2.2 dX1_register_155
          · -- not taken
            refine lv_iload_n hx hb dX1_register_71 rfl (lv_at hl 0 rfl) ?_
            refine lv_bipush (v := 20) hx hb dX1_register_72 (by decide) ?_
            refine lv_icmp_ge (tgt := 81) hx hb dX1_register_74 (by decide) (fun c_24 => ?_) (fun c_24 => ?_)
            · -- taken
              refine lv_iconst (v := 0) hx hb dX1_register_81 (by decide) ?_
              refine lv_goto (tgt := 147) hx hb dX1_register_82 (by decide) ?_
              refine lv_istore (lv' := [(4, .int (0 : Int32)), (3, .int (fX1_kind p0)), (0, .ref h0), (1, .int p0), (2, .int p1)]) hx hb dX1_register_147 hl (by decide) rfl (fun ls hl => ?_)
              refine lv_iload hx hb dX1_register_149 (lv_at hl 0 rfl) ?_
              refine lv_if_ne (tgt := 156) hx hb dX1_register_151 (by decide) (fun c => absurd c (by decide)) (fun _ => ?_)
              refine lv_iconst (v := -1) hx hb dX1_register_154 (by decide) ?_
              exact W.iret (v := (-1 : Int32)) hx hb hr (fun t ht hW => ⟨⟨(-1 : Int32), (), rfl, by rw [fX1_register, if_neg c_2, if_pos c_3, if_pos c_21, if_pos c_22, if_neg c_23, if_pos c_24], trivial⟩, hS.F ht⟩) hS.2.2 dX1_register_155
            · -- not taken
              refine lv_iconst (v := 1) hx hb dX1_register_77 (by decide) ?_
              refine lv_goto (tgt := 147) hx hb dX1_register_78 (by decide) ?_
              refine lv_istore (lv' := [(4, .int (1 : Int32)), (3, .int (fX1_kind p0)), (0, .ref h0), (1, .int p0), (2, .int p1)]) hx hb dX1_register_147 hl (by decide) rfl (fun ls hl => ?_)
              refine lv_iload hx hb dX1_register_149 (lv_at hl 0 rfl) ?_
              refine lv_if_ne (tgt := 156) hx hb dX1_register_151 (by decide) (fun _ => ?_) (fun c => absurd c (by decide))
              refine lv_iload_n hx hb dX1_register_156 rfl (lv_at hl 4 rfl) ?_
              refine lv_if_ne (tgt := 164) hx hb dX1_register_157 (by decide) (fun _ => ?_) (fun c => absurd c c_2)
              refine lv_iload_n hx hb dX1_register_164 rfl (lv_at hl 4 rfl) ?_
              refine lv_iconst (v := 1) hx hb dX1_register_165 (by decide) ?_
              refine lv_icmp_ne (tgt := 173) hx hb dX1_register_166 (by decide) (fun c => absurd c_3 c) (fun _ => ?_)
              refine lv_iconst (v := 5) hx hb dX1_register_169 (by decide) ?_
              refine lv_goto (tgt := 185) hx hb dX1_register_170 (by decide) ?_
              refine lv_istore (lv' := [(5, .int (5 : Int32)), (4, .int (1 : Int32)), (3, .int (fX1_kind p0)), (0, .ref h0), (1, .int p0), (2, .int p1)]) hx hb dX1_register_185 hl (by decide) rfl (fun ls hl => ?_)
              refine lv_iload_n hx hb dX1_register_187 rfl (lv_at hl 4 rfl) ?_
              refine lv_iload hx hb dX1_register_188 (lv_at hl 0 rfl) ?_
              refine lv_iload hx hb dX1_register_190 (lv_at hl 0 rfl) ?_
              refine lv_iconst (v := 4) hx hb dX1_register_192 (by decide) ?_
              refine lv_iadd hx hb dX1_register_193 ?_
              refine va_calli (va_runS (As := [.int p0, .int (5 : Int32), .int ((5 : Int32) + (4 : Int32))]) (rest := []) ⟨hx, hb, hml, hown, hts⟩ (mX1_bits l H_1.size p0 (5 : Int32) ((5 : Int32) + (4 : Int32))) (va_cwS 3 hts gX1_register_X1_bits rfl rfl rfl (by decide +kernel) ⟨Nat.le_of_ble_eq_true rfl, Nat.le_of_ble_eq_true rfl⟩) ⟨fb_pure, fun U hU hW => ⟨rfl, congrArg Array.size hU⟩⟩ rfl rfl hl.1 rfl (lv_room (Nat.le_of_ble_eq_true rfl)) dX1_register_194 ⟨Nat.zero_le _, Nat.zero_le _⟩) hS (fun q _ h => Nat.le_trans hS.1 h) (fun q h => Nat.le_trans hS.1 h) (fun r_25 _ _ H_25 _ _ _ hw _ _ _ hS => ?_)
              subst hw
              exact W.iret (v := (fX1_bits p0 (5 : Int32) ((5 : Int32) + (4 : Int32)))) hx hb hr (fun t ht hW => ⟨⟨(fX1_bits p0 (5 : Int32) ((5 : Int32) + (4 : Int32))), (), rfl, by rw [fX1_register, if_neg c_2, if_pos c_3, if_pos c_21, if_pos c_22, if_neg c_23, if_neg c_24], trivial⟩, hS.F ht⟩) hS.2.2 dX1_register_197
        · -- not taken
          refine lv_iload_n hx hb dX1_register_59 rfl (lv_at hl 0 rfl) ?_
          refine lv_bipush (v := 12) hx hb dX1_register_60 (by decide) ?_
          refine lv_icmp_lt (tgt := 77) hx hb dX1_register_62 (by decide) (fun c_26 => ?_) (fun c_26 => ?_)
          · -- taken
            refine lv_iconst (v := 1) hx hb dX1_register_77 (by decide) ?_
            refine lv_goto (tgt := 147) hx hb dX1_register_78 (by decide) ?_
            refine lv_istore (lv' := [(4, .int (1 : Int32)), (3, .int (fX1_kind p0)), (0, .ref h0), (1, .int p0), (2, .int p1)]) hx hb dX1_register_147 hl (by decide) rfl (fun ls hl => ?_)
            refine lv_iload hx hb dX1_register_149 (lv_at hl 0 rfl) ?_
            refine lv_if_ne (tgt := 156) hx hb dX1_register_151 (by decide) (fun _ => ?_) (fun c => absurd c (by decide))
            refine lv_iload_n hx hb dX1_register_156 rfl (lv_at hl 4 rfl) ?_
            refine lv_if_ne (tgt := 164) hx hb dX1_register_157 (by decide) (fun _ => ?_) (fun c => absurd c c_2)
            refine lv_iload_n hx hb dX1_register_164 rfl (lv_at hl 4 rfl) ?_
            refine lv_iconst (v := 1) hx hb dX1_register_165 (by decide) ?_
            refine lv_icmp_ne (tgt := 173) hx hb dX1_register_166 (by decide) (fun c => absurd c_3 c) (fun _ => ?_)
            refine lv_iconst (v := 5) hx hb dX1_register_169 (by decide) ?_
            refine lv_goto (tgt := 185) hx hb dX1_register_170 (by decide) ?_
            refine lv_istore (lv' := [(5, .int (5 : Int32)), (4, .int (1 : Int32)), (3, .int (fX1_kind p0)), (0, .ref h0), (1, .int p0), (2, .int p1)]) hx hb dX1_register_185 hl (by decide) rfl (fun ls hl => ?_)
            refine lv_iload_n hx hb dX1_register_187 rfl (lv_at hl 4 rfl) ?_
            refine lv_iload hx hb dX1_register_188 (lv_at hl 0 rfl) ?_
            refine lv_iload hx hb dX1_register_190 (lv_at hl 0 rfl) ?_
            refine lv_iconst (v := 4) hx hb dX1_register_192 (by decide) ?_
            refine lv_iadd hx hb dX1_register_193 ?_
            refine va_calli (va_runS (As := [.int p0, .int (5 : Int32), .int ((5 : Int32) + (4 : Int32))]) (rest := []) ⟨hx, hb, hml, hown, hts⟩ (mX1_bits l H_1.size p0 (5 : Int32) ((5 : Int32) + (4 : Int32))) (va_cwS 3 hts gX1_register_X1_bits rfl rfl rfl (by decide +kernel) ⟨Nat.le_of_ble_eq_true rfl, Nat.le_of_ble_eq_true rfl⟩) ⟨fb_pure, fun U hU hW => ⟨rfl, congrArg Array.size hU⟩⟩ rfl rfl hl.1 rfl (lv_room (Nat.le_of_ble_eq_true rfl)) dX1_register_194 ⟨Nat.zero_le _, Nat.zero_le _⟩) hS (fun q _ h => Nat.le_trans hS.1 h) (fun q h => Nat.le_trans hS.1 h) (fun r_27 _ _ H_27 _ _ _ hw _ _ _ hS => ?_)
            subst hw
            exact W.iret (v := (fX1_bits p0 (5 : Int32) ((5 : Int32) + (4 : Int32)))) hx hb hr (fun t ht hW => ⟨⟨(fX1_bits p0 (5 : Int32) ((5 : Int32) + (4 : Int32))), (), rfl, by rw [fX1_register, if_neg c_2, if_pos c_3, if_pos c_21, if_neg c_22, if_pos c_26], trivial⟩, hS.F ht⟩) hS.2.2 dX1_register_197
          · -- not taken
            refine lv_iload_n hx hb dX1_register_65 rfl (lv_at hl 0 rfl) ?_
            refine lv_bipush (v := 16) hx hb dX1_register_66 (by decide) ?_
            refine lv_icmp_le (tgt := 81) hx hb dX1_register_68 (by decide) (fun c_28 => ?_) (fun c_28 => ?_)
            · -- taken
              refine lv_iconst (v := 0) hx hb dX1_register_81 (by decide) ?_
              refine lv_goto (tgt := 147) hx hb dX1_register_82 (by decide) ?_
              refine lv_istore (lv' := [(4, .int (0 : Int32)), (3, .int (fX1_kind p0)), (0, .ref h0), (1, .int p0), (2, .int p1)]) hx hb dX1_register_147 hl (by decide) rfl (fun ls hl => ?_)
              refine lv_iload hx hb dX1_register_149 (lv_at hl 0 rfl) ?_
              refine lv_if_ne (tgt := 156) hx hb dX1_register_151 (by decide) (fun c => absurd c (by decide)) (fun _ => ?_)
              refine lv_iconst (v := -1) hx hb dX1_register_154 (by decide) ?_
              exact W.iret (v := (-1 : Int32)) hx hb hr (fun t ht hW => ⟨⟨(-1 : Int32), (), rfl, by rw [fX1_register, if_neg c_2, if_pos c_3, if_pos c_21, if_neg c_22, if_neg c_26, if_pos c_28], trivial⟩, hS.F ht⟩) hS.2.2 dX1_register_155
            · -- not taken
              refine lv_iload_n hx hb dX1_register_71 rfl (lv_at hl 0 rfl) ?_
              refine lv_bipush (v := 20) hx hb dX1_register_72 (by decide) ?_
              refine lv_icmp_ge (tgt := 81) hx hb dX1_register_74 (by decide) (fun c_29 => ?_) (fun c_29 => ?_)
              · -- taken
                refine lv_iconst (v := 0) hx hb dX1_register_81 (by decide) ?_
                refine lv_goto (tgt := 147) hx hb dX1_register_82 (by decide) ?_
                refine lv_istore (lv' := [(4, .int (0 : Int32)), (3, .int (fX1_kind p0)), (0, .ref h0), (1, .int p0), (2, .int p1)]) hx hb dX1_register_147 hl (by decide) rfl (fun ls hl => ?_)
                refine lv_iload hx hb dX1_register_149 (lv_at hl 0 rfl) ?_
                refine lv_if_ne (tgt := 156) hx hb dX1_register_151 (by decide) (fun c => absurd c (by decide)) (fun _ => ?_)
                refine lv_iconst (v := -1) hx hb dX1_register_154 (by decide) ?_
                exact W.iret (v := (-1 : Int32)) hx hb hr (fun t ht hW => ⟨⟨(-1 : Int32), (), rfl, by rw [fX1_register, if_neg c_2, if_pos c_3, if_pos c_21, if_neg c_22, if_neg c_26, if_neg c_28, if_pos c_29], trivial⟩, hS.F ht⟩) hS.2.2 dX1_register_155
              · -- not taken
                refine lv_iconst (v := 1) hx hb dX1_register_77 (by decide) ?_
                refine lv_goto (tgt := 147) hx hb dX1_register_78 (by decide) ?_
                refine lv_istore (lv' := [(4, .int (1 : Int32)), (3, .int (fX1_kind p0)), (0, .ref h0), (1, .int p0), (2, .int p1)]) hx hb dX1_register_147 hl (by decide) rfl (fun ls hl => ?_)
                refine lv_iload hx hb dX1_register_149 (lv_at hl 0 rfl) ?_
                refine lv_if_ne (tgt := 156) hx hb dX1_register_151 (by decide) (fun _ => ?_) (fun c => absurd c (by decide))
                refine lv_iload_n hx hb dX1_register_156 rfl (lv_at hl 4 rfl) ?_
                refine lv_if_ne (tgt := 164) hx hb dX1_register_157 (by decide) (fun _ => ?_) (fun c => absurd c c_2)
                refine lv_iload_n hx hb dX1_register_164 rfl (lv_at hl 4 rfl) ?_
                refine lv_iconst (v := 1) hx hb dX1_register_165 (by decide) ?_
                refine lv_icmp_ne (tgt := 173) hx hb dX1_register_166 (by decide) (fun c => absurd c_3 c) (fun _ => ?_)
                refine lv_iconst (v := 5) hx hb dX1_register_169 (by decide) ?_
                refine lv_goto (tgt := 185) hx hb dX1_register_170 (by decide) ?_
                refine lv_istore (lv' := [(5, .int (5 : Int32)), (4, .int (1 : Int32)), (3, .int (fX1_kind p0)), (0, .ref h0), (1, .int p0), (2, .int p1)]) hx hb dX1_register_185 hl (by decide) rfl (fun ls hl => ?_)
                refine lv_iload_n hx hb dX1_register_187 rfl (lv_at hl 4 rfl) ?_
                refine lv_iload hx hb dX1_register_188 (lv_at hl 0 rfl) ?_
                refine lv_iload hx hb dX1_register_190 (lv_at hl 0 rfl) ?_
                refine lv_iconst (v := 4) hx hb dX1_register_192 (by decide) ?_
                refine lv_iadd hx hb dX1_register_193 ?_
                refine va_calli (va_runS (As := [.int p0, .int (5 : Int32), .int ((5 : Int32) + (4 : Int32))]) (rest := []) ⟨hx, hb, hml, hown, hts⟩ (mX1_bits l H_1.size p0 (5 : Int32) ((5 : Int32) + (4 : Int32))) (va_cwS 3 hts gX1_register_X1_bits rfl rfl rfl (by decide +kernel) ⟨Nat.le_of_ble_eq_true rfl, Nat.le_of_ble_eq_true rfl⟩) ⟨fb_pure, fun U hU hW => ⟨rfl, congrArg Array.size hU⟩⟩ rfl rfl hl.1 rfl (lv_room (Nat.le_of_ble_eq_true rfl)) dX1_register_194 ⟨Nat.zero_le _, Nat.zero_le _⟩) hS (fun q _ h => Nat.le_trans hS.1 h) (fun q h => Nat.le_trans hS.1 h) (fun r_30 _ _ H_30 _ _ _ hw _ _ _ hS => ?_)
                subst hw
                exact W.iret (v := (fX1_bits p0 (5 : Int32) ((5 : Int32) + (4 : Int32)))) hx hb hr (fun t ht hW => ⟨⟨(fX1_bits p0 (5 : Int32) ((5 : Int32) + (4 : Int32))), (), rfl, by rw [fX1_register, if_neg c_2, if_pos c_3, if_pos c_21, if_neg c_22, if_neg c_26, if_neg c_28, if_neg c_29], trivial⟩, hS.F ht⟩) hS.2.2 dX1_register_197
      · -- not taken
        refine lv_iload_n hx hb dX1_register_49 rfl (lv_at hl 0 rfl) ?_
        refine lv_iconst (v := 4) hx hb dX1_register_50 (by decide) ?_
        refine lv_icmp_lt (tgt := 77) hx hb dX1_register_51 (by decide) (fun c_31 => ?_) (fun c_31 => ?_)
        · -- taken
          refine lv_iconst (v := 1) hx hb dX1_register_77 (by decide) ?_
          refine lv_goto (tgt := 147) hx hb dX1_register_78 (by decide) ?_
          refine lv_istore (lv' := [(4, .int (1 : Int32)), (3, .int (fX1_kind p0)), (0, .ref h0), (1, .int p0), (2, .int p1)]) hx hb dX1_register_147 hl (by decide) rfl (fun ls hl => ?_)
          refine lv_iload hx hb dX1_register_149 (lv_at hl 0 rfl) ?_
          refine lv_if_ne (tgt := 156) hx hb dX1_register_151 (by decide) (fun _ => ?_) (fun c => absurd c (by decide))
          refine lv_iload_n hx hb dX1_register_156 rfl (lv_at hl 4 rfl) ?_
          refine lv_if_ne (tgt := 164) hx hb dX1_register_157 (by decide) (fun _ => ?_) (fun c => absurd c c_2)
          refine lv_iload_n hx hb dX1_register_164 rfl (lv_at hl 4 rfl) ?_
          refine lv_iconst (v := 1) hx hb dX1_register_165 (by decide) ?_
          refine lv_icmp_ne (tgt := 173) hx hb dX1_register_166 (by decide) (fun c => absurd c_3 c) (fun _ => ?_)
          refine lv_iconst (v := 5) hx hb dX1_register_169 (by decide) ?_
          refine lv_goto (tgt := 185) hx hb dX1_register_170 (by decide) ?_
          refine lv_istore (lv' := [(5, .int (5 : Int32)), (4, .int (1 : Int32)), (3, .int (fX1_kind p0)), (0, .ref h0), (1, .int p0), (2, .int p1)]) hx hb dX1_register_185 hl (by decide) rfl (fun ls hl => ?_)
          refine lv_iload_n hx hb dX1_register_187 rfl (lv_at hl 4 rfl) ?_
          refine lv_iload hx hb dX1_register_188 (lv_at hl 0 rfl) ?_
          refine lv_iload hx hb dX1_register_190 (lv_at hl 0 rfl) ?_
          refine lv_iconst (v := 4) hx hb dX1_register_192 (by decide) ?_
          refine lv_iadd hx hb dX1_register_193 ?_
          refine va_calli (va_runS (As := [.int p0, .int (5 : Int32), .int ((5 : Int32) + (4 : Int32))]) (rest := []) ⟨hx, hb, hml, hown, hts⟩ (mX1_bits l H_1.size p0 (5 : Int32) ((5 : Int32) + (4 : Int32))) (va_cwS 3 hts gX1_register_X1_bits rfl rfl rfl (by decide +kernel) ⟨Nat.le_of_ble_eq_true rfl, Nat.le_of_ble_eq_true rfl⟩) ⟨fb_pure, fun U hU hW => ⟨rfl, congrArg Array.size hU⟩⟩ rfl rfl hl.1 rfl (lv_room (Nat.le_of_ble_eq_true rfl)) dX1_register_194 ⟨Nat.zero_le _, Nat.zero_le _⟩) hS (fun q _ h => Nat.le_trans hS.1 h) (fun q h => Nat.le_trans hS.1 h) (fun r_32 _ _ H_32 _ _ _ hw _ _ _ hS => ?_)
          subst hw
          exact W.iret (v := (fX1_bits p0 (5 : Int32) ((5 : Int32) + (4 : Int32)))) hx hb hr (fun t ht hW => ⟨⟨(fX1_bits p0 (5 : Int32) ((5 : Int32) + (4 : Int32))), (), rfl, by rw [fX1_register, if_neg c_2, if_pos c_3, if_neg c_21, if_pos c_31], trivial⟩, hS.F ht⟩) hS.2.2 dX1_register_197
        · -- not taken
          refine lv_iload_n hx hb dX1_register_54 rfl (lv_at hl 0 rfl) ?_
          refine lv_iconst (v := 5) hx hb dX1_register_55 (by decide) ?_
          refine lv_icmp_le (tgt := 65) hx hb dX1_register_56 (by decide) (fun c_33 => ?_) (fun c_33 => ?_)
          · -- taken
            refine lv_iload_n hx hb dX1_register_65 rfl (lv_at hl 0 rfl) ?_
            refine lv_bipush (v := 16) hx hb dX1_register_66 (by decide) ?_
            refine lv_icmp_le (tgt := 81) hx hb dX1_register_68 (by decide) (fun c_34 => ?_) (fun c_34 => ?_)
            · -- taken
              refine lv_iconst (v := 0) hx hb dX1_register_81 (by decide) ?_
              refine lv_goto (tgt := 147) hx hb dX1_register_82 (by decide) ?_
              refine lv_istore (lv' := [(4, .int (0 : Int32)), (3, .int (fX1_kind p0)), (0, .ref h0), (1, .int p0), (2, .int p1)]) hx hb dX1_register_147 hl (by decide) rfl (fun ls hl => ?_)
              refine lv_iload hx hb dX1_register_149 (lv_at hl 0 rfl) ?_
              refine lv_if_ne (tgt := 156) hx hb dX1_register_151 (by decide) (fun c => absurd c (by decide)) (fun _ => ?_)
              refine lv_iconst (v := -1) hx hb dX1_register_154 (by decide) ?_
              exact W.iret (v := (-1 : Int32)) hx hb hr (fun t ht hW => ⟨⟨(-1 : Int32), (), rfl, by rw [fX1_register, if_neg c_2, if_pos c_3, if_neg c_21, if_neg c_31, if_pos c_33, if_pos c_34], trivial⟩, hS.F ht⟩) hS.2.2 dX1_register_155
            · -- not taken
              refine lv_iload_n hx hb dX1_register_71 rfl (lv_at hl 0 rfl) ?_
              refine lv_bipush (v := 20) hx hb dX1_register_72 (by decide) ?_
              refine lv_icmp_ge (tgt := 81) hx hb dX1_register_74 (by decide) (fun c_35 => ?_) (fun c_35 => ?_)
              · -- taken
                refine lv_iconst (v := 0) hx hb dX1_register_81 (by decide) ?_
                refine lv_goto (tgt := 147) hx hb dX1_register_82 (by decide) ?_
                refine lv_istore (lv' := [(4, .int (0 : Int32)), (3, .int (fX1_kind p0)), (0, .ref h0), (1, .int p0), (2, .int p1)]) hx hb dX1_register_147 hl (by decide) rfl (fun ls hl => ?_)
                refine lv_iload hx hb dX1_register_149 (lv_at hl 0 rfl) ?_
                refine lv_if_ne (tgt := 156) hx hb dX1_register_151 (by decide) (fun c => absurd c (by decide)) (fun _ => ?_)
                refine lv_iconst (v := -1) hx hb dX1_register_154 (by decide) ?_
                exact W.iret (v := (-1 : Int32)) hx hb hr (fun t ht hW => ⟨⟨(-1 : Int32), (), rfl, by rw [fX1_register, if_neg c_2, if_pos c_3, if_neg c_21, if_neg c_31, if_pos c_33, if_neg c_34, if_pos c_35], trivial⟩, hS.F ht⟩) hS.2.2 dX1_register_155
              · -- not taken
                refine lv_iconst (v := 1) hx hb dX1_register_77 (by decide) ?_
                refine lv_goto (tgt := 147) hx hb dX1_register_78 (by decide) ?_
                refine lv_istore (lv' := [(4, .int (1 : Int32)), (3, .int (fX1_kind p0)), (0, .ref h0), (1, .int p0), (2, .int p1)]) hx hb dX1_register_147 hl (by decide) rfl (fun ls hl => ?_)
                refine lv_iload hx hb dX1_register_149 (lv_at hl 0 rfl) ?_
                refine lv_if_ne (tgt := 156) hx hb dX1_register_151 (by decide) (fun _ => ?_) (fun c => absurd c (by decide))
                refine lv_iload_n hx hb dX1_register_156 rfl (lv_at hl 4 rfl) ?_
                refine lv_if_ne (tgt := 164) hx hb dX1_register_157 (by decide) (fun _ => ?_) (fun c => absurd c c_2)
                refine lv_iload_n hx hb dX1_register_164 rfl (lv_at hl 4 rfl) ?_
                refine lv_iconst (v := 1) hx hb dX1_register_165 (by decide) ?_
                refine lv_icmp_ne (tgt := 173) hx hb dX1_register_166 (by decide) (fun c => absurd c_3 c) (fun _ => ?_)
                refine lv_iconst (v := 5) hx hb dX1_register_169 (by decide) ?_
                refine lv_goto (tgt := 185) hx hb dX1_register_170 (by decide) ?_
                refine lv_istore (lv' := [(5, .int (5 : Int32)), (4, .int (1 : Int32)), (3, .int (fX1_kind p0)), (0, .ref h0), (1, .int p0), (2, .int p1)]) hx hb dX1_register_185 hl (by decide) rfl (fun ls hl => ?_)
                refine lv_iload_n hx hb dX1_register_187 rfl (lv_at hl 4 rfl) ?_
                refine lv_iload hx hb dX1_register_188 (lv_at hl 0 rfl) ?_
                refine lv_iload hx hb dX1_register_190 (lv_at hl 0 rfl) ?_
                refine lv_iconst (v := 4) hx hb dX1_register_192 (by decide) ?_
                refine lv_iadd hx hb dX1_register_193 ?_
                refine va_calli (va_runS (As := [.int p0, .int (5 : Int32), .int ((5 : Int32) + (4 : Int32))]) (rest := []) ⟨hx, hb, hml, hown, hts⟩ (mX1_bits l H_1.size p0 (5 : Int32) ((5 : Int32) + (4 : Int32))) (va_cwS 3 hts gX1_register_X1_bits rfl rfl rfl (by decide +kernel) ⟨Nat.le_of_ble_eq_true rfl, Nat.le_of_ble_eq_true rfl⟩) ⟨fb_pure, fun U hU hW => ⟨rfl, congrArg Array.size hU⟩⟩ rfl rfl hl.1 rfl (lv_room (Nat.le_of_ble_eq_true rfl)) dX1_register_194 ⟨Nat.zero_le _, Nat.zero_le _⟩) hS (fun q _ h => Nat.le_trans hS.1 h) (fun q h => Nat.le_trans hS.1 h) (fun r_36 _ _ H_36 _ _ _ hw _ _ _ hS => ?_)
                subst hw
                exact W.iret (v := (fX1_bits p0 (5 : Int32) ((5 : Int32) + (4 : Int32)))) hx hb hr (fun t ht hW => ⟨⟨(fX1_bits p0 (5 : Int32) ((5 : Int32) + (4 : Int32))), (), rfl, by rw [fX1_register, if_neg c_2, if_pos c_3, if_neg c_21, if_neg c_31, if_pos c_33, if_neg c_34, if_neg c_35], trivial⟩, hS.F ht⟩) hS.2.2 dX1_register_197
          · -- not taken
            refine lv_iload_n hx hb dX1_register_59 rfl (lv_at hl 0 rfl) ?_
            refine lv_bipush (v := 12) hx hb dX1_register_60 (by decide) ?_
            refine lv_icmp_lt (tgt := 77) hx hb dX1_register_62 (by decide) (fun c_37 => ?_) (fun c_37 => ?_)
            · -- taken
              refine lv_iconst (v := 1) hx hb dX1_register_77 (by decide) ?_
              refine lv_goto (tgt := 147) hx hb dX1_register_78 (by decide) ?_
              refine lv_istore (lv' := [(4, .int (1 : Int32)), (3, .int (fX1_kind p0)), (0, .ref h0), (1, .int p0), (2, .int p1)]) hx hb dX1_register_147 hl (by decide) rfl (fun ls hl => ?_)
              refine lv_iload hx hb dX1_register_149 (lv_at hl 0 rfl) ?_
              refine lv_if_ne (tgt := 156) hx hb dX1_register_151 (by decide) (fun _ => ?_) (fun c => absurd c (by decide))
              refine lv_iload_n hx hb dX1_register_156 rfl (lv_at hl 4 rfl) ?_
              refine lv_if_ne (tgt := 164) hx hb dX1_register_157 (by decide) (fun _ => ?_) (fun c => absurd c c_2)
              refine lv_iload_n hx hb dX1_register_164 rfl (lv_at hl 4 rfl) ?_
              refine lv_iconst (v := 1) hx hb dX1_register_165 (by decide) ?_
              refine lv_icmp_ne (tgt := 173) hx hb dX1_register_166 (by decide) (fun c => absurd c_3 c) (fun _ => ?_)
              refine lv_iconst (v := 5) hx hb dX1_register_169 (by decide) ?_
              refine lv_goto (tgt := 185) hx hb dX1_register_170 (by decide) ?_
              refine lv_istore (lv' := [(5, .int (5 : Int32)), (4, .int (1 : Int32)), (3, .int (fX1_kind p0)), (0, .ref h0), (1, .int p0), (2, .int p1)]) hx hb dX1_register_185 hl (by decide) rfl (fun ls hl => ?_)
              refine lv_iload_n hx hb dX1_register_187 rfl (lv_at hl 4 rfl) ?_
              refine lv_iload hx hb dX1_register_188 (lv_at hl 0 rfl) ?_
              refine lv_iload hx hb dX1_register_190 (lv_at hl 0 rfl) ?_
              refine lv_iconst (v := 4) hx hb dX1_register_192 (by decide) ?_
              refine lv_iadd hx hb dX1_register_193 ?_
              refine va_calli (va_runS (As := [.int p0, .int (5 : Int32), .int ((5 : Int32) + (4 : Int32))]) (rest := []) ⟨hx, hb, hml, hown, hts⟩ (mX1_bits l H_1.size p0 (5 : Int32) ((5 : Int32) + (4 : Int32))) (va_cwS 3 hts gX1_register_X1_bits rfl rfl rfl (by decide +kernel) ⟨Nat.le_of_ble_eq_true rfl, Nat.le_of_ble_eq_true rfl⟩) ⟨fb_pure, fun U hU hW => ⟨rfl, congrArg Array.size hU⟩⟩ rfl rfl hl.1 rfl (lv_room (Nat.le_of_ble_eq_true rfl)) dX1_register_194 ⟨Nat.zero_le _, Nat.zero_le _⟩) hS (fun q _ h => Nat.le_trans hS.1 h) (fun q h => Nat.le_trans hS.1 h) (fun r_38 _ _ H_38 _ _ _ hw _ _ _ hS => ?_)
              subst hw
              exact W.iret (v := (fX1_bits p0 (5 : Int32) ((5 : Int32) + (4 : Int32)))) hx hb hr (fun t ht hW => ⟨⟨(fX1_bits p0 (5 : Int32) ((5 : Int32) + (4 : Int32))), (), rfl, by rw [fX1_register, if_neg c_2, if_pos c_3, if_neg c_21, if_neg c_31, if_neg c_33, if_pos c_37], trivial⟩, hS.F ht⟩) hS.2.2 dX1_register_197
            · -- not taken
              refine lv_iload_n hx hb dX1_register_65 rfl (lv_at hl 0 rfl) ?_
              refine lv_bipush (v := 16) hx hb dX1_register_66 (by decide) ?_
              refine lv_icmp_le (tgt := 81) hx hb dX1_register_68 (by decide) (fun c_39 => ?_) (fun c_39 => ?_)
              · -- taken
                refine lv_iconst (v := 0) hx hb dX1_register_81 (by decide) ?_
                refine lv_goto (tgt := 147) hx hb dX1_register_82 (by decide) ?_
                refine lv_istore (lv' := [(4, .int (0 : Int32)), (3, .int (fX1_kind p0)), (0, .ref h0), (1, .int p0), (2, .int p1)]) hx hb dX1_register_147 hl (by decide) rfl (fun ls hl => ?_)
                refine lv_iload hx hb dX1_register_149 (lv_at hl 0 rfl) ?_
                refine lv_if_ne (tgt := 156) hx hb dX1_register_151 (by decide) (fun c => absurd c (by decide)) (fun _ => ?_)
                refine lv_iconst (v := -1) hx hb dX1_register_154 (by decide) ?_
                exact W.iret (v := (-1 : Int32)) hx hb hr (fun t ht hW => ⟨⟨(-1 : Int32), (), rfl, by rw [fX1_register, if_neg c_2, if_pos c_3, if_neg c_21, if_neg c_31, if_neg c_33, if_neg c_37, if_pos c_39], trivial⟩, hS.F ht⟩) hS.2.2 dX1_register_155
              · -- not taken
                refine lv_iload_n hx hb dX1_register_71 rfl (lv_at hl 0 rfl) ?_
                refine lv_bipush (v := 20) hx hb dX1_register_72 (by decide) ?_
                refine lv_icmp_ge (tgt := 81) hx hb dX1_register_74 (by decide) (fun c_40 => ?_) (fun c_40 => ?_)
                · -- taken
                  refine lv_iconst (v := 0) hx hb dX1_register_81 (by decide) ?_
                  refine lv_goto (tgt := 147) hx hb dX1_register_82 (by decide) ?_
                  refine lv_istore (lv' := [(4, .int (0 : Int32)), (3, .int (fX1_kind p0)), (0, .ref h0), (1, .int p0), (2, .int p1)]) hx hb dX1_register_147 hl (by decide) rfl (fun ls hl => ?_)
                  refine lv_iload hx hb dX1_register_149 (lv_at hl 0 rfl) ?_
                  refine lv_if_ne (tgt := 156) hx hb dX1_register_151 (by decide) (fun c => absurd c (by decide)) (fun _ => ?_)
                  refine lv_iconst (v := -1) hx hb dX1_register_154 (by decide) ?_
                  exact W.iret (v := (-1 : Int32)) hx hb hr (fun t ht hW => ⟨⟨(-1 : Int32), (), rfl, by rw [fX1_register, if_neg c_2, if_pos c_3, if_neg c_21, if_neg c_31, if_neg c_33, if_neg c_37, if_neg c_39, if_pos c_40], trivial⟩, hS.F ht⟩) hS.2.2 dX1_register_155
                · -- not taken
                  refine lv_iconst (v := 1) hx hb dX1_register_77 (by decide) ?_
                  refine lv_goto (tgt := 147) hx hb dX1_register_78 (by decide) ?_
                  refine lv_istore (lv' := [(4, .int (1 : Int32)), (3, .int (fX1_kind p0)), (0, .ref h0), (1, .int p0), (2, .int p1)]) hx hb dX1_register_147 hl (by decide) rfl (fun ls hl => ?_)
                  refine lv_iload hx hb dX1_register_149 (lv_at hl 0 rfl) ?_
                  refine lv_if_ne (tgt := 156) hx hb dX1_register_151 (by decide) (fun _ => ?_) (fun c => absurd c (by decide))
                  refine lv_iload_n hx hb dX1_register_156 rfl (lv_at hl 4 rfl) ?_
                  refine lv_if_ne (tgt := 164) hx hb dX1_register_157 (by decide) (fun _ => ?_) (fun c => absurd c c_2)
                  refine lv_iload_n hx hb dX1_register_164 rfl (lv_at hl 4 rfl) ?_
                  refine lv_iconst (v := 1) hx hb dX1_register_165 (by decide) ?_
                  refine lv_icmp_ne (tgt := 173) hx hb dX1_register_166 (by decide) (fun c => absurd c_3 c) (fun _ => ?_)
                  refine lv_iconst (v := 5) hx hb dX1_register_169 (by decide) ?_
                  refine lv_goto (tgt := 185) hx hb dX1_register_170 (by decide) ?_
                  refine lv_istore (lv' := [(5, .int (5 : Int32)), (4, .int (1 : Int32)), (3, .int (fX1_kind p0)), (0, .ref h0), (1, .int p0), (2, .int p1)]) hx hb dX1_register_185 hl (by decide) rfl (fun ls hl => ?_)
                  refine lv_iload_n hx hb dX1_register_187 rfl (lv_at hl 4 rfl) ?_
                  refine lv_iload hx hb dX1_register_188 (lv_at hl 0 rfl) ?_
                  refine lv_iload hx hb dX1_register_190 (lv_at hl 0 rfl) ?_
                  refine lv_iconst (v := 4) hx hb dX1_register_192 (by decide) ?_
                  refine lv_iadd hx hb dX1_register_193 ?_
                  refine va_calli (va_runS (As := [.int p0, .int (5 : Int32), .int ((5 : Int32) + (4 : Int32))]) (rest := []) ⟨hx, hb, hml, hown, hts⟩ (mX1_bits l H_1.size p0 (5 : Int32) ((5 : Int32) + (4 : Int32))) (va_cwS 3 hts gX1_register_X1_bits rfl rfl rfl (by decide +kernel) ⟨Nat.le_of_ble_eq_true rfl, Nat.le_of_ble_eq_true rfl⟩) ⟨fb_pure, fun U hU hW => ⟨rfl, congrArg Array.size hU⟩⟩ rfl rfl hl.1 rfl (lv_room (Nat.le_of_ble_eq_true rfl)) dX1_register_194 ⟨Nat.zero_le _, Nat.zero_le _⟩) hS (fun q _ h => Nat.le_trans hS.1 h) (fun q h => Nat.le_trans hS.1 h) (fun r_41 _ _ H_41 _ _ _ hw _ _ _ hS => ?_)
                  subst hw
                  exact W.iret (v := (fX1_bits p0 (5 : Int32) ((5 : Int32) + (4 : Int32)))) hx hb hr (fun t ht hW => ⟨⟨(fX1_bits p0 (5 : Int32) ((5 : Int32) + (4 : Int32))), (), rfl, by rw [fX1_register, if_neg c_2, if_pos c_3, if_neg c_21, if_neg c_31, if_neg c_33, if_neg c_37, if_neg c_39, if_neg c_40], trivial⟩, hS.F ht⟩) hS.2.2 dX1_register_197
  · -- not taken
    refine lv_iload_n hx hb dX1_register_10 rfl (lv_at hl 0 rfl) ?_
    refine lv_if_le (tgt := 20) hx hb dX1_register_11 (by decide) (fun c_42 => ?_) (fun c_42 => ?_)
    · -- taken
      refine lv_iload_n hx hb dX1_register_20 rfl (lv_at hl 0 rfl) ?_
      refine lv_bipush (v := 15) hx hb dX1_register_21 (by decide) ?_
      refine lv_icmp_eq (tgt := 32) hx hb dX1_register_23 (by decide) (fun c_43 => ?_) (fun c_43 => ?_)
      · -- taken
        refine lv_iconst (v := 1) hx hb dX1_register_32 (by decide) ?_
        refine lv_goto (tgt := 147) hx hb dX1_register_33 (by decide) ?_
        refine lv_istore (lv' := [(4, .int (1 : Int32)), (3, .int (fX1_kind p0)), (0, .ref h0), (1, .int p0), (2, .int p1)]) hx hb dX1_register_147 hl (by decide) rfl (fun ls hl => ?_)
        refine lv_iload hx hb dX1_register_149 (lv_at hl 0 rfl) ?_
        refine lv_if_ne (tgt := 156) hx hb dX1_register_151 (by decide) (fun _ => ?_) (fun c => absurd c (by decide))
        refine lv_iload_n hx hb dX1_register_156 rfl (lv_at hl 4 rfl) ?_
        refine lv_if_ne (tgt := 164) hx hb dX1_register_157 (by decide) (fun c => absurd c_2 c) (fun _ => ?_)
        refine lv_iconst (v := 0) hx hb dX1_register_160 (by decide) ?_
        refine lv_goto (tgt := 185) hx hb dX1_register_161 (by decide) ?_
        refine lv_istore (lv' := [(5, .int (0 : Int32)), (4, .int (1 : Int32)), (3, .int (fX1_kind p0)), (0, .ref h0), (1, .int p0), (2, .int p1)]) hx hb dX1_register_185 hl (by decide) rfl (fun ls hl => ?_)
        refine lv_iload_n hx hb dX1_register_187 rfl (lv_at hl 4 rfl) ?_
        refine lv_iload hx hb dX1_register_188 (lv_at hl 0 rfl) ?_
        refine lv_iload hx hb dX1_register_190 (lv_at hl 0 rfl) ?_
        refine lv_iconst (v := 4) hx hb dX1_register_192 (by decide) ?_
        refine lv_iadd hx hb dX1_register_193 ?_
        refine va_calli (va_runS (As := [.int p0, .int (0 : Int32), .int ((0 : Int32) + (4 : Int32))]) (rest := []) ⟨hx, hb, hml, hown, hts⟩ (mX1_bits l H_1.size p0 (0 : Int32) ((0 : Int32) + (4 : Int32))) (va_cwS 3 hts gX1_register_X1_bits rfl rfl rfl (by decide +kernel) ⟨Nat.le_of_ble_eq_true rfl, Nat.le_of_ble_eq_true rfl⟩) ⟨fb_pure, fun U hU hW => ⟨rfl, congrArg Array.size hU⟩⟩ rfl rfl hl.1 rfl (lv_room (Nat.le_of_ble_eq_true rfl)) dX1_register_194 ⟨Nat.zero_le _, Nat.zero_le _⟩) hS (fun q _ h => Nat.le_trans hS.1 h) (fun q h => Nat.le_trans hS.1 h) (fun r_44 _ _ H_44 _ _ _ hw _ _ _ hS => ?_)
        subst hw
        exact W.iret (v := (fX1_bits p0 (0 : Int32) ((0 : Int32) + (4 : Int32)))) hx hb hr (fun t ht hW => ⟨⟨(fX1_bits p0 (0 : Int32) ((0 : Int32) + (4 : Int32))), (), rfl, by rw [fX1_register, if_pos c_2, if_pos c_42, if_pos c_43], trivial⟩, hS.F ht⟩) hS.2.2 dX1_register_197
      · -- not taken
        refine lv_iload_n hx hb dX1_register_26 rfl (lv_at hl 0 rfl) ?_
        refine lv_bipush (v := 16) hx hb dX1_register_27 (by decide) ?_
        refine lv_icmp_ne (tgt := 36) hx hb dX1_register_29 (by decide) (fun c_45 => ?_) (fun c_45 => ?_)
        · -- taken
          refine lv_iconst (v := 0) hx hb dX1_register_36 (by decide) ?_
          refine lv_goto (tgt := 147) hx hb dX1_register_37 (by decide) ?_
          refine lv_istore (lv' := [(4, .int (0 : Int32)), (3, .int (fX1_kind p0)), (0, .ref h0), (1, .int p0), (2, .int p1)]) hx hb dX1_register_147 hl (by decide) rfl (fun ls hl => ?_)
          refine lv_iload hx hb dX1_register_149 (lv_at hl 0 rfl) ?_
          refine lv_if_ne (tgt := 156) hx hb dX1_register_151 (by decide) (fun c => absurd c (by decide)) (fun _ => ?_)
          refine lv_iconst (v := -1) hx hb dX1_register_154 (by decide) ?_
          exact W.iret (v := (-1 : Int32)) hx hb hr (fun t ht hW => ⟨⟨(-1 : Int32), (), rfl, by rw [fX1_register, if_pos c_2, if_pos c_42, if_neg c_43, if_neg c_45], trivial⟩, hS.F ht⟩) hS.2.2 dX1_register_155
        · -- not taken
          refine lv_iconst (v := 1) hx hb dX1_register_32 (by decide) ?_
          refine lv_goto (tgt := 147) hx hb dX1_register_33 (by decide) ?_
          refine lv_istore (lv' := [(4, .int (1 : Int32)), (3, .int (fX1_kind p0)), (0, .ref h0), (1, .int p0), (2, .int p1)]) hx hb dX1_register_147 hl (by decide) rfl (fun ls hl => ?_)
          refine lv_iload hx hb dX1_register_149 (lv_at hl 0 rfl) ?_
          refine lv_if_ne (tgt := 156) hx hb dX1_register_151 (by decide) (fun _ => ?_) (fun c => absurd c (by decide))
          refine lv_iload_n hx hb dX1_register_156 rfl (lv_at hl 4 rfl) ?_
          refine lv_if_ne (tgt := 164) hx hb dX1_register_157 (by decide) (fun c => absurd c_2 c) (fun _ => ?_)
          refine lv_iconst (v := 0) hx hb dX1_register_160 (by decide) ?_
          refine lv_goto (tgt := 185) hx hb dX1_register_161 (by decide) ?_
          refine lv_istore (lv' := [(5, .int (0 : Int32)), (4, .int (1 : Int32)), (3, .int (fX1_kind p0)), (0, .ref h0), (1, .int p0), (2, .int p1)]) hx hb dX1_register_185 hl (by decide) rfl (fun ls hl => ?_)
          refine lv_iload_n hx hb dX1_register_187 rfl (lv_at hl 4 rfl) ?_
          refine lv_iload hx hb dX1_register_188 (lv_at hl 0 rfl) ?_
          refine lv_iload hx hb dX1_register_190 (lv_at hl 0 rfl) ?_
          refine lv_iconst (v := 4) hx hb dX1_register_192 (by decide) ?_
          refine lv_iadd hx hb dX1_register_193 ?_
          refine va_calli (va_runS (As := [.int p0, .int (0 : Int32), .int ((0 : Int32) + (4 : Int32))]) (rest := []) ⟨hx, hb, hml, hown, hts⟩ (mX1_bits l H_1.size p0 (0 : Int32) ((0 : Int32) + (4 : Int32))) (va_cwS 3 hts gX1_register_X1_bits rfl rfl rfl (by decide +kernel) ⟨Nat.le_of_ble_eq_true rfl, Nat.le_of_ble_eq_true rfl⟩) ⟨fb_pure, fun U hU hW => ⟨rfl, congrArg Array.size hU⟩⟩ rfl rfl hl.1 rfl (lv_room (Nat.le_of_ble_eq_true rfl)) dX1_register_194 ⟨Nat.zero_le _, Nat.zero_le _⟩) hS (fun q _ h => Nat.le_trans hS.1 h) (fun q h => Nat.le_trans hS.1 h) (fun r_46 _ _ H_46 _ _ _ hw _ _ _ hS => ?_)
          subst hw
          exact W.iret (v := (fX1_bits p0 (0 : Int32) ((0 : Int32) + (4 : Int32)))) hx hb hr (fun t ht hW => ⟨⟨(fX1_bits p0 (0 : Int32) ((0 : Int32) + (4 : Int32))), (), rfl, by rw [fX1_register, if_pos c_2, if_pos c_42, if_neg c_43, if_pos c_45], trivial⟩, hS.F ht⟩) hS.2.2 dX1_register_197
    · -- not taken
      refine lv_iload_n hx hb dX1_register_14 rfl (lv_at hl 0 rfl) ?_
      refine lv_bipush (v := 12) hx hb dX1_register_15 (by decide) ?_
      refine lv_icmp_lt (tgt := 32) hx hb dX1_register_17 (by decide) (fun c_47 => ?_) (fun c_47 => ?_)
      · -- taken
        refine lv_iconst (v := 1) hx hb dX1_register_32 (by decide) ?_
        refine lv_goto (tgt := 147) hx hb dX1_register_33 (by decide) ?_
        refine lv_istore (lv' := [(4, .int (1 : Int32)), (3, .int (fX1_kind p0)), (0, .ref h0), (1, .int p0), (2, .int p1)]) hx hb dX1_register_147 hl (by decide) rfl (fun ls hl => ?_)
        refine lv_iload hx hb dX1_register_149 (lv_at hl 0 rfl) ?_
        refine lv_if_ne (tgt := 156) hx hb dX1_register_151 (by decide) (fun _ => ?_) (fun c => absurd c (by decide))
        refine lv_iload_n hx hb dX1_register_156 rfl (lv_at hl 4 rfl) ?_
        refine lv_if_ne (tgt := 164) hx hb dX1_register_157 (by decide) (fun c => absurd c_2 c) (fun _ => ?_)
        refine lv_iconst (v := 0) hx hb dX1_register_160 (by decide) ?_
        refine lv_goto (tgt := 185) hx hb dX1_register_161 (by decide) ?_
        refine lv_istore (lv' := [(5, .int (0 : Int32)), (4, .int (1 : Int32)), (3, .int (fX1_kind p0)), (0, .ref h0), (1, .int p0), (2, .int p1)]) hx hb dX1_register_185 hl (by decide) rfl (fun ls hl => ?_)
        refine lv_iload_n hx hb dX1_register_187 rfl (lv_at hl 4 rfl) ?_
        refine lv_iload hx hb dX1_register_188 (lv_at hl 0 rfl) ?_
        refine lv_iload hx hb dX1_register_190 (lv_at hl 0 rfl) ?_
        refine lv_iconst (v := 4) hx hb dX1_register_192 (by decide) ?_
        refine lv_iadd hx hb dX1_register_193 ?_
        refine va_calli (va_runS (As := [.int p0, .int (0 : Int32), .int ((0 : Int32) + (4 : Int32))]) (rest := []) ⟨hx, hb, hml, hown, hts⟩ (mX1_bits l H_1.size p0 (0 : Int32) ((0 : Int32) + (4 : Int32))) (va_cwS 3 hts gX1_register_X1_bits rfl rfl rfl (by decide +kernel) ⟨Nat.le_of_ble_eq_true rfl, Nat.le_of_ble_eq_true rfl⟩) ⟨fb_pure, fun U hU hW => ⟨rfl, congrArg Array.size hU⟩⟩ rfl rfl hl.1 rfl (lv_room (Nat.le_of_ble_eq_true rfl)) dX1_register_194 ⟨Nat.zero_le _, Nat.zero_le _⟩) hS (fun q _ h => Nat.le_trans hS.1 h) (fun q h => Nat.le_trans hS.1 h) (fun r_48 _ _ H_48 _ _ _ hw _ _ _ hS => ?_)
        subst hw
        exact W.iret (v := (fX1_bits p0 (0 : Int32) ((0 : Int32) + (4 : Int32)))) hx hb hr (fun t ht hW => ⟨⟨(fX1_bits p0 (0 : Int32) ((0 : Int32) + (4 : Int32))), (), rfl, by rw [fX1_register, if_pos c_2, if_neg c_42, if_pos c_47], trivial⟩, hS.F ht⟩) hS.2.2 dX1_register_197
      · -- not taken
        refine lv_iload_n hx hb dX1_register_20 rfl (lv_at hl 0 rfl) ?_
        refine lv_bipush (v := 15) hx hb dX1_register_21 (by decide) ?_
        refine lv_icmp_eq (tgt := 32) hx hb dX1_register_23 (by decide) (fun c_49 => ?_) (fun c_49 => ?_)
        · -- taken
          refine lv_iconst (v := 1) hx hb dX1_register_32 (by decide) ?_
          refine lv_goto (tgt := 147) hx hb dX1_register_33 (by decide) ?_
          refine lv_istore (lv' := [(4, .int (1 : Int32)), (3, .int (fX1_kind p0)), (0, .ref h0), (1, .int p0), (2, .int p1)]) hx hb dX1_register_147 hl (by decide) rfl (fun ls hl => ?_)
          refine lv_iload hx hb dX1_register_149 (lv_at hl 0 rfl) ?_
          refine lv_if_ne (tgt := 156) hx hb dX1_register_151 (by decide) (fun _ => ?_) (fun c => absurd c (by decide))
          refine lv_iload_n hx hb dX1_register_156 rfl (lv_at hl 4 rfl) ?_
          refine lv_if_ne (tgt := 164) hx hb dX1_register_157 (by decide) (fun c => absurd c_2 c) (fun _ => ?_)
          refine lv_iconst (v := 0) hx hb dX1_register_160 (by decide) ?_
          refine lv_goto (tgt := 185) hx hb dX1_register_161 (by decide) ?_
          refine lv_istore (lv' := [(5, .int (0 : Int32)), (4, .int (1 : Int32)), (3, .int (fX1_kind p0)), (0, .ref h0), (1, .int p0), (2, .int p1)]) hx hb dX1_register_185 hl (by decide) rfl (fun ls hl => ?_)
          refine lv_iload_n hx hb dX1_register_187 rfl (lv_at hl 4 rfl) ?_
          refine lv_iload hx hb dX1_register_188 (lv_at hl 0 rfl) ?_
          refine lv_iload hx hb dX1_register_190 (lv_at hl 0 rfl) ?_
          refine lv_iconst (v := 4) hx hb dX1_register_192 (by decide) ?_
          refine lv_iadd hx hb dX1_register_193 ?_
          refine va_calli (va_runS (As := [.int p0, .int (0 : Int32), .int ((0 : Int32) + (4 : Int32))]) (rest := []) ⟨hx, hb, hml, hown, hts⟩ (mX1_bits l H_1.size p0 (0 : Int32) ((0 : Int32) + (4 : Int32))) (va_cwS 3 hts gX1_register_X1_bits rfl rfl rfl (by decide +kernel) ⟨Nat.le_of_ble_eq_true rfl, Nat.le_of_ble_eq_true rfl⟩) ⟨fb_pure, fun U hU hW => ⟨rfl, congrArg Array.size hU⟩⟩ rfl rfl hl.1 rfl (lv_room (Nat.le_of_ble_eq_true rfl)) dX1_register_194 ⟨Nat.zero_le _, Nat.zero_le _⟩) hS (fun q _ h => Nat.le_trans hS.1 h) (fun q h => Nat.le_trans hS.1 h) (fun r_50 _ _ H_50 _ _ _ hw _ _ _ hS => ?_)
          subst hw
          exact W.iret (v := (fX1_bits p0 (0 : Int32) ((0 : Int32) + (4 : Int32)))) hx hb hr (fun t ht hW => ⟨⟨(fX1_bits p0 (0 : Int32) ((0 : Int32) + (4 : Int32))), (), rfl, by rw [fX1_register, if_pos c_2, if_neg c_42, if_neg c_47, if_pos c_49], trivial⟩, hS.F ht⟩) hS.2.2 dX1_register_197
        · -- not taken
          refine lv_iload_n hx hb dX1_register_26 rfl (lv_at hl 0 rfl) ?_
          refine lv_bipush (v := 16) hx hb dX1_register_27 (by decide) ?_
          refine lv_icmp_ne (tgt := 36) hx hb dX1_register_29 (by decide) (fun c_51 => ?_) (fun c_51 => ?_)
          · -- taken
            refine lv_iconst (v := 0) hx hb dX1_register_36 (by decide) ?_
            refine lv_goto (tgt := 147) hx hb dX1_register_37 (by decide) ?_
            refine lv_istore (lv' := [(4, .int (0 : Int32)), (3, .int (fX1_kind p0)), (0, .ref h0), (1, .int p0), (2, .int p1)]) hx hb dX1_register_147 hl (by decide) rfl (fun ls hl => ?_)
            refine lv_iload hx hb dX1_register_149 (lv_at hl 0 rfl) ?_
            refine lv_if_ne (tgt := 156) hx hb dX1_register_151 (by decide) (fun c => absurd c (by decide)) (fun _ => ?_)
            refine lv_iconst (v := -1) hx hb dX1_register_154 (by decide) ?_
            exact W.iret (v := (-1 : Int32)) hx hb hr (fun t ht hW => ⟨⟨(-1 : Int32), (), rfl, by rw [fX1_register, if_pos c_2, if_neg c_42, if_neg c_47, if_neg c_49, if_neg c_51], trivial⟩, hS.F ht⟩) hS.2.2 dX1_register_155
          · -- not taken
            refine lv_iconst (v := 1) hx hb dX1_register_32 (by decide) ?_
            refine lv_goto (tgt := 147) hx hb dX1_register_33 (by decide) ?_
            refine lv_istore (lv' := [(4, .int (1 : Int32)), (3, .int (fX1_kind p0)), (0, .ref h0), (1, .int p0), (2, .int p1)]) hx hb dX1_register_147 hl (by decide) rfl (fun ls hl => ?_)
            refine lv_iload hx hb dX1_register_149 (lv_at hl 0 rfl) ?_
            refine lv_if_ne (tgt := 156) hx hb dX1_register_151 (by decide) (fun _ => ?_) (fun c => absurd c (by decide))
            refine lv_iload_n hx hb dX1_register_156 rfl (lv_at hl 4 rfl) ?_
            refine lv_if_ne (tgt := 164) hx hb dX1_register_157 (by decide) (fun c => absurd c_2 c) (fun _ => ?_)
            refine lv_iconst (v := 0) hx hb dX1_register_160 (by decide) ?_
            refine lv_goto (tgt := 185) hx hb dX1_register_161 (by decide) ?_
            refine lv_istore (lv' := [(5, .int (0 : Int32)), (4, .int (1 : Int32)), (3, .int (fX1_kind p0)), (0, .ref h0), (1, .int p0), (2, .int p1)]) hx hb dX1_register_185 hl (by decide) rfl (fun ls hl => ?_)
            refine lv_iload_n hx hb dX1_register_187 rfl (lv_at hl 4 rfl) ?_
            refine lv_iload hx hb dX1_register_188 (lv_at hl 0 rfl) ?_
            refine lv_iload hx hb dX1_register_190 (lv_at hl 0 rfl) ?_
            refine lv_iconst (v := 4) hx hb dX1_register_192 (by decide) ?_
            refine lv_iadd hx hb dX1_register_193 ?_
            refine va_calli (va_runS (As := [.int p0, .int (0 : Int32), .int ((0 : Int32) + (4 : Int32))]) (rest := []) ⟨hx, hb, hml, hown, hts⟩ (mX1_bits l H_1.size p0 (0 : Int32) ((0 : Int32) + (4 : Int32))) (va_cwS 3 hts gX1_register_X1_bits rfl rfl rfl (by decide +kernel) ⟨Nat.le_of_ble_eq_true rfl, Nat.le_of_ble_eq_true rfl⟩) ⟨fb_pure, fun U hU hW => ⟨rfl, congrArg Array.size hU⟩⟩ rfl rfl hl.1 rfl (lv_room (Nat.le_of_ble_eq_true rfl)) dX1_register_194 ⟨Nat.zero_le _, Nat.zero_le _⟩) hS (fun q _ h => Nat.le_trans hS.1 h) (fun q h => Nat.le_trans hS.1 h) (fun r_52 _ _ H_52 _ _ _ hw _ _ _ hS => ?_)
            subst hw
            exact W.iret (v := (fX1_bits p0 (0 : Int32) ((0 : Int32) + (4 : Int32)))) hx hb hr (fun t ht hW => ⟨⟨(fX1_bits p0 (0 : Int32) ((0 : Int32) + (4 : Int32))), (), rfl, by rw [fX1_register, if_pos c_2, if_neg c_42, if_neg c_47, if_neg c_49, if_pos c_51], trivial⟩, hS.F ht⟩) hS.2.2 dX1_register_197
