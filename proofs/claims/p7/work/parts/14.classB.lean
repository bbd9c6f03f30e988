set_option maxHeartbeats 4000000 in
set_option maxRecDepth 100000 in
theorem mX0_isGoing (l : Launch) (sz : Nat) (p0 : Int32) : Met l yX0_isGoing wsX0_isGoing ({ frames := 0, cells := 0, slots := 0, locals := 0 }) (va_Pc [.int p0] (fun U => U.heap.size = sz)) (va_Qi (fun (r : Int32) (_ : Unit) => r = fX0_isGoing p0) (fun _ _ => True) (fun q : Nat => sz ≤ q)) 0 0 (fun q : Nat => sz ≤ q) := by
  refine Met.ofW (cc := cX0_isGoing) (maxL := 1) (ret := (some .boolean)) (by decide) rfl ?_
  intro p e s m args below meth c s₁ B hml hv
  obtain ⟨rfl, hsz⟩ := hv
  have hx := B.exec
  have hb := B.bytes
  have hr := B.returns
  have hts := atoms_spec (ws := wsX0_isGoing) B.pre
  have hown : s.vm.findClass RX0 = some m.cls := findClass_of_methodNamed B.named
  have hlocks := B.notSynchronized
  subst hsz
  have hS : va_S (fun q : Nat => s.heap.size ≤ q) s.heap s.heap [] := va_S.rf
  have hl := lv_entry ([.int p0]) (n := 1) (Nat.le_of_ble_eq_true rfl)
  rw [lg_entry_eq]
  generalize (lg_sl ([.int p0]) ++ List.replicate (1 - (lg_sl ([.int p0])).length) Slot.unset).toArray = ls at hl ⊢
  have hl : lv_has ls 1 [(0, .int p0)] := hl
  refine lv_iload_n hx hb dX0_isGoing_0 rfl (lv_at hl 0 rfl) ?_
  refine lv_bipush (v := 12) hx hb dX0_isGoing_1 (by decide) ?_
  refine lv_icmp_lt (tgt := 16) hx hb dX0_isGoing_3 (by decide) (fun c_1 => ?_) (fun c_1 => ?_)
  · -- taken
    refine lv_iconst (v := 0) hx hb dX0_isGoing_16 (by decide) ?_
    exact W.zret (v := (0 : Int32)) hx hb hr (nb_01 (Or.inl rfl)) (fun t ht hW => ⟨⟨(0 : Int32), (), rfl, by rw [fX0_isGoing, if_pos c_1], trivial⟩, hS.F ht⟩) hS.2.2 dX0_isGoing_17
  · -- not taken
    refine lv_iload_n hx hb dX0_isGoing_6 rfl (lv_at hl 0 rfl) ?_
    refine lv_bipush (v := 16) hx hb dX0_isGoing_7 (by decide) ?_
    refine lv_icmp_gt (tgt := 16) hx hb dX0_isGoing_9 (by decide) (fun c_2 => ?_) (fun c_2 => ?_)
    · -- taken
      refine lv_iconst (v := 0) hx hb dX0_isGoing_16 (by decide) ?_
      exact W.zret (v := (0 : Int32)) hx hb hr (nb_01 (Or.inl rfl)) (fun t ht hW => ⟨⟨(0 : Int32), (), rfl, by rw [fX0_isGoing, if_neg c_1, if_pos c_2], trivial⟩, hS.F ht⟩) hS.2.2 dX0_isGoing_17
    · -- not taken
      refine lv_iconst (v := 1) hx hb dX0_isGoing_12 (by decide) ?_
      refine lv_goto (tgt := 17) hx hb dX0_isGoing_13 (by decide) ?_
      exact W.zret (v := (1 : Int32)) hx hb hr (nb_01 (Or.inr rfl)) (fun t ht hW => ⟨⟨(1 : Int32), (), rfl, by rw [fX0_isGoing, if_neg c_1, if_neg c_2], trivial⟩, hS.F ht⟩) hS.2.2 dX0_isGoing_17
set_option maxHeartbeats 4000000 in
set_option maxRecDepth 100000 in
theorem mX0_distancePlace (l : Launch) (sz : Nat) (p0 : Int32) : Met l yX0_distancePlace wsX0_distancePlace ({ frames := 0, cells := 0, slots := 0, locals := 0 }) (va_Pc [.int p0] (fun U => U.heap.size = sz)) (va_Qi (fun (r : Int32) (_ : Unit) => r = fX0_distancePlace p0) (fun _ _ => True) (fun q : Nat => sz ≤ q)) 0 0 (fun q : Nat => sz ≤ q) := by
  refine Met.ofW (cc := cX0_distancePlace) (maxL := 1) (ret := (some .int)) (by decide) rfl ?_
  intro p e s m args below meth c s₁ B hml hv
  obtain ⟨rfl, hsz⟩ := hv
  have hx := B.exec
  have hb := B.bytes
  have hr := B.returns
  have hts := atoms_spec (ws := wsX0_distancePlace) B.pre
  have hown : s.vm.findClass RX0 = some m.cls := findClass_of_methodNamed B.named
  have hlocks := B.notSynchronized
  subst hsz
  have hS : va_S (fun q : Nat => s.heap.size ≤ q) s.heap s.heap [] := va_S.rf
  have hl := lv_entry ([.int p0]) (n := 1) (Nat.le_of_ble_eq_true rfl)
  rw [lg_entry_eq]
  generalize (lg_sl ([.int p0]) ++ List.replicate (1 - (lg_sl ([.int p0])).length) Slot.unset).toArray = ls at hl ⊢
  have hl : lv_has ls 1 [(0, .int p0)] := hl
  refine lv_iload_n hx hb dX0_distancePlace_0 rfl (lv_at hl 0 rfl) ?_
  refine lv_bipush (v := 12) hx hb dX0_distancePlace_1 (by decide) ?_
  refine lv_icmp_eq (tgt := 12) hx hb dX0_distancePlace_3 (by decide) (fun c_1 => ?_) (fun c_1 => ?_)
  · -- taken
    refine lv_iconst (v := 0) hx hb dX0_distancePlace_12 (by decide) ?_
    refine lv_goto (tgt := 17) hx hb dX0_distancePlace_13 (by decide) ?_
    exact W.iret (v := (0 : Int32)) hx hb hr (fun t ht hW => ⟨⟨(0 : Int32), (), rfl, by rw [fX0_distancePlace, if_pos c_1], trivial⟩, hS.F ht⟩) hS.2.2 dX0_distancePlace_17
  · -- not taken
    refine lv_iload_n hx hb dX0_distancePlace_6 rfl (lv_at hl 0 rfl) ?_
    refine lv_bipush (v := 13) hx hb dX0_distancePlace_7 (by decide) ?_
    refine lv_icmp_ne (tgt := 16) hx hb dX0_distancePlace_9 (by decide) (fun c_2 => ?_) (fun c_2 => ?_)
    · -- taken
      refine lv_iconst (v := 5) hx hb dX0_distancePlace_16 (by decide) ?_
      exact W.iret (v := (5 : Int32)) hx hb hr (fun t ht hW => ⟨⟨(5 : Int32), (), rfl, by rw [fX0_distancePlace, if_neg c_1, if_neg c_2], trivial⟩, hS.F ht⟩) hS.2.2 dX0_distancePlace_17
    · -- not taken
      refine lv_iconst (v := 0) hx hb dX0_distancePlace_12 (by decide) ?_
      refine lv_goto (tgt := 17) hx hb dX0_distancePlace_13 (by decide) ?_
      exact W.iret (v := (0 : Int32)) hx hb hr (fun t ht hW => ⟨⟨(0 : Int32), (), rfl, by rw [fX0_distancePlace, if_neg c_1, if_pos c_2], trivial⟩, hS.F ht⟩) hS.2.2 dX0_distancePlace_17
set_option maxHeartbeats 4000000 in
set_option maxRecDepth 100000 in
theorem mX0_distanceWidth (l : Launch) (sz : Nat) (p0 : Int32) : Met l yX0_distanceWidth wsX0_distanceWidth ({ frames := 0, cells := 0, slots := 0, locals := 0 }) (va_Pc [.int p0] (fun U => U.heap.size = sz)) (va_Qi (fun (r : Int32) (_ : Unit) => r = fX0_distanceWidth p0) (fun _ _ => True) (fun q : Nat => sz ≤ q)) 0 0 (fun q : Nat => sz ≤ q) := by
  refine Met.ofW (cc := cX0_distanceWidth) (maxL := 1) (ret := (some .int)) (by decide) rfl ?_
  intro p e s m args below meth c s₁ B hml hv
  obtain ⟨rfl, hsz⟩ := hv
  have hx := B.exec
  have hb := B.bytes
  have hr := B.returns
  have hts := atoms_spec (ws := wsX0_distanceWidth) B.pre
  have hown : s.vm.findClass RX0 = some m.cls := findClass_of_methodNamed B.named
  have hlocks := B.notSynchronized
  subst hsz
  have hS : va_S (fun q : Nat => s.heap.size ≤ q) s.heap s.heap [] := va_S.rf
  have hl := lv_entry ([.int p0]) (n := 1) (Nat.le_of_ble_eq_true rfl)
  rw [lg_entry_eq]
  generalize (lg_sl ([.int p0]) ++ List.replicate (1 - (lg_sl ([.int p0])).length) Slot.unset).toArray = ls at hl ⊢
  have hl : lv_has ls 1 [(0, .int p0)] := hl
  refine lv_iload_n hx hb dX0_distanceWidth_0 rfl (lv_at hl 0 rfl) ?_
  refine lv_bipush (v := 12) hx hb dX0_distanceWidth_1 (by decide) ?_
  refine lv_icmp_eq (tgt := 12) hx hb dX0_distanceWidth_3 (by decide) (fun c_1 => ?_) (fun c_1 => ?_)
  · -- taken
    refine lv_bipush (v := 26) hx hb dX0_distanceWidth_12 (by decide) ?_
    exact W.iret (v := (26 : Int32)) hx hb hr (fun t ht hW => ⟨⟨(26 : Int32), (), rfl, by rw [fX0_distanceWidth, if_pos c_1], trivial⟩, hS.F ht⟩) hS.2.2 dX0_distanceWidth_14
  · -- not taken
    refine lv_iload_n hx hb dX0_distanceWidth_6 rfl (lv_at hl 0 rfl) ?_
    refine lv_bipush (v := 13) hx hb dX0_distanceWidth_7 (by decide) ?_
    refine lv_icmp_ne (tgt := 15) hx hb dX0_distanceWidth_9 (by decide) (fun c_2 => ?_) (fun c_2 => ?_)
    · -- taken
      refine lv_iload_n hx hb dX0_distanceWidth_15 rfl (lv_at hl 0 rfl) ?_
      refine lv_bipush (v := 16) hx hb dX0_distanceWidth_16 (by decide) ?_
      refine lv_icmp_ne (tgt := 26) hx hb dX0_distanceWidth_18 (by decide) (fun c_3 => ?_) (fun c_3 => ?_)
      · -- taken
        refine lv_bipush (v := 19) hx hb dX0_distanceWidth_26 (by decide) ?_
        exact W.iret (v := (19 : Int32)) hx hb hr (fun t ht hW => ⟨⟨(19 : Int32), (), rfl, by rw [fX0_distanceWidth, if_neg c_1, if_neg c_2, if_neg c_3], trivial⟩, hS.F ht⟩) hS.2.2 dX0_distanceWidth_28
      · -- not taken
        refine lv_bipush (v := 14) hx hb dX0_distanceWidth_21 (by decide) ?_
        refine lv_goto (tgt := 28) hx hb dX0_distanceWidth_23 (by decide) ?_
        exact W.iret (v := (14 : Int32)) hx hb hr (fun t ht hW => ⟨⟨(14 : Int32), (), rfl, by rw [fX0_distanceWidth, if_neg c_1, if_neg c_2, if_pos c_3], trivial⟩, hS.F ht⟩) hS.2.2 dX0_distanceWidth_28
    · -- not taken
      refine lv_bipush (v := 26) hx hb dX0_distanceWidth_12 (by decide) ?_
      exact W.iret (v := (26 : Int32)) hx hb hr (fun t ht hW => ⟨⟨(26 : Int32), (), rfl, by rw [fX0_distanceWidth, if_neg c_1, if_pos c_2], trivial⟩, hS.F ht⟩) hS.2.2 dX0_distanceWidth_14
set_option maxHeartbeats 4000000 in
set_option maxRecDepth 100000 in
theorem mX0_signedBits (l : Launch) (sz : Nat) (p0 : Int32) (p1 : Int32) (p2 : Int32) : Met l yX0_signedBits wsX0_signedBits ({ frames := 0, cells := 0, slots := 0, locals := 0 }) (va_Pc [.int p0, .int p1, .int p2] (fun U => U.heap.size = sz)) (va_Qi (fun (r : Int32) (_ : Unit) => r = fX0_signedBits p0 p1 p2) (fun _ _ => True) (fun q : Nat => sz ≤ q)) 0 0 (fun q : Nat => sz ≤ q) := by
  refine Met.ofW (cc := cX0_signedBits) (maxL := 3) (ret := (some .int)) (by decide) rfl ?_
  intro p e s m args below meth c s₁ B hml hv
  obtain ⟨rfl, hsz⟩ := hv
  have hx := B.exec
  have hb := B.bytes
  have hr := B.returns
  have hts := atoms_spec (ws := wsX0_signedBits) B.pre
  have hown : s.vm.findClass RX0 = some m.cls := findClass_of_methodNamed B.named
  have hlocks := B.notSynchronized
  subst hsz
  have hS : va_S (fun q : Nat => s.heap.size ≤ q) s.heap s.heap [] := va_S.rf
  have hl := lv_entry ([.int p0, .int p1, .int p2]) (n := 3) (Nat.le_of_ble_eq_true rfl)
  rw [lg_entry_eq]
  generalize (lg_sl ([.int p0, .int p1, .int p2]) ++ List.replicate (3 - (lg_sl ([.int p0, .int p1, .int p2])).length) Slot.unset).toArray = ls at hl ⊢
  have hl : lv_has ls 3 [(0, .int p0), (1, .int p1), (2, .int p2)] := hl
  refine lv_iload_n hx hb dX0_signedBits_0 rfl (lv_at hl 0 rfl) ?_
  refine lv_bipush (v := 32) hx hb dX0_signedBits_1 (by decide) ?_
  refine lv_iload_n hx hb dX0_signedBits_3 rfl (lv_at hl 1 rfl) ?_
  refine lv_isub hx hb dX0_signedBits_4 ?_
  refine lv_iload_n hx hb dX0_signedBits_5 rfl (lv_at hl 2 rfl) ?_
  refine lv_isub hx hb dX0_signedBits_6 ?_
  refine lv_ishl hx hb dX0_signedBits_7 ?_
  refine lv_bipush (v := 32) hx hb dX0_signedBits_8 (by decide) ?_
  refine lv_iload_n hx hb dX0_signedBits_10 rfl (lv_at hl 2 rfl) ?_
  refine lv_isub hx hb dX0_signedBits_11 ?_
  refine lv_ishr hx hb dX0_signedBits_12 ?_
  exact W.iret (v := ((p0 <<< ((((32 : Int32) - p1) - p2) &&& 31)) >>> (((32 : Int32) - p2) &&& 31))) hx hb hr (fun t ht hW => ⟨⟨((p0 <<< ((((32 : Int32) - p1) - p2) &&& 31)) >>> (((32 : Int32) - p2) &&& 31)), (), rfl, by rw [fX0_signedBits], trivial⟩, hS.F ht⟩) hS.2.2 dX0_signedBits_13
set_option maxHeartbeats 4000000 in
set_option maxRecDepth 100000 in
theorem mX0_by (l : Launch) (sz : Nat) (h0 t0 : Nat) (p0 : Int32) : Met l yX0_by wsX0_by ({ frames := 5, cells := 0, slots := 0, locals := 111 }) (va_Pc [.ref h0, .int p0] (fun U => U.heap.size = sz ∧ wv_rcv RX0 h0 U ∧ wv_tt t0 U)) (va_Qi (fun (r : Int32) (_ : Unit) => r = fX0_by p0) (fun _ _ => True) (fun q : Nat => sz ≤ q)) 0 0 (fun q : Nat => sz ≤ q) := by
  refine Met.ofW (cc := cX0_by) (maxL := 3) (ret := (some .int)) (by decide) rfl ?_
  intro p e s m args below meth c s₁ B hml hv
  obtain ⟨rfl, hsz, hww⟩ := hv
  have hx := B.exec
  have hb := B.bytes
  have hr := B.returns
  have hts := atoms_spec (ws := wsX0_by) B.pre
  have hown : s.vm.findClass RX0 = some m.cls := findClass_of_methodNamed B.named
  have hlocks := B.notSynchronized
  subst hsz
  have hS : va_S (fun q : Nat => s.heap.size ≤ q) s.heap s.heap [] := va_S.rf
  have hl := lv_entry ([.ref h0, .int p0]) (n := 3) (Nat.le_of_ble_eq_true rfl)
  rw [lg_entry_eq]
  generalize (lg_sl ([.ref h0, .int p0]) ++ List.replicate (3 - (lg_sl ([.ref h0, .int p0])).length) Slot.unset).toArray = ls at hl ⊢
  have hl : lv_has ls 3 [(0, .ref h0), (1, .int p0)] := hl
  refine lv_aload_n hx hb dX0_by_0 rfl (lv_at hl 0 rfl) ?_
  refine lv_iload_n hx hb dX0_by_1 rfl (lv_at hl 1 rfl) ?_
  refine va_calli (va_runV (As := [.int p0]) (rest := []) ⟨hx, hb, hml, hown, hts⟩ (mX0_kind l s.heap.size h0 t0 p0) (cwV 1 hts gX0_by_X0_kind rfl rfl rfl (by decide +kernel) ⟨Nat.le_of_ble_eq_true rfl, Nat.le_of_ble_eq_true rfl⟩) ⟨fb_ww, hww.1.at hS, fun U hU hW => ⟨rfl, congrArg Array.size hU, hww.1.go hS hU hW.alike, hww.2.go hS hU hW.alike⟩⟩ rfl rfl hl.1 rfl (lv_room (Nat.le_of_ble_eq_true rfl)) dX0_by_2 ⟨Nat.zero_le _, Nat.zero_le _⟩) hS (fun q _ h => Nat.le_trans hS.1 h) (fun q h => Nat.le_trans hS.1 h) (fun r_1 _ _ H_1 _ _ _ hw _ _ _ hS => ?_)
  subst hw
  refine lv_istore_n (lv' := [(2, .int (fX0_kind p0)), (0, .ref h0), (1, .int p0)]) hx hb dX0_by_5 rfl hl (by decide) rfl (fun ls hl => ?_)
  refine lv_iload_n hx hb dX0_by_6 rfl (lv_at hl 0 rfl) ?_
  refine va_calli (va_runS (As := [.int (fX0_kind p0)]) (rest := []) ⟨hx, hb, hml, hown, hts⟩ (mX0_isGoing l H_1.size (fX0_kind p0)) (va_cwS 1 hts gX0_by_X0_isGoing rfl rfl rfl (by decide +kernel) ⟨Nat.le_of_ble_eq_true rfl, Nat.le_of_ble_eq_true rfl⟩) ⟨fb_pure, fun U hU hW => ⟨rfl, congrArg Array.size hU⟩⟩ rfl rfl hl.1 rfl (lv_room (Nat.le_of_ble_eq_true rfl)) dX0_by_7 ⟨Nat.zero_le _, Nat.zero_le _⟩) hS (fun q _ h => Nat.le_trans hS.1 h) (fun q h => Nat.le_trans hS.1 h) (fun r_2 _ _ H_2 _ _ _ hw _ _ _ hS => ?_)
  subst hw
  refine lv_if_ne (tgt := 15) hx hb dX0_by_10 (by decide) (fun c_3 => ?_) (fun c_3 => ?_)
  · -- taken
    refine lv_iload_n hx hb dX0_by_15 rfl (lv_at hl 2 rfl) ?_
    refine lv_iload_n hx hb dX0_by_16 rfl (lv_at hl 0 rfl) ?_
    refine va_calli (va_runS (As := [.int (fX0_kind p0)]) (rest := [.int p0]) ⟨hx, hb, hml, hown, hts⟩ (mX0_distancePlace l H_2.size (fX0_kind p0)) (va_cwS 1 hts gX0_by_X0_distancePlace rfl rfl rfl (by decide +kernel) ⟨Nat.le_of_ble_eq_true rfl, Nat.le_of_ble_eq_true rfl⟩) ⟨fb_pure, fun U hU hW => ⟨rfl, congrArg Array.size hU⟩⟩ rfl rfl hl.1 rfl (lv_room (Nat.le_of_ble_eq_true rfl)) dX0_by_17 ⟨Nat.zero_le _, Nat.zero_le _⟩) hS (fun q _ h => Nat.le_trans hS.1 h) (fun q h => Nat.le_trans hS.1 h) (fun r_4 _ _ H_4 _ _ _ hw _ _ _ hS => ?_)
    subst hw
    refine lv_iload_n hx hb dX0_by_20 rfl (lv_at hl 0 rfl) ?_
    refine va_calli (va_runS (As := [.int (fX0_kind p0)]) (rest := [.int (fX0_distancePlace (fX0_kind p0)), .int p0]) ⟨hx, hb, hml, hown, hts⟩ (mX0_distanceWidth l H_4.size (fX0_kind p0)) (va_cwS 1 hts gX0_by_X0_distanceWidth rfl rfl rfl (by decide +kernel) ⟨Nat.le_of_ble_eq_true rfl, Nat.le_of_ble_eq_true rfl⟩) ⟨fb_pure, fun U hU hW => ⟨rfl, congrArg Array.size hU⟩⟩ rfl rfl hl.1 rfl (lv_room (Nat.le_of_ble_eq_true rfl)) dX0_by_21 ⟨Nat.zero_le _, Nat.zero_le _⟩) hS (fun q _ h => Nat.le_trans hS.1 h) (fun q h => Nat.le_trans hS.1 h) (fun r_5 _ _ H_5 _ _ _ hw _ _ _ hS => ?_)
    subst hw
    refine va_calli (va_runS (As := [.int p0, .int (fX0_distancePlace (fX0_kind p0)), .int (fX0_distanceWidth (fX0_kind p0))]) (rest := []) ⟨hx, hb, hml, hown, hts⟩ (mX0_signedBits l H_5.size p0 (fX0_distancePlace (fX0_kind p0)) (fX0_distanceWidth (fX0_kind p0))) (va_cwS 3 hts gX0_by_X0_signedBits rfl rfl rfl (by decide +kernel) ⟨Nat.le_of_ble_eq_true rfl, Nat.le_of_ble_eq_true rfl⟩) ⟨fb_pure, fun U hU hW => ⟨rfl, congrArg Array.size hU⟩⟩ rfl rfl hl.1 rfl (lv_room (Nat.le_of_ble_eq_true rfl)) dX0_by_24 ⟨Nat.zero_le _, Nat.zero_le _⟩) hS (fun q _ h => Nat.le_trans hS.1 h) (fun q h => Nat.le_trans hS.1 h) (fun r_6 _ _ H_6 _ _ _ hw _ _ _ hS => ?_)
    subst hw
    refine lv_iconst (v := 4) hx hb dX0_by_27 (by decide) ?_
    refine lv_imul hx hb dX0_by_28 ?_
    exact W.iret (v := ((fX0_signedBits p0 (fX0_distancePlace (fX0_kind p0)) (fX0_distanceWidth (fX0_kind p0))) * (4 : Int32))) hx hb hr (fun t ht hW => ⟨⟨((fX0_signedBits p0 (fX0_distancePlace (fX0_kind p0)) (fX0_distanceWidth (fX0_kind p0))) * (4 : Int32)), (), rfl, by rw [fX0_by, if_neg c_3], trivial⟩, hS.F ht⟩) hS.2.2 dX0_by_29
  · -- not taken
    refine lv_iconst (v := 1) hx hb dX0_by_13 (by decide) ?_
    exact W.iret (v := (1 : Int32)) hx hb hr (fun t ht hW => ⟨⟨(1 : Int32), (), rfl, by rw [fX0_by, if_pos c_3], trivial⟩, hS.F ht⟩) hS.2.2 dX0_by_14
set_option maxHeartbeats 4000000 in
set_option maxRecDepth 100000 in
theorem mX0_isWithinReach (l : Launch) (sz : Nat) (p0 : Int32) (p1 : Int64) : Met l yX0_isWithinReach wsX0_isWithinReach ({ frames := 1, cells := 0, slots := 0, locals := 20 }) (va_Pc [.int p0, .long p1] (fun U => U.heap.size = sz)) (va_Qi (fun (r : Int32) (_ : Unit) => r = fX0_isWithinReach p0 p1) (fun _ _ => True) (fun q : Nat => sz ≤ q)) 0 0 (fun q : Nat => sz ≤ q) := by
  refine Met.ofW (cc := cX0_isWithinReach) (maxL := 5) (ret := (some .boolean)) (by decide) rfl ?_
  intro p e s m args below meth c s₁ B hml hv
  obtain ⟨rfl, hsz⟩ := hv
  have hx := B.exec
  have hb := B.bytes
  have hr := B.returns
  have hts := atoms_spec (ws := wsX0_isWithinReach) B.pre
  have hown : s.vm.findClass RX0 = some m.cls := findClass_of_methodNamed B.named
  have hlocks := B.notSynchronized
  subst hsz
  have hS : va_S (fun q : Nat => s.heap.size ≤ q) s.heap s.heap [] := va_S.rf
  have hl := lv_entry ([.int p0, .long p1]) (n := 5) (Nat.le_of_ble_eq_true rfl)
  rw [lg_entry_eq]
  generalize (lg_sl ([.int p0, .long p1]) ++ List.replicate (5 - (lg_sl ([.int p0, .long p1])).length) Slot.unset).toArray = ls at hl ⊢
  have hl : lv_has ls 5 [(0, .int p0), (1, .long p1)] := hl
  refine lv_iload_n hx hb dX0_isWithinReach_0 rfl (lv_at hl 0 rfl) ?_
  refine va_calli (va_runS (As := [.int p0]) (rest := []) ⟨hx, hb, hml, hown, hts⟩ (mX0_isGoing l s.heap.size p0) (va_cwS 1 hts gX0_isWithinReach_X0_isGoing rfl rfl rfl (by decide +kernel) ⟨Nat.le_of_ble_eq_true rfl, Nat.le_of_ble_eq_true rfl⟩) ⟨fb_pure, fun U hU hW => ⟨rfl, congrArg Array.size hU⟩⟩ rfl rfl hl.1 rfl (lv_room (Nat.le_of_ble_eq_true rfl)) dX0_isWithinReach_1 ⟨Nat.zero_le _, Nat.zero_le _⟩) hS (fun q _ h => Nat.le_trans hS.1 h) (fun q h => Nat.le_trans hS.1 h) (fun r_1 _ _ H_1 _ _ _ hw _ _ _ hS => ?_)
  subst hw
  refine lv_if_eq (tgt := 17) hx hb dX0_isWithinReach_4 (by decide) (fun c_2 => ?_) (fun c_2 => ?_)
  · -- taken
    refine lv_iconst (v := 0) hx hb dX0_isWithinReach_17 (by decide) ?_
    exact W.zret (v := (0 : Int32)) hx hb hr (nb_01 (Or.inl rfl)) (fun t ht hW => ⟨⟨(0 : Int32), (), rfl, by rw [fX0_isWithinReach, if_pos c_2], trivial⟩, hS.F ht⟩) hS.2.2 dX0_isWithinReach_18
  · -- not taken
    refine lv_lload_n hx hb dX0_isWithinReach_7 rfl (lv_at hl 1 rfl) ?_
    refine lv_ldc2 hx hb hown (hts (.constantLong RX0 88 (3)) (by decide +kernel)) dX0_isWithinReach_8 ?_
    refine lv_land hx hb dX0_isWithinReach_11 ?_
    refine lv_lconst (v := 0) hx hb dX0_isWithinReach_12 (by decide) ?_
    refine W.lcmp hx hb dX0_isWithinReach_13 ?_
    refine lv_if_eq (tgt := 19) hx hb dX0_isWithinReach_14 (by decide) (fun c_3 => ?_) (fun c_3 => ?_)
    · -- taken
      refine lv_lconst (v := 1) hx hb dX0_isWithinReach_19 (by decide) ?_
      refine lv_iload_n hx hb dX0_isWithinReach_20 rfl (lv_at hl 0 rfl) ?_
      refine va_calli (va_runS (As := [.int p0]) (rest := [.long (1 : Int64)]) ⟨hx, hb, hml, hown, hts⟩ (mX0_distanceWidth l H_1.size p0) (va_cwS 1 hts gX0_isWithinReach_X0_distanceWidth rfl rfl rfl (by decide +kernel) ⟨Nat.le_of_ble_eq_true rfl, Nat.le_of_ble_eq_true rfl⟩) ⟨fb_pure, fun U hU hW => ⟨rfl, congrArg Array.size hU⟩⟩ rfl rfl hl.1 rfl (lv_room (Nat.le_of_ble_eq_true rfl)) dX0_isWithinReach_21 ⟨Nat.zero_le _, Nat.zero_le _⟩) hS (fun q _ h => Nat.le_trans hS.1 h) (fun q h => Nat.le_trans hS.1 h) (fun r_4 _ _ H_4 _ _ _ hw _ _ _ hS => ?_)
      subst hw
      refine lv_iconst (v := 1) hx hb dX0_isWithinReach_24 (by decide) ?_
      refine lv_iadd hx hb dX0_isWithinReach_25 ?_
      refine lv_lshl hx hb dX0_isWithinReach_26 rfl ?_
      refine lv_lstore_n (lv' := [(3, .long ((1 : Int64) <<< ((((fX0_distanceWidth p0) + (1 : Int32))).toInt64 &&& 63))), (0, .int p0), (1, .long p1)]) hx hb dX0_isWithinReach_27 rfl hl (by decide) rfl (fun ls hl => ?_)
      refine lv_lload_n hx hb dX0_isWithinReach_28 rfl (lv_at hl 2 rfl) ?_
      refine lv_lload_n hx hb dX0_isWithinReach_29 rfl (lv_at hl 0 rfl) ?_
      refine lv_lneg hx hb dX0_isWithinReach_30 ?_
      refine W.lcmp hx hb dX0_isWithinReach_31 ?_
      refine lv_if_lt (tgt := 45) hx hb dX0_isWithinReach_32 (by decide) (fun c_5 => ?_) (fun c_5 => ?_)
      · -- taken
        refine lv_iconst (v := 0) hx hb dX0_isWithinReach_45 (by decide) ?_
        exact W.zret (v := (0 : Int32)) hx hb hr (nb_01 (Or.inl rfl)) (fun t ht hW => ⟨⟨(0 : Int32), (), rfl, by rw [fX0_isWithinReach, if_neg c_2, if_pos c_3, if_pos c_5], trivial⟩, hS.F ht⟩) hS.2.2 dX0_isWithinReach_46
      · -- not taken
        refine lv_lload_n hx hb dX0_isWithinReach_35 rfl (lv_at hl 2 rfl) ?_
        refine lv_lload_n hx hb dX0_isWithinReach_36 rfl (lv_at hl 0 rfl) ?_
        refine W.lcmp hx hb dX0_isWithinReach_37 ?_
        refine lv_if_ge (tgt := 45) hx hb dX0_isWithinReach_38 (by decide) (fun c_6 => ?_) (fun c_6 => ?_)
        · -- taken
          refine lv_iconst (v := 0) hx hb dX0_isWithinReach_45 (by decide) ?_
          exact W.zret (v := (0 : Int32)) hx hb hr (nb_01 (Or.inl rfl)) (fun t ht hW => ⟨⟨(0 : Int32), (), rfl, by rw [fX0_isWithinReach, if_neg c_2, if_pos c_3, if_neg c_5, if_pos c_6], trivial⟩, hS.F ht⟩) hS.2.2 dX0_isWithinReach_46
        · -- not taken
          refine lv_iconst (v := 1) hx hb dX0_isWithinReach_41 (by decide) ?_
          refine lv_goto (tgt := 46) hx hb dX0_isWithinReach_42 (by decide) ?_
          exact W.zret (v := (1 : Int32)) hx hb hr (nb_01 (Or.inr rfl)) (fun t ht hW => ⟨⟨(1 : Int32), (), rfl, by rw [fX0_isWithinReach, if_neg c_2, if_pos c_3, if_neg c_5, if_neg c_6], trivial⟩, hS.F ht⟩) hS.2.2 dX0_isWithinReach_46
    · -- not taken
      refine lv_iconst (v := 0) hx hb dX0_isWithinReach_17 (by decide) ?_
      exact W.zret (v := (0 : Int32)) hx hb hr (nb_01 (Or.inl rfl)) (fun t ht hW => ⟨⟨(0 : Int32), (), rfl, by rw [fX0_isWithinReach, if_neg c_2, if_neg c_3], trivial⟩, hS.F ht⟩) hS.2.2 dX0_isWithinReach_18
set_option maxHeartbeats 4000000 in
set_option maxRecDepth 100000 in
theorem mX0_going (l : Launch) (sz : Nat) (h0 t0 : Nat) (p0 : Int32) (p1 : Int32) : Met l yX0_going wsX0_going ({ frames := 5, cells := 0, slots := 0, locals := 111 }) (va_Pc [.ref h0, .int p0, .int p1] (fun U => U.heap.size = sz ∧ wv_rcv RX0 h0 U ∧ wv_tt t0 U)) (va_Qi (fun (r : Int32) (_ : Unit) => r = fX0_going p0 p1) (fun _ _ => True) (fun q : Nat => sz ≤ q)) 0 0 (fun q : Nat => sz ≤ q) := by
  refine Met.ofW (cc := cX0_going) (maxL := 6) (ret := (some .int)) (by decide) rfl ?_
  intro p e s m args below meth c s₁ B hml hv
  obtain ⟨rfl, hsz, hww⟩ := hv
  have hx := B.exec
  have hb := B.bytes
  have hr := B.returns
  have hts := atoms_spec (ws := wsX0_going) B.pre
  have hown : s.vm.findClass RX0 = some m.cls := findClass_of_methodNamed B.named
  have hlocks := B.notSynchronized
  subst hsz
  have hS : va_S (fun q : Nat => s.heap.size ≤ q) s.heap s.heap [] := va_S.rf
  have hl := lv_entry ([.ref h0, .int p0, .int p1]) (n := 6) (Nat.le_of_ble_eq_true rfl)
  rw [lg_entry_eq]
  generalize (lg_sl ([.ref h0, .int p0, .int p1]) ++ List.replicate (6 - (lg_sl ([.ref h0, .int p0, .int p1])).length) Slot.unset).toArray = ls at hl ⊢
  have hl : lv_has ls 6 [(0, .ref h0), (1, .int p0), (2, .int p1)] := hl
  refine lv_aload_n hx hb dX0_going_0 rfl (lv_at hl 0 rfl) ?_
  refine lv_iload_n hx hb dX0_going_1 rfl (lv_at hl 1 rfl) ?_
  refine va_calli (va_runV (As := [.int p0]) (rest := []) ⟨hx, hb, hml, hown, hts⟩ (mX0_kind l s.heap.size h0 t0 p0) (cwV 1 hts gX0_going_X0_kind rfl rfl rfl (by decide +kernel) ⟨Nat.le_of_ble_eq_true rfl, Nat.le_of_ble_eq_true rfl⟩) ⟨fb_ww, hww.1.at hS, fun U hU hW => ⟨rfl, congrArg Array.size hU, hww.1.go hS hU hW.alike, hww.2.go hS hU hW.alike⟩⟩ rfl rfl hl.1 rfl (lv_room (Nat.le_of_ble_eq_true rfl)) dX0_going_2 ⟨Nat.zero_le _, Nat.zero_le _⟩) hS (fun q _ h => Nat.le_trans hS.1 h) (fun q h => Nat.le_trans hS.1 h) (fun r_1 _ _ H_1 _ _ _ hw _ _ _ hS => ?_)
  subst hw
  refine lv_istore_n (lv' := [(3, .int (fX0_kind p0)), (0, .ref h0), (1, .int p0), (2, .int p1)]) hx hb dX0_going_5 rfl hl (by decide) rfl (fun ls hl => ?_)
  refine lv_iload_n hx hb dX0_going_6 rfl (lv_at hl 0 rfl) ?_
  refine lv_iload_n hx hb dX0_going_7 rfl (lv_at hl 3 rfl) ?_
  refine lv_i2l hx hb dX0_going_8 rfl ?_
  refine va_calli (va_runS (As := [.int (fX0_kind p0), .long ((p1).toInt64)]) (rest := []) ⟨hx, hb, hml, hown, hts⟩ (mX0_isWithinReach l H_1.size (fX0_kind p0) ((p1).toInt64)) (va_cwS 2 hts gX0_going_X0_isWithinReach rfl rfl rfl (by decide +kernel) ⟨Nat.le_of_ble_eq_true rfl, Nat.le_of_ble_eq_true rfl⟩) ⟨fb_pure, fun U hU hW => ⟨rfl, congrArg Array.size hU⟩⟩ rfl rfl hl.1 rfl (lv_room (Nat.le_of_ble_eq_true rfl)) dX0_going_9 ⟨Nat.zero_le _, Nat.zero_le _⟩) hS (fun q _ h => Nat.le_trans hS.1 h) (fun q h => Nat.le_trans hS.1 h) (fun r_2 _ _ H_2 _ _ _ hw _ _ _ hS => ?_)
  subst hw
  refine lv_if_ne (tgt := 17) hx hb dX0_going_12 (by decide) (fun c_3 => ?_) (fun c_3 => ?_)
  · -- taken
    refine lv_iload_n hx hb dX0_going_17 rfl (lv_at hl 0 rfl) ?_
    refine va_calli (va_runS (As := [.int (fX0_kind p0)]) (rest := []) ⟨hx, hb, hml, hown, hts⟩ (mX0_distancePlace l H_2.size (fX0_kind p0)) (va_cwS 1 hts gX0_going_X0_distancePlace rfl rfl rfl (by decide +kernel) ⟨Nat.le_of_ble_eq_true rfl, Nat.le_of_ble_eq_true rfl⟩) ⟨fb_pure, fun U hU hW => ⟨rfl, congrArg Array.size hU⟩⟩ rfl rfl hl.1 rfl (lv_room (Nat.le_of_ble_eq_true rfl)) dX0_going_18 ⟨Nat.zero_le _, Nat.zero_le _⟩) hS (fun q _ h => Nat.le_trans hS.1 h) (fun q h => Nat.le_trans hS.1 h) (fun r_4 _ _ H_4 _ _ _ hw _ _ _ hS => ?_)
    subst hw
    refine lv_istore (lv' := [(4, .int (fX0_distancePlace (fX0_kind p0))), (3, .int (fX0_kind p0)), (0, .ref h0), (1, .int p0), (2, .int p1)]) hx hb dX0_going_21 hl (by decide) rfl (fun ls hl => ?_)
    refine lv_iload_n hx hb dX0_going_23 rfl (lv_at hl 1 rfl) ?_
    refine va_calli (va_runS (As := [.int (fX0_kind p0)]) (rest := []) ⟨hx, hb, hml, hown, hts⟩ (mX0_distanceWidth l H_4.size (fX0_kind p0)) (va_cwS 1 hts gX0_going_X0_distanceWidth rfl rfl rfl (by decide +kernel) ⟨Nat.le_of_ble_eq_true rfl, Nat.le_of_ble_eq_true rfl⟩) ⟨fb_pure, fun U hU hW => ⟨rfl, congrArg Array.size hU⟩⟩ rfl rfl hl.1 rfl (lv_room (Nat.le_of_ble_eq_true rfl)) dX0_going_24 ⟨Nat.zero_le _, Nat.zero_le _⟩) hS (fun q _ h => Nat.le_trans hS.1 h) (fun q h => Nat.le_trans hS.1 h) (fun r_5 _ _ H_5 _ _ _ hw _ _ _ hS => ?_)
    subst hw
    refine va_calli (va_runS (As := [.int (fX0_distanceWidth (fX0_kind p0))]) (rest := []) ⟨hx, hb, hml, hown, hts⟩ (mX0_lowBits l H_5.size (fX0_distanceWidth (fX0_kind p0))) (va_cwS 1 hts gX0_going_X0_lowBits rfl rfl rfl (by decide +kernel) ⟨Nat.le_of_ble_eq_true rfl, Nat.le_of_ble_eq_true rfl⟩) ⟨fb_pure, fun U hU hW => ⟨rfl, congrArg Array.size hU⟩⟩ rfl rfl hl.1 rfl (lv_room (Nat.le_of_ble_eq_true rfl)) dX0_going_27 ⟨Nat.zero_le _, Nat.zero_le _⟩) hS (fun q _ h => Nat.le_trans hS.1 h) (fun q h => Nat.le_trans hS.1 h) (fun r_6 _ _ H_6 _ _ _ hw _ _ _ hS => ?_)
    subst hw
    refine lv_iload hx hb dX0_going_30 (lv_at hl 0 rfl) ?_
    refine lv_ishl hx hb dX0_going_32 ?_
    refine lv_istore (lv' := [(5, .int ((fX0_lowBits (fX0_distanceWidth (fX0_kind p0))) <<< ((fX0_distancePlace (fX0_kind p0)) &&& 31))), (4, .int (fX0_distancePlace (fX0_kind p0))), (3, .int (fX0_kind p0)), (0, .ref h0), (1, .int p0), (2, .int p1)]) hx hb dX0_going_33 hl (by decide) rfl (fun ls hl => ?_)
    refine lv_iload_n hx hb dX0_going_35 rfl (lv_at hl 4 rfl) ?_
    refine lv_iload hx hb dX0_going_36 (lv_at hl 0 rfl) ?_
    refine lv_iconst (v := -1) hx hb dX0_going_38 (by decide) ?_
    refine lv_ixor hx hb dX0_going_39 ?_
    refine lv_iand hx hb dX0_going_40 ?_
    refine lv_iload_n hx hb dX0_going_41 rfl (lv_at hl 5 rfl) ?_
    refine lv_iconst (v := 2) hx hb dX0_going_42 (by decide) ?_
    refine lv_ishr hx hb dX0_going_43 ?_
    refine lv_iload hx hb dX0_going_44 (lv_at hl 1 rfl) ?_
    refine lv_ishl hx hb dX0_going_46 ?_
    refine lv_iload hx hb dX0_going_47 (lv_at hl 0 rfl) ?_
    refine lv_iand hx hb dX0_going_49 ?_
    refine lv_ior hx hb dX0_going_50 ?_
    exact W.iret (v := ((p0 &&& (((fX0_lowBits (fX0_distanceWidth (fX0_kind p0))) <<< ((fX0_distancePlace (fX0_kind p0)) &&& 31)) ^^^ (-1 : Int32))) ||| (((p1 >>> ((2 : Int32) &&& 31)) <<< ((fX0_distancePlace (fX0_kind p0)) &&& 31)) &&& ((fX0_lowBits (fX0_distanceWidth (fX0_kind p0))) <<< ((fX0_distancePlace (fX0_kind p0)) &&& 31))))) hx hb hr (fun t ht hW => ⟨⟨((p0 &&& (((fX0_lowBits (fX0_distanceWidth (fX0_kind p0))) <<< ((fX0_distancePlace (fX0_kind p0)) &&& 31)) ^^^ (-1 : Int32))) ||| (((p1 >>> ((2 : Int32) &&& 31)) <<< ((fX0_distancePlace (fX0_kind p0)) &&& 31)) &&& ((fX0_lowBits (fX0_distanceWidth (fX0_kind p0))) <<< ((fX0_distancePlace (fX0_kind p0)) &&& 31)))), (), rfl, by rw [fX0_going, if_neg c_3], trivial⟩, hS.F ht⟩) hS.2.2 dX0_going_51
  · -- not taken
    refine lv_iload_n hx hb dX0_going_15 rfl (lv_at hl 2 rfl) ?_
    exact W.iret (v := p0) hx hb hr (fun t ht hW => ⟨⟨p0, (), rfl, by rw [fX0_going, if_pos c_3], trivial⟩, hS.F ht⟩) hS.2.2 dX0_going_16
set_option maxHeartbeats 4000000 in
set_option maxRecDepth 100000 in
theorem mX0_reaches (l : Launch) (sz : Nat) (h0 t0 : Nat) (p0 : Int32) (p1 : Int64) : Met l yX0_reaches wsX0_reaches ({ frames := 5, cells := 0, slots := 0, locals := 111 }) (va_Pc [.ref h0, .int p0, .long p1] (fun U => U.heap.size = sz ∧ wv_rcv RX0 h0 U ∧ wv_tt t0 U)) (va_Qi (fun (r : Int32) (_ : Unit) => r = fX0_reaches p0 p1) (fun _ _ => True) (fun q : Nat => sz ≤ q)) 0 0 (fun q : Nat => sz ≤ q) := by
  refine Met.ofW (cc := cX0_reaches) (maxL := 4) (ret := (some .boolean)) (by decide) rfl ?_
  intro p e s m args below meth c s₁ B hml hv
  obtain ⟨rfl, hsz, hww⟩ := hv
  have hx := B.exec
  have hb := B.bytes
  have hr := B.returns
  have hts := atoms_spec (ws := wsX0_reaches) B.pre
  have hown : s.vm.findClass RX0 = some m.cls := findClass_of_methodNamed B.named
  have hlocks := B.notSynchronized
  subst hsz
  have hS : va_S (fun q : Nat => s.heap.size ≤ q) s.heap s.heap [] := va_S.rf
  have hl := lv_entry ([.ref h0, .int p0, .long p1]) (n := 4) (Nat.le_of_ble_eq_true rfl)
  rw [lg_entry_eq]
  generalize (lg_sl ([.ref h0, .int p0, .long p1]) ++ List.replicate (4 - (lg_sl ([.ref h0, .int p0, .long p1])).length) Slot.unset).toArray = ls at hl ⊢
  have hl : lv_has ls 4 [(0, .ref h0), (1, .int p0), (2, .long p1)] := hl
  refine lv_aload_n hx hb dX0_reaches_0 rfl (lv_at hl 0 rfl) ?_
  refine lv_iload_n hx hb dX0_reaches_1 rfl (lv_at hl 1 rfl) ?_
  refine va_calli (va_runV (As := [.int p0]) (rest := []) ⟨hx, hb, hml, hown, hts⟩ (mX0_kind l s.heap.size h0 t0 p0) (cwV 1 hts gX0_reaches_X0_kind rfl rfl rfl (by decide +kernel) ⟨Nat.le_of_ble_eq_true rfl, Nat.le_of_ble_eq_true rfl⟩) ⟨fb_ww, hww.1.at hS, fun U hU hW => ⟨rfl, congrArg Array.size hU, hww.1.go hS hU hW.alike, hww.2.go hS hU hW.alike⟩⟩ rfl rfl hl.1 rfl (lv_room (Nat.le_of_ble_eq_true rfl)) dX0_reaches_2 ⟨Nat.zero_le _, Nat.zero_le _⟩) hS (fun q _ h => Nat.le_trans hS.1 h) (fun q h => Nat.le_trans hS.1 h) (fun r_1 _ _ H_1 _ _ _ hw _ _ _ hS => ?_)
  subst hw
  refine lv_lload_n hx hb dX0_reaches_5 rfl (lv_at hl 2 rfl) ?_
  refine va_calli (va_runS (As := [.int (fX0_kind p0), .long p1]) (rest := []) ⟨hx, hb, hml, hown, hts⟩ (mX0_isWithinReach l H_1.size (fX0_kind p0) p1) (va_cwS 2 hts gX0_reaches_X0_isWithinReach rfl rfl rfl (by decide +kernel) ⟨Nat.le_of_ble_eq_true rfl, Nat.le_of_ble_eq_true rfl⟩) ⟨fb_pure, fun U hU hW => ⟨rfl, congrArg Array.size hU⟩⟩ rfl rfl hl.1 rfl (lv_room (Nat.le_of_ble_eq_true rfl)) dX0_reaches_6 ⟨Nat.zero_le _, Nat.zero_le _⟩) hS (fun q _ h => Nat.le_trans hS.1 h) (fun q h => Nat.le_trans hS.1 h) (fun r_2 _ _ H_2 _ _ _ hw _ _ _ hS => ?_)
  subst hw
  exact W.zret (v := (fX0_isWithinReach (fX0_kind p0) p1)) hx hb hr (nb_01 (zX0_isWithinReach ..)) (fun t ht hW => ⟨⟨(fX0_isWithinReach (fX0_kind p0) p1), (), rfl, by rw [fX0_reaches], trivial⟩, hS.F ht⟩) hS.2.2 dX0_reaches_9
set_option maxHeartbeats 4000000 in
set_option maxRecDepth 100000 in
theorem mX0_turned (l : Launch) (sz : Nat) (h0 t0 : Nat) (p0 : Int32) : Met l yX0_turned wsX0_turned ({ frames := 5, cells := 0, slots := 0, locals := 111 }) (va_Pc [.ref h0, .int p0] (fun U => U.heap.size = sz ∧ wv_rcv RX0 h0 U ∧ wv_tt t0 U)) (va_Qi (fun (r : Int32) (_ : Unit) => r = fX0_turned p0) (fun _ _ => True) (fun q : Nat => sz ≤ q)) 0 0 (fun q : Nat => sz ≤ q) := by
  refine Met.ofW (cc := cX0_turned) (maxL := 2) (ret := (some .int)) (by decide) rfl ?_
  intro p e s m args below meth c s₁ B hml hv
  obtain ⟨rfl, hsz, hww⟩ := hv
  have hx := B.exec
  have hb := B.bytes
  have hr := B.returns
  have hts := atoms_spec (ws := wsX0_turned) B.pre
  have hown : s.vm.findClass RX0 = some m.cls := findClass_of_methodNamed B.named
  have hlocks := B.notSynchronized
  subst hsz
  have hS : va_S (fun q : Nat => s.heap.size ≤ q) s.heap s.heap [] := va_S.rf
  have hl := lv_entry ([.ref h0, .int p0]) (n := 2) (Nat.le_of_ble_eq_true rfl)
  rw [lg_entry_eq]
  generalize (lg_sl ([.ref h0, .int p0]) ++ List.replicate (2 - (lg_sl ([.ref h0, .int p0])).length) Slot.unset).toArray = ls at hl ⊢
  have hl : lv_has ls 2 [(0, .ref h0), (1, .int p0)] := hl
  refine lv_aload_n hx hb dX0_turned_0 rfl (lv_at hl 0 rfl) ?_
  refine lv_iload_n hx hb dX0_turned_1 rfl (lv_at hl 1 rfl) ?_
  refine va_calli (va_runV (As := [.int p0]) (rest := []) ⟨hx, hb, hml, hown, hts⟩ (mX0_kind l s.heap.size h0 t0 p0) (cwV 1 hts gX0_turned_X0_kind rfl rfl rfl (by decide +kernel) ⟨Nat.le_of_ble_eq_true rfl, Nat.le_of_ble_eq_true rfl⟩) ⟨fb_ww, hww.1.at hS, fun U hU hW => ⟨rfl, congrArg Array.size hU, hww.1.go hS hU hW.alike, hww.2.go hS hU hW.alike⟩⟩ rfl rfl hl.1 rfl (lv_room (Nat.le_of_ble_eq_true rfl)) dX0_turned_2 ⟨Nat.zero_le _, Nat.zero_le _⟩) hS (fun q _ h => Nat.le_trans hS.1 h) (fun q h => Nat.le_trans hS.1 h) (fun r_1 _ _ H_1 _ _ _ hw _ _ _ hS => ?_)
  subst hw
  by_cases c_2 : (fX0_kind p0) = (14 : Int32)
  · refine lv_tableIn (off := 27) (tgt := 32) hx hb dX0_turned_5 (by rw [c_2]; decide) (by rw [c_2]; decide) (by rw [c_2]; decide) (by decide) ?_
    refine lv_iload_n hx hb dX0_turned_32 rfl (lv_at hl 1 rfl) ?_
    refine lv_iconst (v := 1) hx hb dX0_turned_33 (by decide) ?_
    refine lv_ixor hx hb dX0_turned_34 ?_
    exact W.iret (v := (p0 ^^^ (1 : Int32))) hx hb hr (fun t ht hW => ⟨⟨(p0 ^^^ (1 : Int32)), (), rfl, by rw [fX0_turned, if_pos c_2], trivial⟩, hS.F ht⟩) hS.2.2 dX0_turned_35
  · -- another
    by_cases c_3 : (fX0_kind p0) = (15 : Int32)
    · refine lv_tableIn (off := 31) (tgt := 36) hx hb dX0_turned_5 (by rw [c_3]; decide) (by rw [c_3]; decide) (by rw [c_3]; decide) (by decide) ?_
      refine lv_iload_n hx hb dX0_turned_36 rfl (lv_at hl 1 rfl) ?_
      refine lv_ldc hx hb hown (hts (.constant RX0 41 (16777216)) (by decide +kernel)) dX0_turned_37 ?_
      refine lv_ixor hx hb dX0_turned_39 ?_
      exact W.iret (v := (p0 ^^^ (16777216 : Int32))) hx hb hr (fun t ht hW => ⟨⟨(p0 ^^^ (16777216 : Int32)), (), rfl, by rw [fX0_turned, if_neg c_2, if_pos c_3], trivial⟩, hS.F ht⟩) hS.2.2 dX0_turned_40
    · -- another
      by_cases c_4 : (fX0_kind p0) = (16 : Int32)
      · refine lv_tableIn (off := 31) (tgt := 36) hx hb dX0_turned_5 (by rw [c_4]; decide) (by rw [c_4]; decide) (by rw [c_4]; decide) (by decide) ?_
        refine lv_iload_n hx hb dX0_turned_36 rfl (lv_at hl 1 rfl) ?_
        refine lv_ldc hx hb hown (hts (.constant RX0 41 (16777216)) (by decide +kernel)) dX0_turned_37 ?_
        refine lv_ixor hx hb dX0_turned_39 ?_
        exact W.iret (v := (p0 ^^^ (16777216 : Int32))) hx hb hr (fun t ht hW => ⟨⟨(p0 ^^^ (16777216 : Int32)), (), rfl, by rw [fX0_turned, if_neg c_2, if_neg c_3, if_pos c_4], trivial⟩, hS.F ht⟩) hS.2.2 dX0_turned_40
      · -- another
        refine sw_def (tgt := 41) hx hb dX0_turned_5 (by decide) (fun k hk => by
            have e_0 := lv_neT c_2 (a := 14) (by decide); have e_1 := lv_neT c_3 (a := 15) (by decide); have e_2 := lv_neT c_4 (a := 16) (by decide)
            rcases (show k = 0 ∨ k = 1 ∨ k = 2 from by have hk9 : k < 3 := hk; omega) with rfl | rfl | rfl <;> first | exact Or.inl rfl | exact Or.inr (by omega)) (by decide) ?_
        refine lv_iload_n hx hb dX0_turned_41 rfl (lv_at hl 1 rfl) ?_
        exact W.iret (v := p0) hx hb hr (fun t ht hW => ⟨⟨p0, (), rfl, by rw [fX0_turned, if_neg c_2, if_neg c_3, if_neg c_4], trivial⟩, hS.F ht⟩) hS.2.2 dX0_turned_42
set_option maxHeartbeats 4000000 in
set_option maxRecDepth 100000 in
theorem mX0_page (l : Launch) (sz : Nat) (h0 t0 : Nat) (p0 : Int32) (p1 : Int64) : Met l yX0_page wsX0_page ({ frames := 5, cells := 0, slots := 0, locals := 111 }) (va_Pc [.ref h0, .int p0, .long p1] (fun U => U.heap.size = sz ∧ wv_rcv RX0 h0 U ∧ wv_tt t0 U)) (va_Ql (fun (r : Int64) (_ : Unit) => r = fX0_page p0 p1) (fun _ _ => True) (fun q : Nat => sz ≤ q)) 0 0 (fun q : Nat => sz ≤ q) := by
  refine Met.ofW (cc := cX0_page) (maxL := 6) (ret := (some .long)) (by decide) rfl ?_
  intro p e s m args below meth c s₁ B hml hv
  obtain ⟨rfl, hsz, hww⟩ := hv
  have hx := B.exec
  have hb := B.bytes
  have hr := B.returns
  have hts := atoms_spec (ws := wsX0_page) B.pre
  have hown : s.vm.findClass RX0 = some m.cls := findClass_of_methodNamed B.named
  have hlocks := B.notSynchronized
  subst hsz
  have hS : va_S (fun q : Nat => s.heap.size ≤ q) s.heap s.heap [] := va_S.rf
  have hl := lv_entry ([.ref h0, .int p0, .long p1]) (n := 6) (Nat.le_of_ble_eq_true rfl)
  rw [lg_entry_eq]
  generalize (lg_sl ([.ref h0, .int p0, .long p1]) ++ List.replicate (6 - (lg_sl ([.ref h0, .int p0, .long p1])).length) Slot.unset).toArray = ls at hl ⊢
  have hl : lv_has ls 6 [(0, .ref h0), (1, .int p0), (2, .long p1)] := hl
  refine lv_aload_n hx hb dX0_page_0 rfl (lv_at hl 0 rfl) ?_
  refine lv_iload_n hx hb dX0_page_1 rfl (lv_at hl 1 rfl) ?_
  refine va_calli (va_runV (As := [.int p0]) (rest := []) ⟨hx, hb, hml, hown, hts⟩ (mX0_kind l s.heap.size h0 t0 p0) (cwV 1 hts gX0_page_X0_kind rfl rfl rfl (by decide +kernel) ⟨Nat.le_of_ble_eq_true rfl, Nat.le_of_ble_eq_true rfl⟩) ⟨fb_ww, hww.1.at hS, fun U hU hW => ⟨rfl, congrArg Array.size hU, hww.1.go hS hU hW.alike, hww.2.go hS hU hW.alike⟩⟩ rfl rfl hl.1 rfl (lv_room (Nat.le_of_ble_eq_true rfl)) dX0_page_2 ⟨Nat.zero_le _, Nat.zero_le _⟩) hS (fun q _ h => Nat.le_trans hS.1 h) (fun q h => Nat.le_trans hS.1 h) (fun r_1 _ _ H_1 _ _ _ hw _ _ _ hS => ?_)
  subst hw
  refine lv_iconst (v := 5) hx hb dX0_page_5 (by decide) ?_
  refine lv_icmp_eq (tgt := 13) hx hb dX0_page_6 (by decide) (fun c_2 => ?_) (fun c_2 => ?_)
  · -- taken
    refine lv_iload_n hx hb dX0_page_13 rfl (lv_at hl 1 rfl) ?_
    refine lv_iconst (v := 5) hx hb dX0_page_14 (by decide) ?_
    refine lv_bipush (v := 19) hx hb dX0_page_15 (by decide) ?_
    refine va_calli (va_runS (As := [.int p0, .int (5 : Int32), .int (19 : Int32)]) (rest := []) ⟨hx, hb, hml, hown, hts⟩ (mX0_signedBits l H_1.size p0 (5 : Int32) (19 : Int32)) (va_cwS 3 hts gX0_page_X0_signedBits rfl rfl rfl (by decide +kernel) ⟨Nat.le_of_ble_eq_true rfl, Nat.le_of_ble_eq_true rfl⟩) ⟨fb_pure, fun U hU hW => ⟨rfl, congrArg Array.size hU⟩⟩ rfl rfl hl.1 rfl (lv_room (Nat.le_of_ble_eq_true rfl)) dX0_page_17 ⟨Nat.zero_le _, Nat.zero_le _⟩) hS (fun q _ h => Nat.le_trans hS.1 h) (fun q h => Nat.le_trans hS.1 h) (fun r_3 _ _ H_3 _ _ _ hw _ _ _ hS => ?_)
    subst hw
    refine lv_i2l hx hb dX0_page_20 rfl ?_
    refine lv_ldc2 hx hb hown (hts (.constantLong RX0 44 (4)) (by decide +kernel)) dX0_page_21 ?_
    refine lv_lmul hx hb dX0_page_24 ?_
    refine lv_iload_n hx hb dX0_page_25 rfl (lv_at hl 1 rfl) ?_
    refine lv_bipush (v := 29) hx hb dX0_page_26 (by decide) ?_
    refine lv_iconst (v := 2) hx hb dX0_page_28 (by decide) ?_
    refine va_calli (va_runS (As := [.int p0, .int (29 : Int32), .int (2 : Int32)]) (rest := [.long ((((fX0_signedBits p0 (5 : Int32) (19 : Int32))).toInt64) * (4 : Int64))]) ⟨hx, hb, hml, hown, hts⟩ (mX0_bits l H_3.size p0 (29 : Int32) (2 : Int32)) (va_cwS 3 hts gX0_page_X0_bits rfl rfl rfl (by decide +kernel) ⟨Nat.le_of_ble_eq_true rfl, Nat.le_of_ble_eq_true rfl⟩) ⟨fb_pure, fun U hU hW => ⟨rfl, congrArg Array.size hU⟩⟩ rfl rfl hl.1 rfl (lv_room (Nat.le_of_ble_eq_true rfl)) dX0_page_29 ⟨Nat.zero_le _, Nat.zero_le _⟩) hS (fun q _ h => Nat.le_trans hS.1 h) (fun q h => Nat.le_trans hS.1 h) (fun r_4 _ _ H_4 _ _ _ hw _ _ _ hS => ?_)
    subst hw
    refine lv_i2l hx hb dX0_page_32 rfl ?_
    refine lv_ladd hx hb dX0_page_33 ?_
    refine lv_lstore (lv' := [(4, .long (((((fX0_signedBits p0 (5 : Int32) (19 : Int32))).toInt64) * (4 : Int64)) + (((fX0_bits p0 (29 : Int32) (2 : Int32))).toInt64))), (0, .ref h0), (1, .int p0), (2, .long p1)]) hx hb dX0_page_34 hl (by decide) rfl (fun ls hl => ?_)
    refine lv_lload_n hx hb dX0_page_36 rfl (lv_at hl 3 rfl) ?_
    refine lv_bipush (v := 12) hx hb dX0_page_37 (by decide) ?_
    refine lv_lshr hx hb dX0_page_39 rfl ?_
    refine lv_lload hx hb dX0_page_40 (lv_at hl 0 rfl) ?_
    refine lv_ladd hx hb dX0_page_42 ?_
    refine lv_bipush (v := 12) hx hb dX0_page_43 (by decide) ?_
    refine lv_lshl hx hb dX0_page_45 rfl ?_
    exact W.lret (v := (((p1 >>> (((12 : Int32)).toInt64 &&& 63)) + (((((fX0_signedBits p0 (5 : Int32) (19 : Int32))).toInt64) * (4 : Int64)) + (((fX0_bits p0 (29 : Int32) (2 : Int32))).toInt64))) <<< (((12 : Int32)).toInt64 &&& 63))) hx hb hr (fun t ht hW => ⟨⟨(((p1 >>> (((12 : Int32)).toInt64 &&& 63)) + (((((fX0_signedBits p0 (5 : Int32) (19 : Int32))).toInt64) * (4 : Int64)) + (((fX0_bits p0 (29 : Int32) (2 : Int32))).toInt64))) <<< (((12 : Int32)).toInt64 &&& 63)), (), rfl, by rw [fX0_page, if_pos c_2], trivial⟩, hS.F ht⟩) hS.2.2 dX0_page_46
  · -- not taken
    refine lv_ldc2 hx hb hown (hts (.constantLong RX0 42 (-1)) (by decide +kernel)) dX0_page_9 ?_
    exact W.lret (v := (-1 : Int64)) hx hb hr (fun t ht hW => ⟨⟨(-1 : Int64), (), rfl, by rw [fX0_page, if_neg c_2], trivial⟩, hS.F ht⟩) hS.2.2 dX0_page_12
set_option maxHeartbeats 4000000 in
set_option maxRecDepth 100000 in
theorem mX0_paging (l : Launch) (sz : Nat) (h0 t0 : Nat) (p0 : Int32) (p1 : Int64) (p2 : Int64) : Met l yX0_paging wsX0_paging ({ frames := 5, cells := 0, slots := 0, locals := 111 }) (va_Pc [.ref h0, .int p0, .long p1, .long p2] (fun U => U.heap.size = sz ∧ wv_rcv RX0 h0 U ∧ wv_tt t0 U)) (va_Qi (fun (r : Int32) (_ : Unit) => r = fX0_paging p0 p1 p2) (fun _ _ => True) (fun q : Nat => sz ≤ q)) 0 0 (fun q : Nat => sz ≤ q) := by
  refine Met.ofW (cc := cX0_paging) (maxL := 11) (ret := (some .int)) (by decide) rfl ?_
  intro p e s m args below meth c s₁ B hml hv
  obtain ⟨rfl, hsz, hww⟩ := hv
  have hx := B.exec
  have hb := B.bytes
  have hr := B.returns
  have hts := atoms_spec (ws := wsX0_paging) B.pre
  have hown : s.vm.findClass RX0 = some m.cls := findClass_of_methodNamed B.named
  have hlocks := B.notSynchronized
  subst hsz
  have hS : va_S (fun q : Nat => s.heap.size ≤ q) s.heap s.heap [] := va_S.rf
  have hl := lv_entry ([.ref h0, .int p0, .long p1, .long p2]) (n := 11) (Nat.le_of_ble_eq_true rfl)
  rw [lg_entry_eq]
  generalize (lg_sl ([.ref h0, .int p0, .long p1, .long p2]) ++ List.replicate (11 - (lg_sl ([.ref h0, .int p0, .long p1, .long p2])).length) Slot.unset).toArray = ls at hl ⊢
  have hl : lv_has ls 11 [(0, .ref h0), (1, .int p0), (2, .long p1), (4, .long p2)] := hl
  refine lv_aload_n hx hb dX0_paging_0 rfl (lv_at hl 0 rfl) ?_
  refine lv_iload_n hx hb dX0_paging_1 rfl (lv_at hl 1 rfl) ?_
  refine va_calli (va_runV (As := [.int p0]) (rest := []) ⟨hx, hb, hml, hown, hts⟩ (mX0_kind l s.heap.size h0 t0 p0) (cwV 1 hts gX0_paging_X0_kind rfl rfl rfl (by decide +kernel) ⟨Nat.le_of_ble_eq_true rfl, Nat.le_of_ble_eq_true rfl⟩) ⟨fb_ww, hww.1.at hS, fun U hU hW => ⟨rfl, congrArg Array.size hU, hww.1.go hS hU hW.alike, hww.2.go hS hU hW.alike⟩⟩ rfl rfl hl.1 rfl (lv_room (Nat.le_of_ble_eq_true rfl)) dX0_paging_2 ⟨Nat.zero_le _, Nat.zero_le _⟩) hS (fun q _ h => Nat.le_trans hS.1 h) (fun q h => Nat.le_trans hS.1 h) (fun r_1 _ _ H_1 _ _ _ hw _ _ _ hS => ?_)
  subst hw
  refine lv_iconst (v := 5) hx hb dX0_paging_5 (by decide) ?_
  refine lv_icmp_eq (tgt := 11) hx hb dX0_paging_6 (by decide) (fun c_2 => ?_) (fun c_2 => ?_)
  · -- taken
    refine lv_lload hx hb dX0_paging_11 (lv_at hl 3 rfl) ?_
    refine lv_bipush (v := 12) hx hb dX0_paging_13 (by decide) ?_
    refine lv_lshr hx hb dX0_paging_15 rfl ?_
    refine lv_lload_n hx hb dX0_paging_16 rfl (lv_at hl 2 rfl) ?_
    refine lv_bipush (v := 12) hx hb dX0_paging_17 (by decide) ?_
    refine lv_lshr hx hb dX0_paging_19 rfl ?_
    refine lv_lsub hx hb dX0_paging_20 ?_
    refine lv_lstore (lv' := [(6, .long ((p2 >>> (((12 : Int32)).toInt64 &&& 63)) - (p1 >>> (((12 : Int32)).toInt64 &&& 63)))), (0, .ref h0), (1, .int p0), (2, .long p1), (4, .long p2)]) hx hb dX0_paging_21 hl (by decide) rfl (fun ls hl => ?_)
    refine lv_lload hx hb dX0_paging_23 (lv_at hl 0 rfl) ?_
    refine lv_ldc2 hx hb hown (hts (.constantLong RX0 49 (1048576)) (by decide +kernel)) dX0_paging_25 ?_
    refine W.lcmp hx hb dX0_paging_28 ?_
    refine lv_if_ge (tgt := 41) hx hb dX0_paging_29 (by decide) (fun c_3 => ?_) (fun c_3 => ?_)
    · -- taken
      refine lv_iload_n hx hb dX0_paging_41 rfl (lv_at hl 2 rfl) ?_
      exact W.iret (v := p0) hx hb hr (fun t ht hW => ⟨⟨p0, (), rfl, by rw [fX0_paging, if_pos c_2, if_pos c_3], trivial⟩, hS.F ht⟩) hS.2.2 dX0_paging_42
    · -- not taken
      refine lv_lload hx hb dX0_paging_32 (lv_at hl 0 rfl) ?_
      refine lv_ldc2 hx hb hown (hts (.constantLong RX0 51 (-1048576)) (by decide +kernel)) dX0_paging_34 ?_
      refine W.lcmp hx hb dX0_paging_37 ?_
      refine lv_if_ge (tgt := 43) hx hb dX0_paging_38 (by decide) (fun c_4 => ?_) (fun c_4 => ?_)
      · -- taken
        refine lv_lload hx hb dX0_paging_43 (lv_at hl 0 rfl) ?_
        refine lv_l2i hx hb dX0_paging_45 rfl ?_
        refine lv_istore (lv' := [(8, .int ((((p2 >>> (((12 : Int32)).toInt64 &&& 63)) - (p1 >>> (((12 : Int32)).toInt64 &&& 63)))).toInt32)), (6, .long ((p2 >>> (((12 : Int32)).toInt64 &&& 63)) - (p1 >>> (((12 : Int32)).toInt64 &&& 63)))), (0, .ref h0), (1, .int p0), (2, .long p1), (4, .long p2)]) hx hb dX0_paging_46 hl (by decide) rfl (fun ls hl => ?_)
        refine lv_iload hx hb dX0_paging_48 (lv_at hl 0 rfl) ?_
        refine lv_iconst (v := 2) hx hb dX0_paging_50 (by decide) ?_
        refine lv_bipush (v := 19) hx hb dX0_paging_51 (by decide) ?_
        refine va_calli (va_runS (As := [.int ((((p2 >>> (((12 : Int32)).toInt64 &&& 63)) - (p1 >>> (((12 : Int32)).toInt64 &&& 63)))).toInt32), .int (2 : Int32), .int (19 : Int32)]) (rest := []) ⟨hx, hb, hml, hown, hts⟩ (mX0_bits l H_1.size ((((p2 >>> (((12 : Int32)).toInt64 &&& 63)) - (p1 >>> (((12 : Int32)).toInt64 &&& 63)))).toInt32) (2 : Int32) (19 : Int32)) (va_cwS 3 hts gX0_paging_X0_bits rfl rfl rfl (by decide +kernel) ⟨Nat.le_of_ble_eq_true rfl, Nat.le_of_ble_eq_true rfl⟩) ⟨fb_pure, fun U hU hW => ⟨rfl, congrArg Array.size hU⟩⟩ rfl rfl hl.1 rfl (lv_room (Nat.le_of_ble_eq_true rfl)) dX0_paging_53 ⟨Nat.zero_le _, Nat.zero_le _⟩) hS (fun q _ h => Nat.le_trans hS.1 h) (fun q h => Nat.le_trans hS.1 h) (fun r_5 _ _ H_5 _ _ _ hw _ _ _ hS => ?_)
        subst hw
        refine lv_iconst (v := 5) hx hb dX0_paging_56 (by decide) ?_
        refine lv_ishl hx hb dX0_paging_57 ?_
        refine lv_istore (lv' := [(9, .int ((fX0_bits ((((p2 >>> (((12 : Int32)).toInt64 &&& 63)) - (p1 >>> (((12 : Int32)).toInt64 &&& 63)))).toInt32) (2 : Int32) (19 : Int32)) <<< ((5 : Int32) &&& 31))), (8, .int ((((p2 >>> (((12 : Int32)).toInt64 &&& 63)) - (p1 >>> (((12 : Int32)).toInt64 &&& 63)))).toInt32)), (6, .long ((p2 >>> (((12 : Int32)).toInt64 &&& 63)) - (p1 >>> (((12 : Int32)).toInt64 &&& 63)))), (0, .ref h0), (1, .int p0), (2, .long p1), (4, .long p2)]) hx hb dX0_paging_58 hl (by decide) rfl (fun ls hl => ?_)
        refine lv_iload hx hb dX0_paging_60 (lv_at hl 1 rfl) ?_
        refine lv_iconst (v := 0) hx hb dX0_paging_62 (by decide) ?_
        refine lv_iconst (v := 2) hx hb dX0_paging_63 (by decide) ?_
        refine va_calli (va_runS (As := [.int ((((p2 >>> (((12 : Int32)).toInt64 &&& 63)) - (p1 >>> (((12 : Int32)).toInt64 &&& 63)))).toInt32), .int (0 : Int32), .int (2 : Int32)]) (rest := []) ⟨hx, hb, hml, hown, hts⟩ (mX0_bits l H_5.size ((((p2 >>> (((12 : Int32)).toInt64 &&& 63)) - (p1 >>> (((12 : Int32)).toInt64 &&& 63)))).toInt32) (0 : Int32) (2 : Int32)) (va_cwS 3 hts gX0_paging_X0_bits rfl rfl rfl (by decide +kernel) ⟨Nat.le_of_ble_eq_true rfl, Nat.le_of_ble_eq_true rfl⟩) ⟨fb_pure, fun U hU hW => ⟨rfl, congrArg Array.size hU⟩⟩ rfl rfl hl.1 rfl (lv_room (Nat.le_of_ble_eq_true rfl)) dX0_paging_64 ⟨Nat.zero_le _, Nat.zero_le _⟩) hS (fun q _ h => Nat.le_trans hS.1 h) (fun q h => Nat.le_trans hS.1 h) (fun r_6 _ _ H_6 _ _ _ hw _ _ _ hS => ?_)
        subst hw
        refine lv_bipush (v := 29) hx hb dX0_paging_67 (by decide) ?_
        refine lv_ishl hx hb dX0_paging_69 ?_
        refine lv_istore (lv' := [(10, .int ((fX0_bits ((((p2 >>> (((12 : Int32)).toInt64 &&& 63)) - (p1 >>> (((12 : Int32)).toInt64 &&& 63)))).toInt32) (0 : Int32) (2 : Int32)) <<< ((29 : Int32) &&& 31))), (9, .int ((fX0_bits ((((p2 >>> (((12 : Int32)).toInt64 &&& 63)) - (p1 >>> (((12 : Int32)).toInt64 &&& 63)))).toInt32) (2 : Int32) (19 : Int32)) <<< ((5 : Int32) &&& 31))), (8, .int ((((p2 >>> (((12 : Int32)).toInt64 &&& 63)) - (p1 >>> (((12 : Int32)).toInt64 &&& 63)))).toInt32)), (6, .long ((p2 >>> (((12 : Int32)).toInt64 &&& 63)) - (p1 >>> (((12 : Int32)).toInt64 &&& 63)))), (0, .ref h0), (1, .int p0), (2, .long p1), (4, .long p2)]) hx hb dX0_paging_70 hl (by decide) rfl (fun ls hl => ?_)
        refine lv_iload_n hx hb dX0_paging_72 rfl (lv_at hl 5 rfl) ?_
        refine lv_ldc hx hb hown (hts (.constant RX0 53 (-1627389921)) (by decide +kernel)) dX0_paging_73 ?_
        refine lv_iand hx hb dX0_paging_75 ?_
        refine lv_iload hx hb dX0_paging_76 (lv_at hl 1 rfl) ?_
        refine lv_ior hx hb dX0_paging_78 ?_
        refine lv_iload hx hb dX0_paging_79 (lv_at hl 0 rfl) ?_
        refine lv_ior hx hb dX0_paging_81 ?_
        exact W.iret (v := (((p0 &&& (-1627389921 : Int32)) ||| ((fX0_bits ((((p2 >>> (((12 : Int32)).toInt64 &&& 63)) - (p1 >>> (((12 : Int32)).toInt64 &&& 63)))).toInt32) (2 : Int32) (19 : Int32)) <<< ((5 : Int32) &&& 31))) ||| ((fX0_bits ((((p2 >>> (((12 : Int32)).toInt64 &&& 63)) - (p1 >>> (((12 : Int32)).toInt64 &&& 63)))).toInt32) (0 : Int32) (2 : Int32)) <<< ((29 : Int32) &&& 31)))) hx hb hr (fun t ht hW => ⟨⟨(((p0 &&& (-1627389921 : Int32)) ||| ((fX0_bits ((((p2 >>> (((12 : Int32)).toInt64 &&& 63)) - (p1 >>> (((12 : Int32)).toInt64 &&& 63)))).toInt32) (2 : Int32) (19 : Int32)) <<< ((5 : Int32) &&& 31))) ||| ((fX0_bits ((((p2 >>> (((12 : Int32)).toInt64 &&& 63)) - (p1 >>> (((12 : Int32)).toInt64 &&& 63)))).toInt32) (0 : Int32) (2 : Int32)) <<< ((29 : Int32) &&& 31))), (), rfl, by rw [fX0_paging, if_pos c_2, if_neg c_3, if_pos c_4], trivial⟩, hS.F ht⟩) hS.2.2 dX0_paging_82
      · -- not taken
        refine lv_iload_n hx hb dX0_paging_41 rfl (lv_at hl 2 rfl) ?_
        exact W.iret (v := p0) hx hb hr (fun t ht hW => ⟨⟨p0, (), rfl, by rw [fX0_paging, if_pos c_2, if_neg c_3, if_neg c_4], trivial⟩, hS.F ht⟩) hS.2.2 dX0_paging_42
  · -- not taken
    refine lv_iload_n hx hb dX0_paging_9 rfl (lv_at hl 1 rfl) ?_
    exact W.iret (v := p0) hx hb hr (fun t ht hW => ⟨⟨p0, (), rfl, by rw [fX0_paging, if_neg c_2], trivial⟩, hS.F ht⟩) hS.2.2 dX0_paging_10
set_option maxHeartbeats 4000000 in
set_option maxRecDepth 100000 in
theorem mX0_goesOn (l : Launch) (sz : Nat) (h0 t0 : Nat) (p0 : Int32) : Met l yX0_goesOn wsX0_goesOn ({ frames := 5, cells := 0, slots := 0, locals := 111 }) (va_Pc [.ref h0, .int p0] (fun U => U.heap.size = sz ∧ wv_rcv RX0 h0 U ∧ wv_tt t0 U)) (va_Qi (fun (r : Int32) (_ : Unit) => r = fX0_goesOn p0) (fun _ _ => True) (fun q : Nat => sz ≤ q)) 0 0 (fun q : Nat => sz ≤ q) := by
  refine Met.ofW (cc := cX0_goesOn) (maxL := 3) (ret := (some .boolean)) (by decide) rfl ?_
  intro p e s m args below meth c s₁ B hml hv
  obtain ⟨rfl, hsz, hww⟩ := hv
  have hx := B.exec
  have hb := B.bytes
  have hr := B.returns
  have hts := atoms_spec (ws := wsX0_goesOn) B.pre
  have hown : s.vm.findClass RX0 = some m.cls := findClass_of_methodNamed B.named
  have hlocks := B.notSynchronized
  subst hsz
  have hS : va_S (fun q : Nat => s.heap.size ≤ q) s.heap s.heap [] := va_S.rf
  have hl := lv_entry ([.ref h0, .int p0]) (n := 3) (Nat.le_of_ble_eq_true rfl)
  rw [lg_entry_eq]
  generalize (lg_sl ([.ref h0, .int p0]) ++ List.replicate (3 - (lg_sl ([.ref h0, .int p0])).length) Slot.unset).toArray = ls at hl ⊢
  have hl : lv_has ls 3 [(0, .ref h0), (1, .int p0)] := hl
  refine lv_aload_n hx hb dX0_goesOn_0 rfl (lv_at hl 0 rfl) ?_
  refine lv_iload_n hx hb dX0_goesOn_1 rfl (lv_at hl 1 rfl) ?_
  refine va_calli (va_runV (As := [.int p0]) (rest := []) ⟨hx, hb, hml, hown, hts⟩ (mX0_kind l s.heap.size h0 t0 p0) (cwV 1 hts gX0_goesOn_X0_kind rfl rfl rfl (by decide +kernel) ⟨Nat.le_of_ble_eq_true rfl, Nat.le_of_ble_eq_true rfl⟩) ⟨fb_ww, hww.1.at hS, fun U hU hW => ⟨rfl, congrArg Array.size hU, hww.1.go hS hU hW.alike, hww.2.go hS hU hW.alike⟩⟩ rfl rfl hl.1 rfl (lv_room (Nat.le_of_ble_eq_true rfl)) dX0_goesOn_2 ⟨Nat.zero_le _, Nat.zero_le _⟩) hS (fun q _ h => Nat.le_trans hS.1 h) (fun q h => Nat.le_trans hS.1 h) (fun r_1 _ _ H_1 _ _ _ hw _ _ _ hS => ?_)
  subst hw
  refine lv_istore_n (lv' := [(2, .int (fX0_kind p0)), (0, .ref h0), (1, .int p0)]) hx hb dX0_goesOn_5 rfl hl (by decide) rfl (fun ls hl => ?_)
  refine lv_iload_n hx hb dX0_goesOn_6 rfl (lv_at hl 0 rfl) ?_
  refine lv_if_eq (tgt := 32) hx hb dX0_goesOn_7 (by decide) (fun c_2 => ?_) (fun c_2 => ?_)
  · -- taken
    refine lv_iconst (v := 0) hx hb dX0_goesOn_32 (by decide) ?_
    exact W.zret (v := (0 : Int32)) hx hb hr (nb_01 (Or.inl rfl)) (fun t ht hW => ⟨⟨(0 : Int32), (), rfl, by rw [fX0_goesOn, if_pos c_2], trivial⟩, hS.F ht⟩) hS.2.2 dX0_goesOn_33
  · -- not taken
    refine lv_iload_n hx hb dX0_goesOn_10 rfl (lv_at hl 0 rfl) ?_
    refine lv_bipush (v := 12) hx hb dX0_goesOn_11 (by decide) ?_
    refine lv_icmp_eq (tgt := 32) hx hb dX0_goesOn_13 (by decide) (fun c_3 => ?_) (fun c_3 => ?_)
    · -- taken
      refine lv_iconst (v := 0) hx hb dX0_goesOn_32 (by decide) ?_
      exact W.zret (v := (0 : Int32)) hx hb hr (nb_01 (Or.inl rfl)) (fun t ht hW => ⟨⟨(0 : Int32), (), rfl, by rw [fX0_goesOn, if_neg c_2, if_pos c_3], trivial⟩, hS.F ht⟩) hS.2.2 dX0_goesOn_33
    · -- not taken
      refine lv_iload_n hx hb dX0_goesOn_16 rfl (lv_at hl 0 rfl) ?_
      refine lv_bipush (v := 17) hx hb dX0_goesOn_17 (by decide) ?_
      refine lv_icmp_eq (tgt := 32) hx hb dX0_goesOn_19 (by decide) (fun c_4 => ?_) (fun c_4 => ?_)
      · -- taken
        refine lv_iconst (v := 0) hx hb dX0_goesOn_32 (by decide) ?_
        exact W.zret (v := (0 : Int32)) hx hb hr (nb_01 (Or.inl rfl)) (fun t ht hW => ⟨⟨(0 : Int32), (), rfl, by rw [fX0_goesOn, if_neg c_2, if_neg c_3, if_pos c_4], trivial⟩, hS.F ht⟩) hS.2.2 dX0_goesOn_33
      · -- not taken
        refine lv_iload_n hx hb dX0_goesOn_22 rfl (lv_at hl 0 rfl) ?_
        refine lv_bipush (v := 19) hx hb dX0_goesOn_23 (by decide) ?_
        refine lv_icmp_eq (tgt := 32) hx hb dX0_goesOn_25 (by decide) (fun c_5 => ?_) (fun c_5 => ?_)
        · -- taken
          refine lv_iconst (v := 0) hx hb dX0_goesOn_32 (by decide) ?_
          exact W.zret (v := (0 : Int32)) hx hb hr (nb_01 (Or.inl rfl)) (fun t ht hW => ⟨⟨(0 : Int32), (), rfl, by rw [fX0_goesOn, if_neg c_2, if_neg c_3, if_neg c_4, if_pos c_5], trivial⟩, hS.F ht⟩) hS.2.2 dX0_goesOn_33
        · -- not taken
          refine lv_iconst (v := 1) hx hb dX0_goesOn_28 (by decide) ?_
          refine lv_goto (tgt := 33) hx hb dX0_goesOn_29 (by decide) ?_
          exact W.zret (v := (1 : Int32)) hx hb hr (nb_01 (Or.inr rfl)) (fun t ht hW => ⟨⟨(1 : Int32), (), rfl, by rw [fX0_goesOn, if_neg c_2, if_neg c_3, if_neg c_4, if_neg c_5], trivial⟩, hS.F ht⟩) hS.2.2 dX0_goesOn_33
set_option maxHeartbeats 4000000 in
set_option maxRecDepth 100000 in
theorem mX0_hasD (l : Launch) (sz : Nat) (p0 : Int32) : Met l yX0_hasD wsX0_hasD ({ frames := 0, cells := 0, slots := 0, locals := 0 }) (va_Pc [.int p0] (fun U => U.heap.size = sz)) (va_Qi (fun (r : Int32) (_ : Unit) => r = fX0_hasD p0) (fun _ _ => True) (fun q : Nat => sz ≤ q)) 0 0 (fun q : Nat => sz ≤ q) := by
  refine Met.ofW (cc := cX0_hasD) (maxL := 1) (ret := (some .boolean)) (by decide) rfl ?_
  intro p e s m args below meth c s₁ B hml hv
  obtain ⟨rfl, hsz⟩ := hv
  have hx := B.exec
  have hb := B.bytes
  have hr := B.returns
  have hts := atoms_spec (ws := wsX0_hasD) B.pre
  have hown : s.vm.findClass RX0 = some m.cls := findClass_of_methodNamed B.named
  have hlocks := B.notSynchronized
  subst hsz
  have hS : va_S (fun q : Nat => s.heap.size ≤ q) s.heap s.heap [] := va_S.rf
  have hl := lv_entry ([.int p0]) (n := 1) (Nat.le_of_ble_eq_true rfl)
  rw [lg_entry_eq]
  generalize (lg_sl ([.int p0]) ++ List.replicate (1 - (lg_sl ([.int p0])).length) Slot.unset).toArray = ls at hl ⊢
  have hl : lv_has ls 1 [(0, .int p0)] := hl
  refine lv_iload_n hx hb dX0_hasD_0 rfl (lv_at hl 0 rfl) ?_
  refine lv_iconst (v := 1) hx hb dX0_hasD_1 (by decide) ?_
  refine lv_icmp_lt (tgt := 11) hx hb dX0_hasD_2 (by decide) (fun c_1 => ?_) (fun c_1 => ?_)
  · -- taken
    refine lv_iload_n hx hb dX0_hasD_11 rfl (lv_at hl 0 rfl) ?_
    refine lv_bipush (v := 15) hx hb dX0_hasD_12 (by decide) ?_
    refine lv_icmp_eq (tgt := 23) hx hb dX0_hasD_14 (by decide) (fun c_2 => ?_) (fun c_2 => ?_)
    · -- taken
      refine lv_iconst (v := 1) hx hb dX0_hasD_23 (by decide) ?_
      refine lv_goto (tgt := 28) hx hb dX0_hasD_24 (by decide) ?_
      exact W.zret (v := (1 : Int32)) hx hb hr (nb_01 (Or.inr rfl)) (fun t ht hW => ⟨⟨(1 : Int32), (), rfl, by rw [fX0_hasD, if_pos c_1, if_pos c_2], trivial⟩, hS.F ht⟩) hS.2.2 dX0_hasD_28
    · -- not taken
      refine lv_iload_n hx hb dX0_hasD_17 rfl (lv_at hl 0 rfl) ?_
      refine lv_bipush (v := 16) hx hb dX0_hasD_18 (by decide) ?_
      refine lv_icmp_ne (tgt := 27) hx hb dX0_hasD_20 (by decide) (fun c_3 => ?_) (fun c_3 => ?_)
      · -- taken
        refine lv_iconst (v := 0) hx hb dX0_hasD_27 (by decide) ?_
        exact W.zret (v := (0 : Int32)) hx hb hr (nb_01 (Or.inl rfl)) (fun t ht hW => ⟨⟨(0 : Int32), (), rfl, by rw [fX0_hasD, if_pos c_1, if_neg c_2, if_neg c_3], trivial⟩, hS.F ht⟩) hS.2.2 dX0_hasD_28
      · -- not taken
        refine lv_iconst (v := 1) hx hb dX0_hasD_23 (by decide) ?_
        refine lv_goto (tgt := 28) hx hb dX0_hasD_24 (by decide) ?_
        exact W.zret (v := (1 : Int32)) hx hb hr (nb_01 (Or.inr rfl)) (fun t ht hW => ⟨⟨(1 : Int32), (), rfl, by rw [fX0_hasD, if_pos c_1, if_neg c_2, if_pos c_3], trivial⟩, hS.F ht⟩) hS.2.2 dX0_hasD_28
  · -- not taken
    refine lv_iload_n hx hb dX0_hasD_5 rfl (lv_at hl 0 rfl) ?_
    refine lv_bipush (v := 11) hx hb dX0_hasD_6 (by decide) ?_
    refine lv_icmp_le (tgt := 23) hx hb dX0_hasD_8 (by decide) (fun c_4 => ?_) (fun c_4 => ?_)
    · -- taken
      refine lv_iconst (v := 1) hx hb dX0_hasD_23 (by decide) ?_
      refine lv_goto (tgt := 28) hx hb dX0_hasD_24 (by decide) ?_
      exact W.zret (v := (1 : Int32)) hx hb hr (nb_01 (Or.inr rfl)) (fun t ht hW => ⟨⟨(1 : Int32), (), rfl, by rw [fX0_hasD, if_neg c_1, if_pos c_4], trivial⟩, hS.F ht⟩) hS.2.2 dX0_hasD_28
    · -- not taken
      refine lv_iload_n hx hb dX0_hasD_11 rfl (lv_at hl 0 rfl) ?_
      refine lv_bipush (v := 15) hx hb dX0_hasD_12 (by decide) ?_
      refine lv_icmp_eq (tgt := 23) hx hb dX0_hasD_14 (by decide) (fun c_5 => ?_) (fun c_5 => ?_)
      · -- taken
        refine lv_iconst (v := 1) hx hb dX0_hasD_23 (by decide) ?_
        refine lv_goto (tgt := 28) hx hb dX0_hasD_24 (by decide) ?_
        exact W.zret (v := (1 : Int32)) hx hb hr (nb_01 (Or.inr rfl)) (fun t ht hW => ⟨⟨(1 : Int32), (), rfl, by rw [fX0_hasD, if_neg c_1, if_neg c_4, if_pos c_5], trivial⟩, hS.F ht⟩) hS.2.2 dX0_hasD_28
      · -- not taken
        refine lv_iload_n hx hb dX0_hasD_17 rfl (lv_at hl 0 rfl) ?_
        refine lv_bipush (v := 16) hx hb dX0_hasD_18 (by decide) ?_
        refine lv_icmp_ne (tgt := 27) hx hb dX0_hasD_20 (by decide) (fun c_6 => ?_) (fun c_6 => ?_)
        · -- taken
          refine lv_iconst (v := 0) hx hb dX0_hasD_27 (by decide) ?_
          exact W.zret (v := (0 : Int32)) hx hb hr (nb_01 (Or.inl rfl)) (fun t ht hW => ⟨⟨(0 : Int32), (), rfl, by rw [fX0_hasD, if_neg c_1, if_neg c_4, if_neg c_5, if_neg c_6], trivial⟩, hS.F ht⟩) hS.2.2 dX0_hasD_28
        · -- not taken
          refine lv_iconst (v := 1) hx hb dX0_hasD_23 (by decide) ?_
          refine lv_goto (tgt := 28) hx hb dX0_hasD_24 (by decide) ?_
          exact W.zret (v := (1 : Int32)) hx hb hr (nb_01 (Or.inr rfl)) (fun t ht hW => ⟨⟨(1 : Int32), (), rfl, by rw [fX0_hasD, if_neg c_1, if_neg c_4, if_neg c_5, if_pos c_6], trivial⟩, hS.F ht⟩) hS.2.2 dX0_hasD_28
set_option maxHeartbeats 4000000 in
set_option maxRecDepth 100000 in
theorem mX0_hasN (l : Launch) (sz : Nat) (p0 : Int32) : Met l yX0_hasN wsX0_hasN ({ frames := 0, cells := 0, slots := 0, locals := 0 }) (va_Pc [.int p0] (fun U => U.heap.size = sz)) (va_Qi (fun (r : Int32) (_ : Unit) => r = fX0_hasN p0) (fun _ _ => True) (fun q : Nat => sz ≤ q)) 0 0 (fun q : Nat => sz ≤ q) := by
  refine Met.ofW (cc := cX0_hasN) (maxL := 1) (ret := (some .boolean)) (by decide) rfl ?_
  intro p e s m args below meth c s₁ B hml hv
  obtain ⟨rfl, hsz⟩ := hv
  have hx := B.exec
  have hb := B.bytes
  have hr := B.returns
  have hts := atoms_spec (ws := wsX0_hasN) B.pre
  have hown : s.vm.findClass RX0 = some m.cls := findClass_of_methodNamed B.named
  have hlocks := B.notSynchronized
  subst hsz
  have hS : va_S (fun q : Nat => s.heap.size ≤ q) s.heap s.heap [] := va_S.rf
  have hl := lv_entry ([.int p0]) (n := 1) (Nat.le_of_ble_eq_true rfl)
  rw [lg_entry_eq]
  generalize (lg_sl ([.int p0]) ++ List.replicate (1 - (lg_sl ([.int p0])).length) Slot.unset).toArray = ls at hl ⊢
  have hl : lv_has ls 1 [(0, .int p0)] := hl
  refine lv_iload_n hx hb dX0_hasN_0 rfl (lv_at hl 0 rfl) ?_
  refine lv_iconst (v := 1) hx hb dX0_hasN_1 (by decide) ?_
  refine lv_icmp_lt (tgt := 10) hx hb dX0_hasN_2 (by decide) (fun c_1 => ?_) (fun c_1 => ?_)
  · -- taken
    refine lv_iload_n hx hb dX0_hasN_10 rfl (lv_at hl 0 rfl) ?_
    refine lv_bipush (v := 6) hx hb dX0_hasN_11 (by decide) ?_
    refine lv_icmp_lt (tgt := 22) hx hb dX0_hasN_13 (by decide) (fun c_2 => ?_) (fun c_2 => ?_)
    · -- taken
      refine lv_iload_n hx hb dX0_hasN_22 rfl (lv_at hl 0 rfl) ?_
      refine lv_bipush (v := 17) hx hb dX0_hasN_23 (by decide) ?_
      refine lv_icmp_lt (tgt := 38) hx hb dX0_hasN_25 (by decide) (fun c_3 => ?_) (fun c_3 => ?_)
      · -- taken
        refine lv_iconst (v := 0) hx hb dX0_hasN_38 (by decide) ?_
        exact W.zret (v := (0 : Int32)) hx hb hr (nb_01 (Or.inl rfl)) (fun t ht hW => ⟨⟨(0 : Int32), (), rfl, by rw [fX0_hasN, if_pos c_1, if_pos c_2, if_pos c_3], trivial⟩, hS.F ht⟩) hS.2.2 dX0_hasN_39
      · -- not taken
        refine lv_iload_n hx hb dX0_hasN_28 rfl (lv_at hl 0 rfl) ?_
        refine lv_bipush (v := 19) hx hb dX0_hasN_29 (by decide) ?_
        refine lv_icmp_gt (tgt := 38) hx hb dX0_hasN_31 (by decide) (fun c_4 => ?_) (fun c_4 => ?_)
        · -- taken
          refine lv_iconst (v := 0) hx hb dX0_hasN_38 (by decide) ?_
          exact W.zret (v := (0 : Int32)) hx hb hr (nb_01 (Or.inl rfl)) (fun t ht hW => ⟨⟨(0 : Int32), (), rfl, by rw [fX0_hasN, if_pos c_1, if_pos c_2, if_neg c_3, if_pos c_4], trivial⟩, hS.F ht⟩) hS.2.2 dX0_hasN_39
        · -- not taken
          refine lv_iconst (v := 1) hx hb dX0_hasN_34 (by decide) ?_
          refine lv_goto (tgt := 39) hx hb dX0_hasN_35 (by decide) ?_
          exact W.zret (v := (1 : Int32)) hx hb hr (nb_01 (Or.inr rfl)) (fun t ht hW => ⟨⟨(1 : Int32), (), rfl, by rw [fX0_hasN, if_pos c_1, if_pos c_2, if_neg c_3, if_neg c_4], trivial⟩, hS.F ht⟩) hS.2.2 dX0_hasN_39
    · -- not taken
      refine lv_iload_n hx hb dX0_hasN_16 rfl (lv_at hl 0 rfl) ?_
      refine lv_bipush (v := 11) hx hb dX0_hasN_17 (by decide) ?_
      refine lv_icmp_le (tgt := 34) hx hb dX0_hasN_19 (by decide) (fun c_5 => ?_) (fun c_5 => ?_)
      · -- taken
        refine lv_iconst (v := 1) hx hb dX0_hasN_34 (by decide) ?_
        refine lv_goto (tgt := 39) hx hb dX0_hasN_35 (by decide) ?_
        exact W.zret (v := (1 : Int32)) hx hb hr (nb_01 (Or.inr rfl)) (fun t ht hW => ⟨⟨(1 : Int32), (), rfl, by rw [fX0_hasN, if_pos c_1, if_neg c_2, if_pos c_5], trivial⟩, hS.F ht⟩) hS.2.2 dX0_hasN_39
      · -- not taken
        refine lv_iload_n hx hb dX0_hasN_22 rfl (lv_at hl 0 rfl) ?_
        refine lv_bipush (v := 17) hx hb dX0_hasN_23 (by decide) ?_
        refine lv_icmp_lt (tgt := 38) hx hb dX0_hasN_25 (by decide) (fun c_6 => ?_) (fun c_6 => ?_)
        · -- taken
          refine lv_iconst (v := 0) hx hb dX0_hasN_38 (by decide) ?_
          exact W.zret (v := (0 : Int32)) hx hb hr (nb_01 (Or.inl rfl)) (fun t ht hW => ⟨⟨(0 : Int32), (), rfl, by rw [fX0_hasN, if_pos c_1, if_neg c_2, if_neg c_5, if_pos c_6], trivial⟩, hS.F ht⟩) hS.2.2 dX0_hasN_39
        · -- not taken
          refine lv_iload_n hx hb dX0_hasN_28 rfl (lv_at hl 0 rfl) ?_
          refine lv_bipush (v := 19) hx hb dX0_hasN_29 (by decide) ?_
          refine lv_icmp_gt (tgt := 38) hx hb dX0_hasN_31 (by decide) (fun c_7 => ?_) (fun c_7 => ?_)
          · -- taken
            refine lv_iconst (v := 0) hx hb dX0_hasN_38 (by decide) ?_
            exact W.zret (v := (0 : Int32)) hx hb hr (nb_01 (Or.inl rfl)) (fun t ht hW => ⟨⟨(0 : Int32), (), rfl, by rw [fX0_hasN, if_pos c_1, if_neg c_2, if_neg c_5, if_neg c_6, if_pos c_7], trivial⟩, hS.F ht⟩) hS.2.2 dX0_hasN_39
          · -- not taken
            refine lv_iconst (v := 1) hx hb dX0_hasN_34 (by decide) ?_
            refine lv_goto (tgt := 39) hx hb dX0_hasN_35 (by decide) ?_
            exact W.zret (v := (1 : Int32)) hx hb hr (nb_01 (Or.inr rfl)) (fun t ht hW => ⟨⟨(1 : Int32), (), rfl, by rw [fX0_hasN, if_pos c_1, if_neg c_2, if_neg c_5, if_neg c_6, if_neg c_7], trivial⟩, hS.F ht⟩) hS.2.2 dX0_hasN_39
  · -- not taken
    refine lv_iload_n hx hb dX0_hasN_5 rfl (lv_at hl 0 rfl) ?_
    refine lv_iconst (v := 3) hx hb dX0_hasN_6 (by decide) ?_
    refine lv_icmp_le (tgt := 34) hx hb dX0_hasN_7 (by decide) (fun c_8 => ?_) (fun c_8 => ?_)
    · -- taken
      refine lv_iconst (v := 1) hx hb dX0_hasN_34 (by decide) ?_
      refine lv_goto (tgt := 39) hx hb dX0_hasN_35 (by decide) ?_
      exact W.zret (v := (1 : Int32)) hx hb hr (nb_01 (Or.inr rfl)) (fun t ht hW => ⟨⟨(1 : Int32), (), rfl, by rw [fX0_hasN, if_neg c_1, if_pos c_8], trivial⟩, hS.F ht⟩) hS.2.2 dX0_hasN_39
    · -- not taken
      refine lv_iload_n hx hb dX0_hasN_10 rfl (lv_at hl 0 rfl) ?_
      refine lv_bipush (v := 6) hx hb dX0_hasN_11 (by decide) ?_
      refine lv_icmp_lt (tgt := 22) hx hb dX0_hasN_13 (by decide) (fun c_9 => ?_) (fun c_9 => ?_)
      · -- taken
        refine lv_iload_n hx hb dX0_hasN_22 rfl (lv_at hl 0 rfl) ?_
        refine lv_bipush (v := 17) hx hb dX0_hasN_23 (by decide) ?_
        refine lv_icmp_lt (tgt := 38) hx hb dX0_hasN_25 (by decide) (fun c_10 => ?_) (fun c_10 => ?_)
        · -- taken
          refine lv_iconst (v := 0) hx hb dX0_hasN_38 (by decide) ?_
          exact W.zret (v := (0 : Int32)) hx hb hr (nb_01 (Or.inl rfl)) (fun t ht hW => ⟨⟨(0 : Int32), (), rfl, by rw [fX0_hasN, if_neg c_1, if_neg c_8, if_pos c_9, if_pos c_10], trivial⟩, hS.F ht⟩) hS.2.2 dX0_hasN_39
        · -- not taken
          refine lv_iload_n hx hb dX0_hasN_28 rfl (lv_at hl 0 rfl) ?_
          refine lv_bipush (v := 19) hx hb dX0_hasN_29 (by decide) ?_
          refine lv_icmp_gt (tgt := 38) hx hb dX0_hasN_31 (by decide) (fun c_11 => ?_) (fun c_11 => ?_)
          · -- taken
            refine lv_iconst (v := 0) hx hb dX0_hasN_38 (by decide) ?_
            exact W.zret (v := (0 : Int32)) hx hb hr (nb_01 (Or.inl rfl)) (fun t ht hW => ⟨⟨(0 : Int32), (), rfl, by rw [fX0_hasN, if_neg c_1, if_neg c_8, if_pos c_9, if_neg c_10, if_pos c_11], trivial⟩, hS.F ht⟩) hS.2.2 dX0_hasN_39
          · -- not taken
            refine lv_iconst (v := 1) hx hb dX0_hasN_34 (by decide) ?_
            refine lv_goto (tgt := 39) hx hb dX0_hasN_35 (by decide) ?_
            exact W.zret (v := (1 : Int32)) hx hb hr (nb_01 (Or.inr rfl)) (fun t ht hW => ⟨⟨(1 : Int32), (), rfl, by rw [fX0_hasN, if_neg c_1, if_neg c_8, if_pos c_9, if_neg c_10, if_neg c_11], trivial⟩, hS.F ht⟩) hS.2.2 dX0_hasN_39
      · -- not taken
        refine lv_iload_n hx hb dX0_hasN_16 rfl (lv_at hl 0 rfl) ?_
        refine lv_bipush (v := 11) hx hb dX0_hasN_17 (by decide) ?_
        refine lv_icmp_le (tgt := 34) hx hb dX0_hasN_19 (by decide) (fun c_12 => ?_) (fun c_12 => ?_)
        · -- taken
          refine lv_iconst (v := 1) hx hb dX0_hasN_34 (by decide) ?_
          refine lv_goto (tgt := 39) hx hb dX0_hasN_35 (by decide) ?_
          exact W.zret (v := (1 : Int32)) hx hb hr (nb_01 (Or.inr rfl)) (fun t ht hW => ⟨⟨(1 : Int32), (), rfl, by rw [fX0_hasN, if_neg c_1, if_neg c_8, if_neg c_9, if_pos c_12], trivial⟩, hS.F ht⟩) hS.2.2 dX0_hasN_39
        · -- not taken
          refine lv_iload_n hx hb dX0_hasN_22 rfl (lv_at hl 0 rfl) ?_
          refine lv_bipush (v := 17) hx hb dX0_hasN_23 (by decide) ?_
          refine lv_icmp_lt (tgt := 38) hx hb dX0_hasN_25 (by decide) (fun c_13 => ?_) (fun c_13 => ?_)
          · -- taken
            refine lv_iconst (v := 0) hx hb dX0_hasN_38 (by decide) ?_
            exact W.zret (v := (0 : Int32)) hx hb hr (nb_01 (Or.inl rfl)) (fun t ht hW => ⟨⟨(0 : Int32), (), rfl, by rw [fX0_hasN, if_neg c_1, if_neg c_8, if_neg c_9, if_neg c_12, if_pos c_13], trivial⟩, hS.F ht⟩) hS.2.2 dX0_hasN_39
          · -- not taken
            refine lv_iload_n hx hb dX0_hasN_28 rfl (lv_at hl 0 rfl) ?_
            refine lv_bipush (v := 19) hx hb dX0_hasN_29 (by decide) ?_
            refine lv_icmp_gt (tgt := 38) hx hb dX0_hasN_31 (by decide) (fun c_14 => ?_) (fun c_14 => ?_)
            · -- taken
              refine lv_iconst (v := 0) hx hb dX0_hasN_38 (by decide) ?_
              exact W.zret (v := (0 : Int32)) hx hb hr (nb_01 (Or.inl rfl)) (fun t ht hW => ⟨⟨(0 : Int32), (), rfl, by rw [fX0_hasN, if_neg c_1, if_neg c_8, if_neg c_9, if_neg c_12, if_neg c_13, if_pos c_14], trivial⟩, hS.F ht⟩) hS.2.2 dX0_hasN_39
            · -- not taken
              refine lv_iconst (v := 1) hx hb dX0_hasN_34 (by decide) ?_
              refine lv_goto (tgt := 39) hx hb dX0_hasN_35 (by decide) ?_
              exact W.zret (v := (1 : Int32)) hx hb hr (nb_01 (Or.inr rfl)) (fun t ht hW => ⟨⟨(1 : Int32), (), rfl, by rw [fX0_hasN, if_neg c_1, if_neg c_8, if_neg c_9, if_neg c_12, if_neg c_13, if_neg c_14], trivial⟩, hS.F ht⟩) hS.2.2 dX0_hasN_39
set_option maxHeartbeats 4000000 in
set_option maxRecDepth 100000 in
theorem mX0_hasM (l : Launch) (sz : Nat) (p0 : Int32) : Met l yX0_hasM wsX0_hasM ({ frames := 0, cells := 0, slots := 0, locals := 0 }) (va_Pc [.int p0] (fun U => U.heap.size = sz)) (va_Qi (fun (r : Int32) (_ : Unit) => r = fX0_hasM p0) (fun _ _ => True) (fun q : Nat => sz ≤ q)) 0 0 (fun q : Nat => sz ≤ q) := by
  refine Met.ofW (cc := cX0_hasM) (maxL := 1) (ret := (some .boolean)) (by decide) rfl ?_
  intro p e s m args below meth c s₁ B hml hv
  obtain ⟨rfl, hsz⟩ := hv
  have hx := B.exec
  have hb := B.bytes
  have hr := B.returns
  have hts := atoms_spec (ws := wsX0_hasM) B.pre
  have hown : s.vm.findClass RX0 = some m.cls := findClass_of_methodNamed B.named
  have hlocks := B.notSynchronized
  subst hsz
  have hS : va_S (fun q : Nat => s.heap.size ≤ q) s.heap s.heap [] := va_S.rf
  have hl := lv_entry ([.int p0]) (n := 1) (Nat.le_of_ble_eq_true rfl)
  rw [lg_entry_eq]
  generalize (lg_sl ([.int p0]) ++ List.replicate (1 - (lg_sl ([.int p0])).length) Slot.unset).toArray = ls at hl ⊢
  have hl : lv_has ls 1 [(0, .int p0)] := hl
  refine lv_iload_n hx hb dX0_hasM_0 rfl (lv_at hl 0 rfl) ?_
  refine lv_iconst (v := 2) hx hb dX0_hasM_1 (by decide) ?_
  refine lv_icmp_eq (tgt := 28) hx hb dX0_hasM_2 (by decide) (fun c_1 => ?_) (fun c_1 => ?_)
  · -- taken
    refine lv_iconst (v := 1) hx hb dX0_hasM_28 (by decide) ?_
    refine lv_goto (tgt := 33) hx hb dX0_hasM_29 (by decide) ?_
    exact W.zret (v := (1 : Int32)) hx hb hr (nb_01 (Or.inr rfl)) (fun t ht hW => ⟨⟨(1 : Int32), (), rfl, by rw [fX0_hasM, if_pos c_1], trivial⟩, hS.F ht⟩) hS.2.2 dX0_hasM_33
  · -- not taken
    refine lv_iload_n hx hb dX0_hasM_5 rfl (lv_at hl 0 rfl) ?_
    refine lv_iconst (v := 3) hx hb dX0_hasM_6 (by decide) ?_
    refine lv_icmp_eq (tgt := 28) hx hb dX0_hasM_7 (by decide) (fun c_2 => ?_) (fun c_2 => ?_)
    · -- taken
      refine lv_iconst (v := 1) hx hb dX0_hasM_28 (by decide) ?_
      refine lv_goto (tgt := 33) hx hb dX0_hasM_29 (by decide) ?_
      exact W.zret (v := (1 : Int32)) hx hb hr (nb_01 (Or.inr rfl)) (fun t ht hW => ⟨⟨(1 : Int32), (), rfl, by rw [fX0_hasM, if_neg c_1, if_pos c_2], trivial⟩, hS.F ht⟩) hS.2.2 dX0_hasM_33
    · -- not taken
      refine lv_iload_n hx hb dX0_hasM_10 rfl (lv_at hl 0 rfl) ?_
      refine lv_bipush (v := 6) hx hb dX0_hasM_11 (by decide) ?_
      refine lv_icmp_lt (tgt := 22) hx hb dX0_hasM_13 (by decide) (fun c_3 => ?_) (fun c_3 => ?_)
      · -- taken
        refine lv_iload_n hx hb dX0_hasM_22 rfl (lv_at hl 0 rfl) ?_
        refine lv_bipush (v := 10) hx hb dX0_hasM_23 (by decide) ?_
        refine lv_icmp_ne (tgt := 32) hx hb dX0_hasM_25 (by decide) (fun c_4 => ?_) (fun c_4 => ?_)
        · -- taken
          refine lv_iconst (v := 0) hx hb dX0_hasM_32 (by decide) ?_
          exact W.zret (v := (0 : Int32)) hx hb hr (nb_01 (Or.inl rfl)) (fun t ht hW => ⟨⟨(0 : Int32), (), rfl, by rw [fX0_hasM, if_neg c_1, if_neg c_2, if_pos c_3, if_neg c_4], trivial⟩, hS.F ht⟩) hS.2.2 dX0_hasM_33
        · -- not taken
          refine lv_iconst (v := 1) hx hb dX0_hasM_28 (by decide) ?_
          refine lv_goto (tgt := 33) hx hb dX0_hasM_29 (by decide) ?_
          exact W.zret (v := (1 : Int32)) hx hb hr (nb_01 (Or.inr rfl)) (fun t ht hW => ⟨⟨(1 : Int32), (), rfl, by rw [fX0_hasM, if_neg c_1, if_neg c_2, if_pos c_3, if_pos c_4], trivial⟩, hS.F ht⟩) hS.2.2 dX0_hasM_33
      · -- not taken
        refine lv_iload_n hx hb dX0_hasM_16 rfl (lv_at hl 0 rfl) ?_
        refine lv_bipush (v := 8) hx hb dX0_hasM_17 (by decide) ?_
        refine lv_icmp_le (tgt := 28) hx hb dX0_hasM_19 (by decide) (fun c_5 => ?_) (fun c_5 => ?_)
        · -- taken
          refine lv_iconst (v := 1) hx hb dX0_hasM_28 (by decide) ?_
          refine lv_goto (tgt := 33) hx hb dX0_hasM_29 (by decide) ?_
          exact W.zret (v := (1 : Int32)) hx hb hr (nb_01 (Or.inr rfl)) (fun t ht hW => ⟨⟨(1 : Int32), (), rfl, by rw [fX0_hasM, if_neg c_1, if_neg c_2, if_neg c_3, if_pos c_5], trivial⟩, hS.F ht⟩) hS.2.2 dX0_hasM_33
        · -- not taken
          refine lv_iload_n hx hb dX0_hasM_22 rfl (lv_at hl 0 rfl) ?_
          refine lv_bipush (v := 10) hx hb dX0_hasM_23 (by decide) ?_
          refine lv_icmp_ne (tgt := 32) hx hb dX0_hasM_25 (by decide) (fun c_6 => ?_) (fun c_6 => ?_)
          · -- taken
            refine lv_iconst (v := 0) hx hb dX0_hasM_32 (by decide) ?_
            exact W.zret (v := (0 : Int32)) hx hb hr (nb_01 (Or.inl rfl)) (fun t ht hW => ⟨⟨(0 : Int32), (), rfl, by rw [fX0_hasM, if_neg c_1, if_neg c_2, if_neg c_3, if_neg c_5, if_neg c_6], trivial⟩, hS.F ht⟩) hS.2.2 dX0_hasM_33
          · -- not taken
            refine lv_iconst (v := 1) hx hb dX0_hasM_28 (by decide) ?_
            refine lv_goto (tgt := 33) hx hb dX0_hasM_29 (by decide) ?_
            exact W.zret (v := (1 : Int32)) hx hb hr (nb_01 (Or.inr rfl)) (fun t ht hW => ⟨⟨(1 : Int32), (), rfl, by rw [fX0_hasM, if_neg c_1, if_neg c_2, if_neg c_3, if_neg c_5, if_pos c_6], trivial⟩, hS.F ht⟩) hS.2.2 dX0_hasM_33
set_option maxHeartbeats 4000000 in
set_option maxRecDepth 100000 in
theorem mX0_hasA (l : Launch) (sz : Nat) (p0 : Int32) : Met l yX0_hasA wsX0_hasA ({ frames := 0, cells := 0, slots := 0, locals := 0 }) (va_Pc [.int p0] (fun U => U.heap.size = sz)) (va_Qi (fun (r : Int32) (_ : Unit) => r = fX0_hasA p0) (fun _ _ => True) (fun q : Nat => sz ≤ q)) 0 0 (fun q : Nat => sz ≤ q) := by
  refine Met.ofW (cc := cX0_hasA) (maxL := 1) (ret := (some .boolean)) (by decide) rfl ?_
  intro p e s m args below meth c s₁ B hml hv
  obtain ⟨rfl, hsz⟩ := hv
  have hx := B.exec
  have hb := B.bytes
  have hr := B.returns
  have hts := atoms_spec (ws := wsX0_hasA) B.pre
  have hown : s.vm.findClass RX0 = some m.cls := findClass_of_methodNamed B.named
  have hlocks := B.notSynchronized
  subst hsz
  have hS : va_S (fun q : Nat => s.heap.size ≤ q) s.heap s.heap [] := va_S.rf
  have hl := lv_entry ([.int p0]) (n := 1) (Nat.le_of_ble_eq_true rfl)
  rw [lg_entry_eq]
  generalize (lg_sl ([.int p0]) ++ List.replicate (1 - (lg_sl ([.int p0])).length) Slot.unset).toArray = ls at hl ⊢
  have hl : lv_has ls 1 [(0, .int p0)] := hl
  refine lv_iload_n hx hb dX0_hasA_0 rfl (lv_at hl 0 rfl) ?_
  refine lv_bipush (v := 6) hx hb dX0_hasA_1 (by decide) ?_
  refine lv_icmp_eq (tgt := 12) hx hb dX0_hasA_3 (by decide) (fun c_1 => ?_) (fun c_1 => ?_)
  · -- taken
    refine lv_iconst (v := 1) hx hb dX0_hasA_12 (by decide) ?_
    refine lv_goto (tgt := 17) hx hb dX0_hasA_13 (by decide) ?_
    exact W.zret (v := (1 : Int32)) hx hb hr (nb_01 (Or.inr rfl)) (fun t ht hW => ⟨⟨(1 : Int32), (), rfl, by rw [fX0_hasA, if_pos c_1], trivial⟩, hS.F ht⟩) hS.2.2 dX0_hasA_17
  · -- not taken
    refine lv_iload_n hx hb dX0_hasA_6 rfl (lv_at hl 0 rfl) ?_
    refine lv_bipush (v := 11) hx hb dX0_hasA_7 (by decide) ?_
    refine lv_icmp_ne (tgt := 16) hx hb dX0_hasA_9 (by decide) (fun c_2 => ?_) (fun c_2 => ?_)
    · -- taken
      refine lv_iconst (v := 0) hx hb dX0_hasA_16 (by decide) ?_
      exact W.zret (v := (0 : Int32)) hx hb hr (nb_01 (Or.inl rfl)) (fun t ht hW => ⟨⟨(0 : Int32), (), rfl, by rw [fX0_hasA, if_neg c_1, if_neg c_2], trivial⟩, hS.F ht⟩) hS.2.2 dX0_hasA_17
    · -- not taken
      refine lv_iconst (v := 1) hx hb dX0_hasA_12 (by decide) ?_
      refine lv_goto (tgt := 17) hx hb dX0_hasA_13 (by decide) ?_
      exact W.zret (v := (1 : Int32)) hx hb hr (nb_01 (Or.inr rfl)) (fun t ht hW => ⟨⟨(1 : Int32), (), rfl, by rw [fX0_hasA, if_neg c_1, if_pos c_2], trivial⟩, hS.F ht⟩) hS.2.2 dX0_hasA_17
set_option maxHeartbeats 4000000 in
set_option maxRecDepth 100000 in
theorem mX0_register (l : Launch) (sz : Nat) (h0 t0 : Nat) (p0 : Int32) (p1 : Int32) : Met l yX0_register wsX0_register ({ frames := 5, cells := 0, slots := 0, locals := 111 }) (va_Pc [.ref h0, .int p0, .int p1] (fun U => U.heap.size = sz ∧ wv_rcv RX0 h0 U ∧ wv_tt t0 U)) (va_Qi (fun (r : Int32) (_ : Unit) => r = fX0_register p0 p1) (fun _ _ => True) (fun q : Nat => sz ≤ q)) 0 0 (fun q : Nat => sz ≤ q) := by
  refine Met.ofW (cc := cX0_register) (maxL := 4) (ret := (some .int)) (by decide) rfl ?_
  intro p e s m args below meth c s₁ B hml hv
  obtain ⟨rfl, hsz, hww⟩ := hv
  have hx := B.exec
  have hb := B.bytes
  have hr := B.returns
  have hts := atoms_spec (ws := wsX0_register) B.pre
  have hown : s.vm.findClass RX0 = some m.cls := findClass_of_methodNamed B.named
  have hlocks := B.notSynchronized
  subst hsz
  have hS : va_S (fun q : Nat => s.heap.size ≤ q) s.heap s.heap [] := va_S.rf
  have hl := lv_entry ([.ref h0, .int p0, .int p1]) (n := 4) (Nat.le_of_ble_eq_true rfl)
  rw [lg_entry_eq]
  generalize (lg_sl ([.ref h0, .int p0, .int p1]) ++ List.replicate (4 - (lg_sl ([.ref h0, .int p0, .int p1])).length) Slot.unset).toArray = ls at hl ⊢
  have hl : lv_has ls 4 [(0, .ref h0), (1, .int p0), (2, .int p1)] := hl
  refine lv_aload_n hx hb dX0_register_0 rfl (lv_at hl 0 rfl) ?_
  refine lv_iload_n hx hb dX0_register_1 rfl (lv_at hl 1 rfl) ?_
  refine va_calli (va_runV (As := [.int p0]) (rest := []) ⟨hx, hb, hml, hown, hts⟩ (mX0_kind l s.heap.size h0 t0 p0) (cwV 1 hts gX0_register_X0_kind rfl rfl rfl (by decide +kernel) ⟨Nat.le_of_ble_eq_true rfl, Nat.le_of_ble_eq_true rfl⟩) ⟨fb_ww, hww.1.at hS, fun U hU hW => ⟨rfl, congrArg Array.size hU, hww.1.go hS hU hW.alike, hww.2.go hS hU hW.alike⟩⟩ rfl rfl hl.1 rfl (lv_room (Nat.le_of_ble_eq_true rfl)) dX0_register_2 ⟨Nat.zero_le _, Nat.zero_le _⟩) hS (fun q _ h => Nat.le_trans hS.1 h) (fun q h => Nat.le_trans hS.1 h) (fun r_1 _ _ H_1 _ _ _ hw _ _ _ hS => ?_)
  subst hw
  refine lv_istore_n (lv' := [(3, .int (fX0_kind p0)), (0, .ref h0), (1, .int p0), (2, .int p1)]) hx hb dX0_register_5 rfl hl (by decide) rfl (fun ls hl => ?_)
  refine lv_iload_n hx hb dX0_register_6 rfl (lv_at hl 3 rfl) ?_
  by_cases c_2 : p1 = (0 : Int32)
  · refine lv_tableIn (off := 29) (tgt := 36) hx hb dX0_register_7 (by rw [c_2]; decide) (by rw [c_2]; decide) (by rw [c_2]; decide) (by decide) ?_
    refine lv_iload_n hx hb dX0_register_36 rfl (lv_at hl 0 rfl) ?_
    refine va_calli (va_runS (As := [.int (fX0_kind p0)]) (rest := []) ⟨hx, hb, hml, hown, hts⟩ (mX0_hasD l H_1.size (fX0_kind p0)) (va_cwS 1 hts gX0_register_X0_hasD rfl rfl rfl (by decide +kernel) ⟨Nat.le_of_ble_eq_true rfl, Nat.le_of_ble_eq_true rfl⟩) ⟨fb_pure, fun U hU hW => ⟨rfl, congrArg Array.size hU⟩⟩ rfl rfl hl.1 rfl (lv_room (Nat.le_of_ble_eq_true rfl)) dX0_register_37 ⟨Nat.zero_le _, Nat.zero_le _⟩) hS (fun q _ h => Nat.le_trans hS.1 h) (fun q h => Nat.le_trans hS.1 h) (fun r_3 _ _ H_3 _ _ _ hw _ _ _ hS => ?_)
    subst hw
    refine lv_if_eq (tgt := 52) hx hb dX0_register_40 (by decide) (fun c_4 => ?_) (fun c_4 => ?_)
    · -- taken
      refine lv_iconst (v := -1) hx hb dX0_register_52 (by decide) ?_
      exact W.iret (v := (-1 : Int32)) hx hb hr (fun t ht hW => ⟨⟨(-1 : Int32), (), rfl, by rw [fX0_register, if_pos c_2, if_pos c_4], trivial⟩, hS.F ht⟩) hS.2.2 dX0_register_53
    · -- not taken
      refine lv_iload_n hx hb dX0_register_43 rfl (lv_at hl 2 rfl) ?_
      refine lv_iconst (v := 0) hx hb dX0_register_44 (by decide) ?_
      refine lv_iconst (v := 5) hx hb dX0_register_45 (by decide) ?_
      refine va_calli (va_runS (As := [.int p0, .int (0 : Int32), .int (5 : Int32)]) (rest := []) ⟨hx, hb, hml, hown, hts⟩ (mX0_bits l H_3.size p0 (0 : Int32) (5 : Int32)) (va_cwS 3 hts gX0_register_X0_bits rfl rfl rfl (by decide +kernel) ⟨Nat.le_of_ble_eq_true rfl, Nat.le_of_ble_eq_true rfl⟩) ⟨fb_pure, fun U hU hW => ⟨rfl, congrArg Array.size hU⟩⟩ rfl rfl hl.1 rfl (lv_room (Nat.le_of_ble_eq_true rfl)) dX0_register_46 ⟨Nat.zero_le _, Nat.zero_le _⟩) hS (fun q _ h => Nat.le_trans hS.1 h) (fun q h => Nat.le_trans hS.1 h) (fun r_5 _ _ H_5 _ _ _ hw _ _ _ hS => ?_)
      subst hw
      refine lv_goto (tgt := 53) hx hb dX0_register_49 (by decide) ?_
      exact W.iret (v := (fX0_bits p0 (0 : Int32) (5 : Int32))) hx hb hr (fun t ht hW => ⟨⟨(fX0_bits p0 (0 : Int32) (5 : Int32)), (), rfl, by rw [fX0_register, if_pos c_2, if_neg c_4], trivial⟩, hS.F ht⟩) hS.2.2 dX0_register_53
  · -- another
    by_cases c_6 : p1 = (1 : Int32)
    · refine lv_tableIn (off := 47) (tgt := 54) hx hb dX0_register_7 (by rw [c_6]; decide) (by rw [c_6]; decide) (by rw [c_6]; decide) (by decide) ?_
      refine lv_iload_n hx hb dX0_register_54 rfl (lv_at hl 0 rfl) ?_
      refine va_calli (va_runS (As := [.int (fX0_kind p0)]) (rest := []) ⟨hx, hb, hml, hown, hts⟩ (mX0_hasN l H_1.size (fX0_kind p0)) (va_cwS 1 hts gX0_register_X0_hasN rfl rfl rfl (by decide +kernel) ⟨Nat.le_of_ble_eq_true rfl, Nat.le_of_ble_eq_true rfl⟩) ⟨fb_pure, fun U hU hW => ⟨rfl, congrArg Array.size hU⟩⟩ rfl rfl hl.1 rfl (lv_room (Nat.le_of_ble_eq_true rfl)) dX0_register_55 ⟨Nat.zero_le _, Nat.zero_le _⟩) hS (fun q _ h => Nat.le_trans hS.1 h) (fun q h => Nat.le_trans hS.1 h) (fun r_7 _ _ H_7 _ _ _ hw _ _ _ hS => ?_)
      subst hw
      refine lv_if_eq (tgt := 70) hx hb dX0_register_58 (by decide) (fun c_8 => ?_) (fun c_8 => ?_)
      · -- taken
        refine lv_iconst (v := -1) hx hb dX0_register_70 (by decide) ?_
        exact W.iret (v := (-1 : Int32)) hx hb hr (fun t ht hW => ⟨⟨(-1 : Int32), (), rfl, by rw [fX0_register, if_neg c_2, if_pos c_6, if_pos c_8], trivial⟩, hS.F ht⟩) hS.2.2 dX0_register_71
      · -- not taken
        refine lv_iload_n hx hb dX0_register_61 rfl (lv_at hl 2 rfl) ?_
        refine lv_iconst (v := 5) hx hb dX0_register_62 (by decide) ?_
        refine lv_iconst (v := 5) hx hb dX0_register_63 (by decide) ?_
        refine va_calli (va_runS (As := [.int p0, .int (5 : Int32), .int (5 : Int32)]) (rest := []) ⟨hx, hb, hml, hown, hts⟩ (mX0_bits l H_7.size p0 (5 : Int32) (5 : Int32)) (va_cwS 3 hts gX0_register_X0_bits rfl rfl rfl (by decide +kernel) ⟨Nat.le_of_ble_eq_true rfl, Nat.le_of_ble_eq_true rfl⟩) ⟨fb_pure, fun U hU hW => ⟨rfl, congrArg Array.size hU⟩⟩ rfl rfl hl.1 rfl (lv_room (Nat.le_of_ble_eq_true rfl)) dX0_register_64 ⟨Nat.zero_le _, Nat.zero_le _⟩) hS (fun q _ h => Nat.le_trans hS.1 h) (fun q h => Nat.le_trans hS.1 h) (fun r_9 _ _ H_9 _ _ _ hw _ _ _ hS => ?_)
        subst hw
        refine lv_goto (tgt := 71) hx hb dX0_register_67 (by decide) ?_
        exact W.iret (v := (fX0_bits p0 (5 : Int32) (5 : Int32))) hx hb hr (fun t ht hW => ⟨⟨(fX0_bits p0 (5 : Int32) (5 : Int32)), (), rfl, by rw [fX0_register, if_neg c_2, if_pos c_6, if_neg c_8], trivial⟩, hS.F ht⟩) hS.2.2 dX0_register_71
    · -- another
      by_cases c_10 : p1 = (2 : Int32)
      · refine lv_tableIn (off := 65) (tgt := 72) hx hb dX0_register_7 (by rw [c_10]; decide) (by rw [c_10]; decide) (by rw [c_10]; decide) (by decide) ?_
        refine lv_iload_n hx hb dX0_register_72 rfl (lv_at hl 0 rfl) ?_
        refine va_calli (va_runS (As := [.int (fX0_kind p0)]) (rest := []) ⟨hx, hb, hml, hown, hts⟩ (mX0_hasM l H_1.size (fX0_kind p0)) (va_cwS 1 hts gX0_register_X0_hasM rfl rfl rfl (by decide +kernel) ⟨Nat.le_of_ble_eq_true rfl, Nat.le_of_ble_eq_true rfl⟩) ⟨fb_pure, fun U hU hW => ⟨rfl, congrArg Array.size hU⟩⟩ rfl rfl hl.1 rfl (lv_room (Nat.le_of_ble_eq_true rfl)) dX0_register_73 ⟨Nat.zero_le _, Nat.zero_le _⟩) hS (fun q _ h => Nat.le_trans hS.1 h) (fun q h => Nat.le_trans hS.1 h) (fun r_11 _ _ H_11 _ _ _ hw _ _ _ hS => ?_)
        subst hw
        refine lv_if_eq (tgt := 89) hx hb dX0_register_76 (by decide) (fun c_12 => ?_) (fun c_12 => ?_)
        · -- taken
          refine lv_iconst (v := -1) hx hb dX0_register_89 (by decide) ?_
          exact W.iret (v := (-1 : Int32)) hx hb hr (fun t ht hW => ⟨⟨(-1 : Int32), (), rfl, by rw [fX0_register, if_neg c_2, if_neg c_6, if_pos c_10, if_pos c_12], trivial⟩, hS.F ht⟩) hS.2.2 dX0_register_90
        · -- not taken
          refine lv_iload_n hx hb dX0_register_79 rfl (lv_at hl 2 rfl) ?_
          refine lv_bipush (v := 16) hx hb dX0_register_80 (by decide) ?_
          refine lv_iconst (v := 5) hx hb dX0_register_82 (by decide) ?_
          refine va_calli (va_runS (As := [.int p0, .int (16 : Int32), .int (5 : Int32)]) (rest := []) ⟨hx, hb, hml, hown, hts⟩ (mX0_bits l H_11.size p0 (16 : Int32) (5 : Int32)) (va_cwS 3 hts gX0_register_X0_bits rfl rfl rfl (by decide +kernel) ⟨Nat.le_of_ble_eq_true rfl, Nat.le_of_ble_eq_true rfl⟩) ⟨fb_pure, fun U hU hW => ⟨rfl, congrArg Array.size hU⟩⟩ rfl rfl hl.1 rfl (lv_room (Nat.le_of_ble_eq_true rfl)) dX0_register_83 ⟨Nat.zero_le _, Nat.zero_le _⟩) hS (fun q _ h => Nat.le_trans hS.1 h) (fun q h => Nat.le_trans hS.1 h) (fun r_13 _ _ H_13 _ _ _ hw _ _ _ hS => ?_)
          subst hw
          refine lv_goto (tgt := 90) hx hb dX0_register_86 (by decide) ?_
          exact W.iret (v := (fX0_bits p0 (16 : Int32) (5 : Int32))) hx hb hr (fun t ht hW => ⟨⟨(fX0_bits p0 (16 : Int32) (5 : Int32)), (), rfl, by rw [fX0_register, if_neg c_2, if_neg c_6, if_pos c_10, if_neg c_12], trivial⟩, hS.F ht⟩) hS.2.2 dX0_register_90
      · -- another
        by_cases c_14 : p1 = (3 : Int32)
        · refine lv_tableIn (off := 84) (tgt := 91) hx hb dX0_register_7 (by rw [c_14]; decide) (by rw [c_14]; decide) (by rw [c_14]; decide) (by decide) ?_
          refine lv_iload_n hx hb dX0_register_91 rfl (lv_at hl 0 rfl) ?_
          refine va_calli (va_runS (As := [.int (fX0_kind p0)]) (rest := []) ⟨hx, hb, hml, hown, hts⟩ (mX0_hasA l H_1.size (fX0_kind p0)) (va_cwS 1 hts gX0_register_X0_hasA rfl rfl rfl (by decide +kernel) ⟨Nat.le_of_ble_eq_true rfl, Nat.le_of_ble_eq_true rfl⟩) ⟨fb_pure, fun U hU hW => ⟨rfl, congrArg Array.size hU⟩⟩ rfl rfl hl.1 rfl (lv_room (Nat.le_of_ble_eq_true rfl)) dX0_register_92 ⟨Nat.zero_le _, Nat.zero_le _⟩) hS (fun q _ h => Nat.le_trans hS.1 h) (fun q h => Nat.le_trans hS.1 h) (fun r_15 _ _ H_15 _ _ _ hw _ _ _ hS => ?_)
          subst hw
          refine lv_if_eq (tgt := 108) hx hb dX0_register_95 (by decide) (fun c_16 => ?_) (fun c_16 => ?_)
          · -- taken
            refine lv_iconst (v := -1) hx hb dX0_register_108 (by decide) ?_
            exact W.iret (v := (-1 : Int32)) hx hb hr (fun t ht hW => ⟨⟨(-1 : Int32), (), rfl, by rw [fX0_register, if_neg c_2, if_neg c_6, if_neg c_10, if_pos c_14, if_pos c_16], trivial⟩, hS.F ht⟩) hS.2.2 dX0_register_109
          · -- not taken
            refine lv_iload_n hx hb dX0_register_98 rfl (lv_at hl 2 rfl) ?_
            refine lv_bipush (v := 10) hx hb dX0_register_99 (by decide) ?_
            refine lv_iconst (v := 5) hx hb dX0_register_101 (by decide) ?_
            refine va_calli (va_runS (As := [.int p0, .int (10 : Int32), .int (5 : Int32)]) (rest := []) ⟨hx, hb, hml, hown, hts⟩ (mX0_bits l H_15.size p0 (10 : Int32) (5 : Int32)) (va_cwS 3 hts gX0_register_X0_bits rfl rfl rfl (by decide +kernel) ⟨Nat.le_of_ble_eq_true rfl, Nat.le_of_ble_eq_true rfl⟩) ⟨fb_pure, fun U hU hW => ⟨rfl, congrArg Array.size hU⟩⟩ rfl rfl hl.1 rfl (lv_room (Nat.le_of_ble_eq_true rfl)) dX0_register_102 ⟨Nat.zero_le _, Nat.zero_le _⟩) hS (fun q _ h => Nat.le_trans hS.1 h) (fun q h => Nat.le_trans hS.1 h) (fun r_17 _ _ H_17 _ _ _ hw _ _ _ hS => ?_)
            subst hw
            refine lv_goto (tgt := 109) hx hb dX0_register_105 (by decide) ?_
            exact W.iret (v := (fX0_bits p0 (10 : Int32) (5 : Int32))) hx hb hr (fun t ht hW => ⟨⟨(fX0_bits p0 (10 : Int32) (5 : Int32)), (), rfl, by rw [fX0_register, if_neg c_2, if_neg c_6, if_neg c_10, if_pos c_14, if_neg c_16], trivial⟩, hS.F ht⟩) hS.2.2 dX0_register_109
        · -- another
          refine sw_def (tgt := 110) hx hb dX0_register_7 (by decide) (fun k hk => by
              have e_0 := lv_neT c_2 (a := 0) (by decide); have e_1 := lv_neT c_6 (a := 1) (by decide); have e_2 := lv_neT c_10 (a := 2) (by decide); have e_3 := lv_neT c_14 (a := 3) (by decide)
              rcases (show k = 0 ∨ k = 1 ∨ k = 2 ∨ k = 3 from by have hk9 : k < 4 := hk; omega) with rfl | rfl | rfl | rfl <;> first | exact Or.inl rfl | exact Or.inr (by omega)) (by decide) ?_
          refine lv_iconst (v := -1) hx hb dX0_register_110 (by decide) ?_
          exact W.iret (v := (-1 : Int32)) hx hb hr (fun t ht hW => ⟨⟨(-1 : Int32), (), rfl, by rw [fX0_register, if_neg c_2, if_neg c_6, if_neg c_10, if_neg c_14], trivial⟩, hS.F ht⟩) hS.2.2 dX0_register_111
