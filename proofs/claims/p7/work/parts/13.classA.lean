set_option maxHeartbeats 4000000 in
theorem mX0_init (l : Launch) (sz h0 : Nat) : Met l yX0_init wsX0_init ({ frames := 1, cells := 0, slots := 0, locals := 12 }) (va_Pc [.ref h0] (fun U => U.heap.size = sz)) (va_Qv (fun (_ : Unit) => True) (fun _ _ => True) (fun q : Nat => sz ≤ q)) 0 0 (fun q : Nat => sz ≤ q) := by
  refine Met.ofW (cc := cX0_init) (maxL := 1) (ret := none) (by decide) rfl ?_
  intro p e s m args below meth c s₁ B hml hv
  obtain ⟨rfl, hsz⟩ := hv
  have hx := B.exec
  have hb := B.bytes
  have hr := B.returns
  have hts := atoms_spec (ws := wsX0_init) B.pre
  have hown : s.vm.findClass RX0 = some m.cls := findClass_of_methodNamed B.named
  have hlocks := B.notSynchronized
  subst hsz
  have hS : va_S (fun q : Nat => s.heap.size ≤ q) s.heap s.heap [] := va_S.rf
  have hl := lv_entry ([.ref h0]) (n := 1) (Nat.le_of_ble_eq_true rfl)
  rw [lg_entry_eq]
  generalize (lg_sl ([.ref h0]) ++ List.replicate (1 - (lg_sl ([.ref h0])).length) Slot.unset).toArray = ls at hl ⊢
  have hl : lv_has ls 1 [(0, .ref h0)] := hl
  refine lv_aload_n hx hb dX0_init_0 rfl (lv_at hl 0 rfl) ?_
  refine W.objInit hx hb hown (hts (.methodLink RX0 1 objectInit) (by decide +kernel)) (hts (.instanceMethod objectInit) (by decide +kernel)) (hts _ (List.mem_cons_of_mem _ ((List.mem_of_getElem? (i := 2) rfl)))) rfl (by rw [hml]; exact hl.1) rfl dX0_init_1 (Nat.le_of_ble_eq_true rfl) (Nat.le_of_ble_eq_true rfl) ?_
  refine W.eq (g2 := F0 m 4 ls []) rfl ?_
  exact W.vret hx hb hr (fun t ht hW => ⟨⟨(), rfl, trivial, trivial⟩, hS.F ht⟩) hS.2.2 dX0_init_4
set_option maxHeartbeats 4000000 in
theorem mX1_init (l : Launch) (sz h0 : Nat) : Met l yX1_init wsX1_init ({ frames := 1, cells := 0, slots := 0, locals := 12 }) (va_Pc [.ref h0] (fun U => U.heap.size = sz)) (va_Qv (fun (_ : Unit) => True) (fun _ _ => True) (fun q : Nat => sz ≤ q)) 0 0 (fun q : Nat => sz ≤ q) := by
  refine Met.ofW (cc := cX1_init) (maxL := 1) (ret := none) (by decide) rfl ?_
  intro p e s m args below meth c s₁ B hml hv
  obtain ⟨rfl, hsz⟩ := hv
  have hx := B.exec
  have hb := B.bytes
  have hr := B.returns
  have hts := atoms_spec (ws := wsX1_init) B.pre
  have hown : s.vm.findClass RX1 = some m.cls := findClass_of_methodNamed B.named
  have hlocks := B.notSynchronized
  subst hsz
  have hS : va_S (fun q : Nat => s.heap.size ≤ q) s.heap s.heap [] := va_S.rf
  have hl := lv_entry ([.ref h0]) (n := 1) (Nat.le_of_ble_eq_true rfl)
  rw [lg_entry_eq]
  generalize (lg_sl ([.ref h0]) ++ List.replicate (1 - (lg_sl ([.ref h0])).length) Slot.unset).toArray = ls at hl ⊢
  have hl : lv_has ls 1 [(0, .ref h0)] := hl
  refine lv_aload_n hx hb dX1_init_0 rfl (lv_at hl 0 rfl) ?_
  refine W.objInit hx hb hown (hts (.methodLink RX1 1 objectInit) (by decide +kernel)) (hts (.instanceMethod objectInit) (by decide +kernel)) (hts _ (List.mem_cons_of_mem _ ((List.mem_of_getElem? (i := 2) rfl)))) rfl (by rw [hml]; exact hl.1) rfl dX1_init_1 (Nat.le_of_ble_eq_true rfl) (Nat.le_of_ble_eq_true rfl) ?_
  refine W.eq (g2 := F0 m 4 ls []) rfl ?_
  exact W.vret hx hb hr (fun t ht hW => ⟨⟨(), rfl, trivial, trivial⟩, hS.F ht⟩) hS.2.2 dX1_init_4
set_option maxHeartbeats 4000000 in
set_option maxRecDepth 100000 in
theorem mX0_formOf (l : Launch) (sz : Nat) (t0 : Nat) (p0 : Int32) : Met l yX0_formOf wsX0_formOf ({ frames := 0, cells := 0, slots := 0, locals := 0 }) (va_Pc [.int p0] (fun U => U.heap.size = sz ∧ wv_tt t0 U)) (va_Qi (fun (r : Int32) (_ : Unit) => r = fX0_formOf p0) (fun _ _ => True) (fun q : Nat => sz ≤ q)) 0 0 (fun q : Nat => sz ≤ q) := by
  refine Met.ofW (cc := cX0_formOf) (maxL := 2) (ret := (some .int)) (by decide) rfl ?_
  intro p e s m args below meth c s₁ B hml hv
  obtain ⟨rfl, hsz, hww⟩ := hv
  have hx := B.exec
  have hb := B.bytes
  have hr := B.returns
  have hts := atoms_spec (ws := wsX0_formOf) B.pre
  have hown : s.vm.findClass RX0 = some m.cls := findClass_of_methodNamed B.named
  have hlocks := B.notSynchronized
  subst hsz
  have hS : va_S (fun q : Nat => s.heap.size ≤ q) s.heap s.heap [] := va_S.rf
  have hl := lv_entry ([.int p0]) (n := 2) (Nat.le_of_ble_eq_true rfl)
  rw [lg_entry_eq]
  generalize (lg_sl ([.int p0]) ++ List.replicate (2 - (lg_sl ([.int p0])).length) Slot.unset).toArray = ls at hl ⊢
  have hl : lv_has ls 2 [(0, .int p0)] := hl
  refine lv_iconst (v := 0) hx hb dX0_formOf_0 (by decide) ?_
  refine lv_istore_n (lv' := [(1, .int (0 : Int32)), (0, .int p0)]) hx hb dX0_formOf_1 rfl hl (by decide) rfl (fun ls hl => ?_)
  refine lv_iload_n hx hb dX0_formOf_2 rfl (lv_at hl 0 rfl) ?_
  refine lv_iconst (v := 1) hx hb dX0_formOf_3 (by decide) ?_
  refine lv_iadd hx hb dX0_formOf_4 ?_
  refine va_gets hx hb hww.1 hS hown (hts (.fieldLink RX0 66 "WordForms" "FORMS" "[I") (by decide +kernel)) (fun _ h => h) dX0_formOf_5 ?_
  refine va_tlen (v := 42) hx hb hww.2 hS (by decide) dX0_formOf_8 ?_
  refine lv_icmp_ge (tgt := 41) hx hb dX0_formOf_9 (by decide) (fun c => absurd c (by decide)) (fun _ => ?_)
  refine lv_iload_n hx hb dX0_formOf_12 rfl (lv_at hl 1 rfl) ?_
  refine va_gets hx hb hww.1 hS hown (hts (.fieldLink RX0 66 "WordForms" "FORMS" "[I") (by decide +kernel)) (fun _ h => h) dX0_formOf_13 ?_
  refine lv_iload_n hx hb dX0_formOf_16 rfl (lv_at hl 0 rfl) ?_
  refine va_ti (v := .int (528482304 : Int32)) hx hb hww.2 hS (show ¬ ((0 : Int32) < 0 ∨ 42 ≤ ((0 : Int32)).toNatClampNeg) from by decide) (congrArg Value.int (show fm_t.getD ((0 : Int32)).toNatClampNeg 0 = (528482304 : Int32) from by decide)) dX0_formOf_17 ?_
  refine lv_iand hx hb dX0_formOf_18 ?_
  refine va_gets hx hb hww.1 hS hown (hts (.fieldLink RX0 66 "WordForms" "FORMS" "[I") (by decide +kernel)) (fun _ h => h) dX0_formOf_19 ?_
  refine lv_iload_n hx hb dX0_formOf_22 rfl (lv_at hl 0 rfl) ?_
  refine lv_iconst (v := 1) hx hb dX0_formOf_23 (by decide) ?_
  refine lv_iadd hx hb dX0_formOf_24 ?_
  refine va_ti (v := .int (285212672 : Int32)) hx hb hww.2 hS (show ¬ (((0 : Int32) + (1 : Int32)) < 0 ∨ 42 ≤ (((0 : Int32) + (1 : Int32))).toNatClampNeg) from by decide) (congrArg Value.int (show fm_t.getD (((0 : Int32) + (1 : Int32))).toNatClampNeg 0 = (285212672 : Int32) from by decide)) dX0_formOf_25 ?_
  refine lv_icmp_ne (tgt := 35) hx hb dX0_formOf_26 (by decide) (fun c_1 => ?_) (fun c_1 => ?_)
  · -- taken
    refine lv_iinc (v := 2) (lv' := [(1, .int (2 : Int32)), (0, .int p0)]) hx hb dX0_formOf_35 hl (k := 0) rfl (by decide) (by decide) rfl (fun ls hl => ?_)
    refine lv_goto (tgt := 2) hx hb dX0_formOf_38 (by decide) ?_
    refine lv_iload_n hx hb dX0_formOf_2 rfl (lv_at hl 0 rfl) ?_
    refine lv_iconst (v := 1) hx hb dX0_formOf_3 (by decide) ?_
    refine lv_iadd hx hb dX0_formOf_4 ?_
    refine va_gets hx hb hww.1 hS hown (hts (.fieldLink RX0 66 "WordForms" "FORMS" "[I") (by decide +kernel)) (fun _ h => h) dX0_formOf_5 ?_
    refine va_tlen (v := 42) hx hb hww.2 hS (by decide) dX0_formOf_8 ?_
    refine lv_icmp_ge (tgt := 41) hx hb dX0_formOf_9 (by decide) (fun c => absurd c (by decide)) (fun _ => ?_)
    refine lv_iload_n hx hb dX0_formOf_12 rfl (lv_at hl 1 rfl) ?_
    refine va_gets hx hb hww.1 hS hown (hts (.fieldLink RX0 66 "WordForms" "FORMS" "[I") (by decide +kernel)) (fun _ h => h) dX0_formOf_13 ?_
    refine lv_iload_n hx hb dX0_formOf_16 rfl (lv_at hl 0 rfl) ?_
    refine va_ti (v := .int (522190848 : Int32)) hx hb hww.2 hS (show ¬ ((2 : Int32) < 0 ∨ 42 ≤ ((2 : Int32)).toNatClampNeg) from by decide) (congrArg Value.int (show fm_t.getD ((2 : Int32)).toNatClampNeg 0 = (522190848 : Int32) from by decide)) dX0_formOf_17 ?_
    refine lv_iand hx hb dX0_formOf_18 ?_
    refine va_gets hx hb hww.1 hS hown (hts (.fieldLink RX0 66 "WordForms" "FORMS" "[I") (by decide +kernel)) (fun _ h => h) dX0_formOf_19 ?_
    refine lv_iload_n hx hb dX0_formOf_22 rfl (lv_at hl 0 rfl) ?_
    refine lv_iconst (v := 1) hx hb dX0_formOf_23 (by decide) ?_
    refine lv_iadd hx hb dX0_formOf_24 ?_
    refine va_ti (v := .int (184549376 : Int32)) hx hb hww.2 hS (show ¬ (((2 : Int32) + (1 : Int32)) < 0 ∨ 42 ≤ (((2 : Int32) + (1 : Int32))).toNatClampNeg) from by decide) (congrArg Value.int (show fm_t.getD (((2 : Int32) + (1 : Int32))).toNatClampNeg 0 = (184549376 : Int32) from by decide)) dX0_formOf_25 ?_
    refine lv_icmp_ne (tgt := 35) hx hb dX0_formOf_26 (by decide) (fun c_2 => ?_) (fun c_2 => ?_)
    · -- taken
      refine lv_iinc (v := 4) (lv' := [(1, .int (4 : Int32)), (0, .int p0)]) hx hb dX0_formOf_35 hl (k := 0) rfl (by decide) (by decide) rfl (fun ls hl => ?_)
      refine lv_goto (tgt := 2) hx hb dX0_formOf_38 (by decide) ?_
      refine lv_iload_n hx hb dX0_formOf_2 rfl (lv_at hl 0 rfl) ?_
      refine lv_iconst (v := 1) hx hb dX0_formOf_3 (by decide) ?_
      refine lv_iadd hx hb dX0_formOf_4 ?_
      refine va_gets hx hb hww.1 hS hown (hts (.fieldLink RX0 66 "WordForms" "FORMS" "[I") (by decide +kernel)) (fun _ h => h) dX0_formOf_5 ?_
      refine va_tlen (v := 42) hx hb hww.2 hS (by decide) dX0_formOf_8 ?_
      refine lv_icmp_ge (tgt := 41) hx hb dX0_formOf_9 (by decide) (fun c => absurd c (by decide)) (fun _ => ?_)
      refine lv_iload_n hx hb dX0_formOf_12 rfl (lv_at hl 1 rfl) ?_
      refine va_gets hx hb hww.1 hS hown (hts (.fieldLink RX0 66 "WordForms" "FORMS" "[I") (by decide +kernel)) (fun _ h => h) dX0_formOf_13 ?_
      refine lv_iload_n hx hb dX0_formOf_16 rfl (lv_at hl 0 rfl) ?_
      refine va_ti (v := .int (520093696 : Int32)) hx hb hww.2 hS (show ¬ ((4 : Int32) < 0 ∨ 42 ≤ ((4 : Int32)).toNatClampNeg) from by decide) (congrArg Value.int (show fm_t.getD ((4 : Int32)).toNatClampNeg 0 = (520093696 : Int32) from by decide)) dX0_formOf_17 ?_
      refine lv_iand hx hb dX0_formOf_18 ?_
      refine va_gets hx hb hww.1 hS hown (hts (.fieldLink RX0 66 "WordForms" "FORMS" "[I") (by decide +kernel)) (fun _ h => h) dX0_formOf_19 ?_
      refine lv_iload_n hx hb dX0_formOf_22 rfl (lv_at hl 0 rfl) ?_
      refine lv_iconst (v := 1) hx hb dX0_formOf_23 (by decide) ?_
      refine lv_iadd hx hb dX0_formOf_24 ?_
      refine va_ti (v := .int (167772160 : Int32)) hx hb hww.2 hS (show ¬ (((4 : Int32) + (1 : Int32)) < 0 ∨ 42 ≤ (((4 : Int32) + (1 : Int32))).toNatClampNeg) from by decide) (congrArg Value.int (show fm_t.getD (((4 : Int32) + (1 : Int32))).toNatClampNeg 0 = (167772160 : Int32) from by decide)) dX0_formOf_25 ?_
      refine lv_icmp_ne (tgt := 35) hx hb dX0_formOf_26 (by decide) (fun c_3 => ?_) (fun c_3 => ?_)
      · -- taken
        refine lv_iinc (v := 6) (lv' := [(1, .int (6 : Int32)), (0, .int p0)]) hx hb dX0_formOf_35 hl (k := 0) rfl (by decide) (by decide) rfl (fun ls hl => ?_)
        refine lv_goto (tgt := 2) hx hb dX0_formOf_38 (by decide) ?_
        refine lv_iload_n hx hb dX0_formOf_2 rfl (lv_at hl 0 rfl) ?_
        refine lv_iconst (v := 1) hx hb dX0_formOf_3 (by decide) ?_
        refine lv_iadd hx hb dX0_formOf_4 ?_
        refine va_gets hx hb hww.1 hS hown (hts (.fieldLink RX0 66 "WordForms" "FORMS" "[I") (by decide +kernel)) (fun _ h => h) dX0_formOf_5 ?_
        refine va_tlen (v := 42) hx hb hww.2 hS (by decide) dX0_formOf_8 ?_
        refine lv_icmp_ge (tgt := 41) hx hb dX0_formOf_9 (by decide) (fun c => absurd c (by decide)) (fun _ => ?_)
        refine lv_iload_n hx hb dX0_formOf_12 rfl (lv_at hl 1 rfl) ?_
        refine va_gets hx hb hww.1 hS hown (hts (.fieldLink RX0 66 "WordForms" "FORMS" "[I") (by decide +kernel)) (fun _ h => h) dX0_formOf_13 ?_
        refine lv_iload_n hx hb dX0_formOf_16 rfl (lv_at hl 0 rfl) ?_
        refine va_ti (v := .int (528482304 : Int32)) hx hb hww.2 hS (show ¬ ((6 : Int32) < 0 ∨ 42 ≤ ((6 : Int32)).toNatClampNeg) from by decide) (congrArg Value.int (show fm_t.getD ((6 : Int32)).toNatClampNeg 0 = (528482304 : Int32) from by decide)) dX0_formOf_17 ?_
        refine lv_iand hx hb dX0_formOf_18 ?_
        refine va_gets hx hb hww.1 hS hown (hts (.fieldLink RX0 66 "WordForms" "FORMS" "[I") (by decide +kernel)) (fun _ h => h) dX0_formOf_19 ?_
        refine lv_iload_n hx hb dX0_formOf_22 rfl (lv_at hl 0 rfl) ?_
        refine lv_iconst (v := 1) hx hb dX0_formOf_23 (by decide) ?_
        refine lv_iadd hx hb dX0_formOf_24 ?_
        refine va_ti (v := .int (310378496 : Int32)) hx hb hww.2 hS (show ¬ (((6 : Int32) + (1 : Int32)) < 0 ∨ 42 ≤ (((6 : Int32) + (1 : Int32))).toNatClampNeg) from by decide) (congrArg Value.int (show fm_t.getD (((6 : Int32) + (1 : Int32))).toNatClampNeg 0 = (310378496 : Int32) from by decide)) dX0_formOf_25 ?_
        refine lv_icmp_ne (tgt := 35) hx hb dX0_formOf_26 (by decide) (fun c_4 => ?_) (fun c_4 => ?_)
        · -- taken
          refine lv_iinc (v := 8) (lv' := [(1, .int (8 : Int32)), (0, .int p0)]) hx hb dX0_formOf_35 hl (k := 0) rfl (by decide) (by decide) rfl (fun ls hl => ?_)
          refine lv_goto (tgt := 2) hx hb dX0_formOf_38 (by decide) ?_
          refine lv_iload_n hx hb dX0_formOf_2 rfl (lv_at hl 0 rfl) ?_
          refine lv_iconst (v := 1) hx hb dX0_formOf_3 (by decide) ?_
          refine lv_iadd hx hb dX0_formOf_4 ?_
          refine va_gets hx hb hww.1 hS hown (hts (.fieldLink RX0 66 "WordForms" "FORMS" "[I") (by decide +kernel)) (fun _ h => h) dX0_formOf_5 ?_
          refine va_tlen (v := 42) hx hb hww.2 hS (by decide) dX0_formOf_8 ?_
          refine lv_icmp_ge (tgt := 41) hx hb dX0_formOf_9 (by decide) (fun c => absurd c (by decide)) (fun _ => ?_)
          refine lv_iload_n hx hb dX0_formOf_12 rfl (lv_at hl 1 rfl) ?_
          refine va_gets hx hb hww.1 hS hown (hts (.fieldLink RX0 66 "WordForms" "FORMS" "[I") (by decide +kernel)) (fun _ h => h) dX0_formOf_13 ?_
          refine lv_iload_n hx hb dX0_formOf_16 rfl (lv_at hl 0 rfl) ?_
          refine va_ti (v := .int (-1627389952 : Int32)) hx hb hww.2 hS (show ¬ ((8 : Int32) < 0 ∨ 42 ≤ ((8 : Int32)).toNatClampNeg) from by decide) (congrArg Value.int (show fm_t.getD ((8 : Int32)).toNatClampNeg 0 = (-1627389952 : Int32) from by decide)) dX0_formOf_17 ?_
          refine lv_iand hx hb dX0_formOf_18 ?_
          refine va_gets hx hb hww.1 hS hown (hts (.fieldLink RX0 66 "WordForms" "FORMS" "[I") (by decide +kernel)) (fun _ h => h) dX0_formOf_19 ?_
          refine lv_iload_n hx hb dX0_formOf_22 rfl (lv_at hl 0 rfl) ?_
          refine lv_iconst (v := 1) hx hb dX0_formOf_23 (by decide) ?_
          refine lv_iadd hx hb dX0_formOf_24 ?_
          refine va_ti (v := .int (-1879048192 : Int32)) hx hb hww.2 hS (show ¬ (((8 : Int32) + (1 : Int32)) < 0 ∨ 42 ≤ (((8 : Int32) + (1 : Int32))).toNatClampNeg) from by decide) (congrArg Value.int (show fm_t.getD (((8 : Int32) + (1 : Int32))).toNatClampNeg 0 = (-1879048192 : Int32) from by decide)) dX0_formOf_25 ?_
          refine lv_icmp_ne (tgt := 35) hx hb dX0_formOf_26 (by decide) (fun c_5 => ?_) (fun c_5 => ?_)
          · -- taken
            refine lv_iinc (v := 10) (lv' := [(1, .int (10 : Int32)), (0, .int p0)]) hx hb dX0_formOf_35 hl (k := 0) rfl (by decide) (by decide) rfl (fun ls hl => ?_)
            refine lv_goto (tgt := 2) hx hb dX0_formOf_38 (by decide) ?_
            refine lv_iload_n hx hb dX0_formOf_2 rfl (lv_at hl 0 rfl) ?_
            refine lv_iconst (v := 1) hx hb dX0_formOf_3 (by decide) ?_
            refine lv_iadd hx hb dX0_formOf_4 ?_
            refine va_gets hx hb hww.1 hS hown (hts (.fieldLink RX0 66 "WordForms" "FORMS" "[I") (by decide +kernel)) (fun _ h => h) dX0_formOf_5 ?_
            refine va_tlen (v := 42) hx hb hww.2 hS (by decide) dX0_formOf_8 ?_
            refine lv_icmp_ge (tgt := 41) hx hb dX0_formOf_9 (by decide) (fun c => absurd c (by decide)) (fun _ => ?_)
            refine lv_iload_n hx hb dX0_formOf_12 rfl (lv_at hl 1 rfl) ?_
            refine va_gets hx hb hww.1 hS hown (hts (.fieldLink RX0 66 "WordForms" "FORMS" "[I") (by decide +kernel)) (fun _ h => h) dX0_formOf_13 ?_
            refine lv_iload_n hx hb dX0_formOf_16 rfl (lv_at hl 0 rfl) ?_
            refine va_ti (v := .int (2145386496 : Int32)) hx hb hww.2 hS (show ¬ ((10 : Int32) < 0 ∨ 42 ≤ ((10 : Int32)).toNatClampNeg) from by decide) (congrArg Value.int (show fm_t.getD ((10 : Int32)).toNatClampNeg 0 = (2145386496 : Int32) from by decide)) dX0_formOf_17 ?_
            refine lv_iand hx hb dX0_formOf_18 ?_
            refine va_gets hx hb hww.1 hS hown (hts (.fieldLink RX0 66 "WordForms" "FORMS" "[I") (by decide +kernel)) (fun _ h => h) dX0_formOf_19 ?_
            refine lv_iload_n hx hb dX0_formOf_22 rfl (lv_at hl 0 rfl) ?_
            refine lv_iconst (v := 1) hx hb dX0_formOf_23 (by decide) ?_
            refine lv_iadd hx hb dX0_formOf_24 ?_
            refine va_ti (v := .int (452984832 : Int32)) hx hb hww.2 hS (show ¬ (((10 : Int32) + (1 : Int32)) < 0 ∨ 42 ≤ (((10 : Int32) + (1 : Int32))).toNatClampNeg) from by decide) (congrArg Value.int (show fm_t.getD (((10 : Int32) + (1 : Int32))).toNatClampNeg 0 = (452984832 : Int32) from by decide)) dX0_formOf_25 ?_
            refine lv_icmp_ne (tgt := 35) hx hb dX0_formOf_26 (by decide) (fun c_6 => ?_) (fun c_6 => ?_)
            · -- taken
              refine lv_iinc (v := 12) (lv' := [(1, .int (12 : Int32)), (0, .int p0)]) hx hb dX0_formOf_35 hl (k := 0) rfl (by decide) (by decide) rfl (fun ls hl => ?_)
              refine lv_goto (tgt := 2) hx hb dX0_formOf_38 (by decide) ?_
              refine lv_iload_n hx hb dX0_formOf_2 rfl (lv_at hl 0 rfl) ?_
              refine lv_iconst (v := 1) hx hb dX0_formOf_3 (by decide) ?_
              refine lv_iadd hx hb dX0_formOf_4 ?_
              refine va_gets hx hb hww.1 hS hown (hts (.fieldLink RX0 66 "WordForms" "FORMS" "[I") (by decide +kernel)) (fun _ h => h) dX0_formOf_5 ?_
              refine va_tlen (v := 42) hx hb hww.2 hS (by decide) dX0_formOf_8 ?_
              refine lv_icmp_ge (tgt := 41) hx hb dX0_formOf_9 (by decide) (fun c => absurd c (by decide)) (fun _ => ?_)
              refine lv_iload_n hx hb dX0_formOf_12 rfl (lv_at hl 1 rfl) ?_
              refine va_gets hx hb hww.1 hS hown (hts (.fieldLink RX0 66 "WordForms" "FORMS" "[I") (by decide +kernel)) (fun _ h => h) dX0_formOf_13 ?_
              refine lv_iload_n hx hb dX0_formOf_16 rfl (lv_at hl 0 rfl) ?_
              refine va_ti (v := .int (2145386496 : Int32)) hx hb hww.2 hS (show ¬ ((12 : Int32) < 0 ∨ 42 ≤ ((12 : Int32)).toNatClampNeg) from by decide) (congrArg Value.int (show fm_t.getD ((12 : Int32)).toNatClampNeg 0 = (2145386496 : Int32) from by decide)) dX0_formOf_17 ?_
              refine lv_iand hx hb dX0_formOf_18 ?_
              refine va_gets hx hb hww.1 hS hown (hts (.fieldLink RX0 66 "WordForms" "FORMS" "[I") (by decide +kernel)) (fun _ h => h) dX0_formOf_19 ?_
              refine lv_iload_n hx hb dX0_formOf_22 rfl (lv_at hl 0 rfl) ?_
              refine lv_iconst (v := 1) hx hb dX0_formOf_23 (by decide) ?_
              refine lv_iadd hx hb dX0_formOf_24 ?_
              refine va_ti (v := .int (448790528 : Int32)) hx hb hww.2 hS (show ¬ (((12 : Int32) + (1 : Int32)) < 0 ∨ 42 ≤ (((12 : Int32) + (1 : Int32))).toNatClampNeg) from by decide) (congrArg Value.int (show fm_t.getD (((12 : Int32) + (1 : Int32))).toNatClampNeg 0 = (448790528 : Int32) from by decide)) dX0_formOf_25 ?_
              refine lv_icmp_ne (tgt := 35) hx hb dX0_formOf_26 (by decide) (fun c_7 => ?_) (fun c_7 => ?_)
              · -- taken
                refine lv_iinc (v := 14) (lv' := [(1, .int (14 : Int32)), (0, .int p0)]) hx hb dX0_formOf_35 hl (k := 0) rfl (by decide) (by decide) rfl (fun ls hl => ?_)
                refine lv_goto (tgt := 2) hx hb dX0_formOf_38 (by decide) ?_
                refine lv_iload_n hx hb dX0_formOf_2 rfl (lv_at hl 0 rfl) ?_
                refine lv_iconst (v := 1) hx hb dX0_formOf_3 (by decide) ?_
                refine lv_iadd hx hb dX0_formOf_4 ?_
                refine va_gets hx hb hww.1 hS hown (hts (.fieldLink RX0 66 "WordForms" "FORMS" "[I") (by decide +kernel)) (fun _ h => h) dX0_formOf_5 ?_
                refine va_tlen (v := 42) hx hb hww.2 hS (by decide) dX0_formOf_8 ?_
                refine lv_icmp_ge (tgt := 41) hx hb dX0_formOf_9 (by decide) (fun c => absurd c (by decide)) (fun _ => ?_)
                refine lv_iload_n hx hb dX0_formOf_12 rfl (lv_at hl 1 rfl) ?_
                refine va_gets hx hb hww.1 hS hown (hts (.fieldLink RX0 66 "WordForms" "FORMS" "[I") (by decide +kernel)) (fun _ h => h) dX0_formOf_13 ?_
                refine lv_iload_n hx hb dX0_formOf_16 rfl (lv_at hl 0 rfl) ?_
                refine va_ti (v := .int (2145388544 : Int32)) hx hb hww.2 hS (show ¬ ((14 : Int32) < 0 ∨ 42 ≤ ((14 : Int32)).toNatClampNeg) from by decide) (congrArg Value.int (show fm_t.getD ((14 : Int32)).toNatClampNeg 0 = (2145388544 : Int32) from by decide)) dX0_formOf_17 ?_
                refine lv_iand hx hb dX0_formOf_18 ?_
                refine va_gets hx hb hww.1 hS hown (hts (.fieldLink RX0 66 "WordForms" "FORMS" "[I") (by decide +kernel)) (fun _ h => h) dX0_formOf_19 ?_
                refine lv_iload_n hx hb dX0_formOf_22 rfl (lv_at hl 0 rfl) ?_
                refine lv_iconst (v := 1) hx hb dX0_formOf_23 (by decide) ?_
                refine lv_iadd hx hb dX0_formOf_24 ?_
                refine va_ti (v := .int (444596224 : Int32)) hx hb hww.2 hS (show ¬ (((14 : Int32) + (1 : Int32)) < 0 ∨ 42 ≤ (((14 : Int32) + (1 : Int32))).toNatClampNeg) from by decide) (congrArg Value.int (show fm_t.getD (((14 : Int32) + (1 : Int32))).toNatClampNeg 0 = (444596224 : Int32) from by decide)) dX0_formOf_25 ?_
                refine lv_icmp_ne (tgt := 35) hx hb dX0_formOf_26 (by decide) (fun c_8 => ?_) (fun c_8 => ?_)
                · -- taken
                  refine lv_iinc (v := 16) (lv' := [(1, .int (16 : Int32)), (0, .int p0)]) hx hb dX0_formOf_35 hl (k := 0) rfl (by decide) (by decide) rfl (fun ls hl => ?_)
                  refine lv_goto (tgt := 2) hx hb dX0_formOf_38 (by decide) ?_
                  refine lv_iload_n hx hb dX0_formOf_2 rfl (lv_at hl 0 rfl) ?_
                  refine lv_iconst (v := 1) hx hb dX0_formOf_3 (by decide) ?_
                  refine lv_iadd hx hb dX0_formOf_4 ?_
                  refine va_gets hx hb hww.1 hS hown (hts (.fieldLink RX0 66 "WordForms" "FORMS" "[I") (by decide +kernel)) (fun _ h => h) dX0_formOf_5 ?_
                  refine va_tlen (v := 42) hx hb hww.2 hS (by decide) dX0_formOf_8 ?_
                  refine lv_icmp_ge (tgt := 41) hx hb dX0_formOf_9 (by decide) (fun c => absurd c (by decide)) (fun _ => ?_)
                  refine lv_iload_n hx hb dX0_formOf_12 rfl (lv_at hl 1 rfl) ?_
                  refine va_gets hx hb hww.1 hS hown (hts (.fieldLink RX0 66 "WordForms" "FORMS" "[I") (by decide +kernel)) (fun _ h => h) dX0_formOf_13 ?_
                  refine lv_iload_n hx hb dX0_formOf_16 rfl (lv_at hl 0 rfl) ?_
                  refine va_ti (v := .int (1056964608 : Int32)) hx hb hww.2 hS (show ¬ ((16 : Int32) < 0 ∨ 42 ≤ ((16 : Int32)).toNatClampNeg) from by decide) (congrArg Value.int (show fm_t.getD ((16 : Int32)).toNatClampNeg 0 = (1056964608 : Int32) from by decide)) dX0_formOf_17 ?_
                  refine lv_iand hx hb dX0_formOf_18 ?_
                  refine va_gets hx hb hww.1 hS hown (hts (.fieldLink RX0 66 "WordForms" "FORMS" "[I") (by decide +kernel)) (fun _ h => h) dX0_formOf_19 ?_
                  refine lv_iload_n hx hb dX0_formOf_22 rfl (lv_at hl 0 rfl) ?_
                  refine lv_iconst (v := 1) hx hb dX0_formOf_23 (by decide) ?_
                  refine lv_iadd hx hb dX0_formOf_24 ?_
                  refine va_ti (v := .int (956301312 : Int32)) hx hb hww.2 hS (show ¬ (((16 : Int32) + (1 : Int32)) < 0 ∨ 42 ≤ (((16 : Int32) + (1 : Int32))).toNatClampNeg) from by decide) (congrArg Value.int (show fm_t.getD (((16 : Int32) + (1 : Int32))).toNatClampNeg 0 = (956301312 : Int32) from by decide)) dX0_formOf_25 ?_
                  refine lv_icmp_ne (tgt := 35) hx hb dX0_formOf_26 (by decide) (fun c_9 => ?_) (fun c_9 => ?_)
                  · -- taken
                    refine lv_iinc (v := 18) (lv' := [(1, .int (18 : Int32)), (0, .int p0)]) hx hb dX0_formOf_35 hl (k := 0) rfl (by decide) (by decide) rfl (fun ls hl => ?_)
                    refine lv_goto (tgt := 2) hx hb dX0_formOf_38 (by decide) ?_
                    refine lv_iload_n hx hb dX0_formOf_2 rfl (lv_at hl 0 rfl) ?_
                    refine lv_iconst (v := 1) hx hb dX0_formOf_3 (by decide) ?_
                    refine lv_iadd hx hb dX0_formOf_4 ?_
                    refine va_gets hx hb hww.1 hS hown (hts (.fieldLink RX0 66 "WordForms" "FORMS" "[I") (by decide +kernel)) (fun _ h => h) dX0_formOf_5 ?_
                    refine va_tlen (v := 42) hx hb hww.2 hS (by decide) dX0_formOf_8 ?_
                    refine lv_icmp_ge (tgt := 41) hx hb dX0_formOf_9 (by decide) (fun c => absurd c (by decide)) (fun _ => ?_)
                    refine lv_iload_n hx hb dX0_formOf_12 rfl (lv_at hl 1 rfl) ?_
                    refine va_gets hx hb hww.1 hS hown (hts (.fieldLink RX0 66 "WordForms" "FORMS" "[I") (by decide +kernel)) (fun _ h => h) dX0_formOf_13 ?_
                    refine lv_iload_n hx hb dX0_formOf_16 rfl (lv_at hl 0 rfl) ?_
                    refine va_ti (v := .int (1059122176 : Int32)) hx hb hww.2 hS (show ¬ ((18 : Int32) < 0 ∨ 42 ≤ ((18 : Int32)).toNatClampNeg) from by decide) (congrArg Value.int (show fm_t.getD ((18 : Int32)).toNatClampNeg 0 = (1059122176 : Int32) from by decide)) dX0_formOf_17 ?_
                    refine lv_iand hx hb dX0_formOf_18 ?_
                    refine va_gets hx hb hww.1 hS hown (hts (.fieldLink RX0 66 "WordForms" "FORMS" "[I") (by decide +kernel)) (fun _ h => h) dX0_formOf_19 ?_
                    refine lv_iload_n hx hb dX0_formOf_22 rfl (lv_at hl 0 rfl) ?_
                    refine lv_iconst (v := 1) hx hb dX0_formOf_23 (by decide) ?_
                    refine lv_iadd hx hb dX0_formOf_24 ?_
                    refine va_ti (v := .int (941647872 : Int32)) hx hb hww.2 hS (show ¬ (((18 : Int32) + (1 : Int32)) < 0 ∨ 42 ≤ (((18 : Int32) + (1 : Int32))).toNatClampNeg) from by decide) (congrArg Value.int (show fm_t.getD (((18 : Int32) + (1 : Int32))).toNatClampNeg 0 = (941647872 : Int32) from by decide)) dX0_formOf_25 ?_
                    refine lv_icmp_ne (tgt := 35) hx hb dX0_formOf_26 (by decide) (fun c_10 => ?_) (fun c_10 => ?_)
                    · -- taken
                      refine lv_iinc (v := 20) (lv' := [(1, .int (20 : Int32)), (0, .int p0)]) hx hb dX0_formOf_35 hl (k := 0) rfl (by decide) (by decide) rfl (fun ls hl => ?_)
                      refine lv_goto (tgt := 2) hx hb dX0_formOf_38 (by decide) ?_
                      refine lv_iload_n hx hb dX0_formOf_2 rfl (lv_at hl 0 rfl) ?_
                      refine lv_iconst (v := 1) hx hb dX0_formOf_3 (by decide) ?_
                      refine lv_iadd hx hb dX0_formOf_4 ?_
                      refine va_gets hx hb hww.1 hS hown (hts (.fieldLink RX0 66 "WordForms" "FORMS" "[I") (by decide +kernel)) (fun _ h => h) dX0_formOf_5 ?_
                      refine va_tlen (v := 42) hx hb hww.2 hS (by decide) dX0_formOf_8 ?_
                      refine lv_icmp_ge (tgt := 41) hx hb dX0_formOf_9 (by decide) (fun c => absurd c (by decide)) (fun _ => ?_)
                      refine lv_iload_n hx hb dX0_formOf_12 rfl (lv_at hl 1 rfl) ?_
                      refine va_gets hx hb hww.1 hS hown (hts (.fieldLink RX0 66 "WordForms" "FORMS" "[I") (by decide +kernel)) (fun _ h => h) dX0_formOf_13 ?_
                      refine lv_iload_n hx hb dX0_formOf_16 rfl (lv_at hl 0 rfl) ?_
                      refine va_ti (v := .int (-33554432 : Int32)) hx hb hww.2 hS (show ¬ ((20 : Int32) < 0 ∨ 42 ≤ ((20 : Int32)).toNatClampNeg) from by decide) (congrArg Value.int (show fm_t.getD ((20 : Int32)).toNatClampNeg 0 = (-33554432 : Int32) from by decide)) dX0_formOf_17 ?_
                      refine lv_iand hx hb dX0_formOf_18 ?_
                      refine va_gets hx hb hww.1 hS hown (hts (.fieldLink RX0 66 "WordForms" "FORMS" "[I") (by decide +kernel)) (fun _ h => h) dX0_formOf_19 ?_
                      refine lv_iload_n hx hb dX0_formOf_22 rfl (lv_at hl 0 rfl) ?_
                      refine lv_iconst (v := 1) hx hb dX0_formOf_23 (by decide) ?_
                      refine lv_iadd hx hb dX0_formOf_24 ?_
                      refine va_ti (v := .int (-1476395008 : Int32)) hx hb hww.2 hS (show ¬ (((20 : Int32) + (1 : Int32)) < 0 ∨ 42 ≤ (((20 : Int32) + (1 : Int32))).toNatClampNeg) from by decide) (congrArg Value.int (show fm_t.getD (((20 : Int32) + (1 : Int32))).toNatClampNeg 0 = (-1476395008 : Int32) from by decide)) dX0_formOf_25 ?_
                      refine lv_icmp_ne (tgt := 35) hx hb dX0_formOf_26 (by decide) (fun c_11 => ?_) (fun c_11 => ?_)
                      · -- taken
                        refine lv_iinc (v := 22) (lv' := [(1, .int (22 : Int32)), (0, .int p0)]) hx hb dX0_formOf_35 hl (k := 0) rfl (by decide) (by decide) rfl (fun ls hl => ?_)
                        refine lv_goto (tgt := 2) hx hb dX0_formOf_38 (by decide) ?_
                        refine lv_iload_n hx hb dX0_formOf_2 rfl (lv_at hl 0 rfl) ?_
                        refine lv_iconst (v := 1) hx hb dX0_formOf_3 (by decide) ?_
                        refine lv_iadd hx hb dX0_formOf_4 ?_
                        refine va_gets hx hb hww.1 hS hown (hts (.fieldLink RX0 66 "WordForms" "FORMS" "[I") (by decide +kernel)) (fun _ h => h) dX0_formOf_5 ?_
                        refine va_tlen (v := 42) hx hb hww.2 hS (by decide) dX0_formOf_8 ?_
                        refine lv_icmp_ge (tgt := 41) hx hb dX0_formOf_9 (by decide) (fun c => absurd c (by decide)) (fun _ => ?_)
                        refine lv_iload_n hx hb dX0_formOf_12 rfl (lv_at hl 1 rfl) ?_
                        refine va_gets hx hb hww.1 hS hown (hts (.fieldLink RX0 66 "WordForms" "FORMS" "[I") (by decide +kernel)) (fun _ h => h) dX0_formOf_13 ?_
                        refine lv_iload_n hx hb dX0_formOf_16 rfl (lv_at hl 0 rfl) ?_
                        refine va_ti (v := .int (-67108864 : Int32)) hx hb hww.2 hS (show ¬ ((22 : Int32) < 0 ∨ 42 ≤ ((22 : Int32)).toNatClampNeg) from by decide) (congrArg Value.int (show fm_t.getD ((22 : Int32)).toNatClampNeg 0 = (-67108864 : Int32) from by decide)) dX0_formOf_17 ?_
                        refine lv_iand hx hb dX0_formOf_18 ?_
                        refine va_gets hx hb hww.1 hS hown (hts (.fieldLink RX0 66 "WordForms" "FORMS" "[I") (by decide +kernel)) (fun _ h => h) dX0_formOf_19 ?_
                        refine lv_iload_n hx hb dX0_formOf_22 rfl (lv_at hl 0 rfl) ?_
                        refine lv_iconst (v := 1) hx hb dX0_formOf_23 (by decide) ?_
                        refine lv_iadd hx hb dX0_formOf_24 ?_
                        refine va_ti (v := .int (335544320 : Int32)) hx hb hww.2 hS (show ¬ (((22 : Int32) + (1 : Int32)) < 0 ∨ 42 ≤ (((22 : Int32) + (1 : Int32))).toNatClampNeg) from by decide) (congrArg Value.int (show fm_t.getD (((22 : Int32) + (1 : Int32))).toNatClampNeg 0 = (335544320 : Int32) from by decide)) dX0_formOf_25 ?_
                        refine lv_icmp_ne (tgt := 35) hx hb dX0_formOf_26 (by decide) (fun c_12 => ?_) (fun c_12 => ?_)
                        · -- taken
                          refine lv_iinc (v := 24) (lv' := [(1, .int (24 : Int32)), (0, .int p0)]) hx hb dX0_formOf_35 hl (k := 0) rfl (by decide) (by decide) rfl (fun ls hl => ?_)
                          refine lv_goto (tgt := 2) hx hb dX0_formOf_38 (by decide) ?_
                          refine lv_iload_n hx hb dX0_formOf_2 rfl (lv_at hl 0 rfl) ?_
                          refine lv_iconst (v := 1) hx hb dX0_formOf_3 (by decide) ?_
                          refine lv_iadd hx hb dX0_formOf_4 ?_
                          refine va_gets hx hb hww.1 hS hown (hts (.fieldLink RX0 66 "WordForms" "FORMS" "[I") (by decide +kernel)) (fun _ h => h) dX0_formOf_5 ?_
                          refine va_tlen (v := 42) hx hb hww.2 hS (by decide) dX0_formOf_8 ?_
                          refine lv_icmp_ge (tgt := 41) hx hb dX0_formOf_9 (by decide) (fun c => absurd c (by decide)) (fun _ => ?_)
                          refine lv_iload_n hx hb dX0_formOf_12 rfl (lv_at hl 1 rfl) ?_
                          refine va_gets hx hb hww.1 hS hown (hts (.fieldLink RX0 66 "WordForms" "FORMS" "[I") (by decide +kernel)) (fun _ h => h) dX0_formOf_13 ?_
                          refine lv_iload_n hx hb dX0_formOf_16 rfl (lv_at hl 0 rfl) ?_
                          refine va_ti (v := .int (-67108864 : Int32)) hx hb hww.2 hS (show ¬ ((24 : Int32) < 0 ∨ 42 ≤ ((24 : Int32)).toNatClampNeg) from by decide) (congrArg Value.int (show fm_t.getD ((24 : Int32)).toNatClampNeg 0 = (-67108864 : Int32) from by decide)) dX0_formOf_17 ?_
                          refine lv_iand hx hb dX0_formOf_18 ?_
                          refine va_gets hx hb hww.1 hS hown (hts (.fieldLink RX0 66 "WordForms" "FORMS" "[I") (by decide +kernel)) (fun _ h => h) dX0_formOf_19 ?_
                          refine lv_iload_n hx hb dX0_formOf_22 rfl (lv_at hl 0 rfl) ?_
                          refine lv_iconst (v := 1) hx hb dX0_formOf_23 (by decide) ?_
                          refine lv_iadd hx hb dX0_formOf_24 ?_
                          refine va_ti (v := .int (-1811939328 : Int32)) hx hb hww.2 hS (show ¬ (((24 : Int32) + (1 : Int32)) < 0 ∨ 42 ≤ (((24 : Int32) + (1 : Int32))).toNatClampNeg) from by decide) (congrArg Value.int (show fm_t.getD (((24 : Int32) + (1 : Int32))).toNatClampNeg 0 = (-1811939328 : Int32) from by decide)) dX0_formOf_25 ?_
                          refine lv_icmp_ne (tgt := 35) hx hb dX0_formOf_26 (by decide) (fun c_13 => ?_) (fun c_13 => ?_)
                          · -- taken
                            refine lv_iinc (v := 26) (lv' := [(1, .int (26 : Int32)), (0, .int p0)]) hx hb dX0_formOf_35 hl (k := 0) rfl (by decide) (by decide) rfl (fun ls hl => ?_)
                            refine lv_goto (tgt := 2) hx hb dX0_formOf_38 (by decide) ?_
                            refine lv_iload_n hx hb dX0_formOf_2 rfl (lv_at hl 0 rfl) ?_
                            refine lv_iconst (v := 1) hx hb dX0_formOf_3 (by decide) ?_
                            refine lv_iadd hx hb dX0_formOf_4 ?_
                            refine va_gets hx hb hww.1 hS hown (hts (.fieldLink RX0 66 "WordForms" "FORMS" "[I") (by decide +kernel)) (fun _ h => h) dX0_formOf_5 ?_
                            refine va_tlen (v := 42) hx hb hww.2 hS (by decide) dX0_formOf_8 ?_
                            refine lv_icmp_ge (tgt := 41) hx hb dX0_formOf_9 (by decide) (fun c => absurd c (by decide)) (fun _ => ?_)
                            refine lv_iload_n hx hb dX0_formOf_12 rfl (lv_at hl 1 rfl) ?_
                            refine va_gets hx hb hww.1 hS hown (hts (.fieldLink RX0 66 "WordForms" "FORMS" "[I") (by decide +kernel)) (fun _ h => h) dX0_formOf_13 ?_
                            refine lv_iload_n hx hb dX0_formOf_16 rfl (lv_at hl 0 rfl) ?_
                            refine va_ti (v := .int (-16777200 : Int32)) hx hb hww.2 hS (show ¬ ((26 : Int32) < 0 ∨ 42 ≤ ((26 : Int32)).toNatClampNeg) from by decide) (congrArg Value.int (show fm_t.getD ((26 : Int32)).toNatClampNeg 0 = (-16777200 : Int32) from by decide)) dX0_formOf_17 ?_
                            refine lv_iand hx hb dX0_formOf_18 ?_
                            refine va_gets hx hb hww.1 hS hown (hts (.fieldLink RX0 66 "WordForms" "FORMS" "[I") (by decide +kernel)) (fun _ h => h) dX0_formOf_19 ?_
                            refine lv_iload_n hx hb dX0_formOf_22 rfl (lv_at hl 0 rfl) ?_
                            refine lv_iconst (v := 1) hx hb dX0_formOf_23 (by decide) ?_
                            refine lv_iadd hx hb dX0_formOf_24 ?_
                            refine va_ti (v := .int (1409286144 : Int32)) hx hb hww.2 hS (show ¬ (((26 : Int32) + (1 : Int32)) < 0 ∨ 42 ≤ (((26 : Int32) + (1 : Int32))).toNatClampNeg) from by decide) (congrArg Value.int (show fm_t.getD (((26 : Int32) + (1 : Int32))).toNatClampNeg 0 = (1409286144 : Int32) from by decide)) dX0_formOf_25 ?_
                            refine lv_icmp_ne (tgt := 35) hx hb dX0_formOf_26 (by decide) (fun c_14 => ?_) (fun c_14 => ?_)
                            · -- taken
                              refine lv_iinc (v := 28) (lv' := [(1, .int (28 : Int32)), (0, .int p0)]) hx hb dX0_formOf_35 hl (k := 0) rfl (by decide) (by decide) rfl (fun ls hl => ?_)
                              refine lv_goto (tgt := 2) hx hb dX0_formOf_38 (by decide) ?_
                              refine lv_iload_n hx hb dX0_formOf_2 rfl (lv_at hl 0 rfl) ?_
                              refine lv_iconst (v := 1) hx hb dX0_formOf_3 (by decide) ?_
                              refine lv_iadd hx hb dX0_formOf_4 ?_
                              refine va_gets hx hb hww.1 hS hown (hts (.fieldLink RX0 66 "WordForms" "FORMS" "[I") (by decide +kernel)) (fun _ h => h) dX0_formOf_5 ?_
                              refine va_tlen (v := 42) hx hb hww.2 hS (by decide) dX0_formOf_8 ?_
                              refine lv_icmp_ge (tgt := 41) hx hb dX0_formOf_9 (by decide) (fun c => absurd c (by decide)) (fun _ => ?_)
                              refine lv_iload_n hx hb dX0_formOf_12 rfl (lv_at hl 1 rfl) ?_
                              refine va_gets hx hb hww.1 hS hown (hts (.fieldLink RX0 66 "WordForms" "FORMS" "[I") (by decide +kernel)) (fun _ h => h) dX0_formOf_13 ?_
                              refine lv_iload_n hx hb dX0_formOf_16 rfl (lv_at hl 0 rfl) ?_
                              refine va_ti (v := .int (2113929216 : Int32)) hx hb hww.2 hS (show ¬ ((28 : Int32) < 0 ∨ 42 ≤ ((28 : Int32)).toNatClampNeg) from by decide) (congrArg Value.int (show fm_t.getD ((28 : Int32)).toNatClampNeg 0 = (2113929216 : Int32) from by decide)) dX0_formOf_17 ?_
                              refine lv_iand hx hb dX0_formOf_18 ?_
                              refine va_gets hx hb hww.1 hS hown (hts (.fieldLink RX0 66 "WordForms" "FORMS" "[I") (by decide +kernel)) (fun _ h => h) dX0_formOf_19 ?_
                              refine lv_iload_n hx hb dX0_formOf_22 rfl (lv_at hl 0 rfl) ?_
                              refine lv_iconst (v := 1) hx hb dX0_formOf_23 (by decide) ?_
                              refine lv_iadd hx hb dX0_formOf_24 ?_
                              refine va_ti (v := .int (872415232 : Int32)) hx hb hww.2 hS (show ¬ (((28 : Int32) + (1 : Int32)) < 0 ∨ 42 ≤ (((28 : Int32) + (1 : Int32))).toNatClampNeg) from by decide) (congrArg Value.int (show fm_t.getD (((28 : Int32) + (1 : Int32))).toNatClampNeg 0 = (872415232 : Int32) from by decide)) dX0_formOf_25 ?_
                              refine lv_icmp_ne (tgt := 35) hx hb dX0_formOf_26 (by decide) (fun c_15 => ?_) (fun c_15 => ?_)
                              · -- taken
                                refine lv_iinc (v := 30) (lv' := [(1, .int (30 : Int32)), (0, .int p0)]) hx hb dX0_formOf_35 hl (k := 0) rfl (by decide) (by decide) rfl (fun ls hl => ?_)
                                refine lv_goto (tgt := 2) hx hb dX0_formOf_38 (by decide) ?_
                                refine lv_iload_n hx hb dX0_formOf_2 rfl (lv_at hl 0 rfl) ?_
                                refine lv_iconst (v := 1) hx hb dX0_formOf_3 (by decide) ?_
                                refine lv_iadd hx hb dX0_formOf_4 ?_
                                refine va_gets hx hb hww.1 hS hown (hts (.fieldLink RX0 66 "WordForms" "FORMS" "[I") (by decide +kernel)) (fun _ h => h) dX0_formOf_5 ?_
                                refine va_tlen (v := 42) hx hb hww.2 hS (by decide) dX0_formOf_8 ?_
                                refine lv_icmp_ge (tgt := 41) hx hb dX0_formOf_9 (by decide) (fun c => absurd c (by decide)) (fun _ => ?_)
                                refine lv_iload_n hx hb dX0_formOf_12 rfl (lv_at hl 1 rfl) ?_
                                refine va_gets hx hb hww.1 hS hown (hts (.fieldLink RX0 66 "WordForms" "FORMS" "[I") (by decide +kernel)) (fun _ h => h) dX0_formOf_13 ?_
                                refine lv_iload_n hx hb dX0_formOf_16 rfl (lv_at hl 0 rfl) ?_
                                refine va_ti (v := .int (2113929216 : Int32)) hx hb hww.2 hS (show ¬ ((30 : Int32) < 0 ∨ 42 ≤ ((30 : Int32)).toNatClampNeg) from by decide) (congrArg Value.int (show fm_t.getD ((30 : Int32)).toNatClampNeg 0 = (2113929216 : Int32) from by decide)) dX0_formOf_17 ?_
                                refine lv_iand hx hb dX0_formOf_18 ?_
                                refine va_gets hx hb hww.1 hS hown (hts (.fieldLink RX0 66 "WordForms" "FORMS" "[I") (by decide +kernel)) (fun _ h => h) dX0_formOf_19 ?_
                                refine lv_iload_n hx hb dX0_formOf_22 rfl (lv_at hl 0 rfl) ?_
                                refine lv_iconst (v := 1) hx hb dX0_formOf_23 (by decide) ?_
                                refine lv_iadd hx hb dX0_formOf_24 ?_
                                refine va_ti (v := .int (905969664 : Int32)) hx hb hww.2 hS (show ¬ (((30 : Int32) + (1 : Int32)) < 0 ∨ 42 ≤ (((30 : Int32) + (1 : Int32))).toNatClampNeg) from by decide) (congrArg Value.int (show fm_t.getD (((30 : Int32) + (1 : Int32))).toNatClampNeg 0 = (905969664 : Int32) from by decide)) dX0_formOf_25 ?_
                                refine lv_icmp_ne (tgt := 35) hx hb dX0_formOf_26 (by decide) (fun c_16 => ?_) (fun c_16 => ?_)
                                · -- taken
                                  refine lv_iinc (v := 32) (lv' := [(1, .int (32 : Int32)), (0, .int p0)]) hx hb dX0_formOf_35 hl (k := 0) rfl (by decide) (by decide) rfl (fun ls hl => ?_)
                                  refine lv_goto (tgt := 2) hx hb dX0_formOf_38 (by decide) ?_
                                  refine lv_iload_n hx hb dX0_formOf_2 rfl (lv_at hl 0 rfl) ?_
                                  refine lv_iconst (v := 1) hx hb dX0_formOf_3 (by decide) ?_
                                  refine lv_iadd hx hb dX0_formOf_4 ?_
                                  refine va_gets hx hb hww.1 hS hown (hts (.fieldLink RX0 66 "WordForms" "FORMS" "[I") (by decide +kernel)) (fun _ h => h) dX0_formOf_5 ?_
                                  refine va_tlen (v := 42) hx hb hww.2 hS (by decide) dX0_formOf_8 ?_
                                  refine lv_icmp_ge (tgt := 41) hx hb dX0_formOf_9 (by decide) (fun c => absurd c (by decide)) (fun _ => ?_)
                                  refine lv_iload_n hx hb dX0_formOf_12 rfl (lv_at hl 1 rfl) ?_
                                  refine va_gets hx hb hww.1 hS hown (hts (.fieldLink RX0 66 "WordForms" "FORMS" "[I") (by decide +kernel)) (fun _ h => h) dX0_formOf_13 ?_
                                  refine lv_iload_n hx hb dX0_formOf_16 rfl (lv_at hl 0 rfl) ?_
                                  refine va_ti (v := .int (-993 : Int32)) hx hb hww.2 hS (show ¬ ((32 : Int32) < 0 ∨ 42 ≤ ((32 : Int32)).toNatClampNeg) from by decide) (congrArg Value.int (show fm_t.getD ((32 : Int32)).toNatClampNeg 0 = (-993 : Int32) from by decide)) dX0_formOf_17 ?_
                                  refine lv_iand hx hb dX0_formOf_18 ?_
                                  refine va_gets hx hb hww.1 hS hown (hts (.fieldLink RX0 66 "WordForms" "FORMS" "[I") (by decide +kernel)) (fun _ h => h) dX0_formOf_19 ?_
                                  refine lv_iload_n hx hb dX0_formOf_22 rfl (lv_at hl 0 rfl) ?_
                                  refine lv_iconst (v := 1) hx hb dX0_formOf_23 (by decide) ?_
                                  refine lv_iadd hx hb dX0_formOf_24 ?_
                                  refine va_ti (v := .int (-702611456 : Int32)) hx hb hww.2 hS (show ¬ (((32 : Int32) + (1 : Int32)) < 0 ∨ 42 ≤ (((32 : Int32) + (1 : Int32))).toNatClampNeg) from by decide) (congrArg Value.int (show fm_t.getD (((32 : Int32) + (1 : Int32))).toNatClampNeg 0 = (-702611456 : Int32) from by decide)) dX0_formOf_25 ?_
                                  refine lv_icmp_ne (tgt := 35) hx hb dX0_formOf_26 (by decide) (fun c_17 => ?_) (fun c_17 => ?_)
                                  · -- taken
                                    refine lv_iinc (v := 34) (lv' := [(1, .int (34 : Int32)), (0, .int p0)]) hx hb dX0_formOf_35 hl (k := 0) rfl (by decide) (by decide) rfl (fun ls hl => ?_)
                                    refine lv_goto (tgt := 2) hx hb dX0_formOf_38 (by decide) ?_
                                    refine lv_iload_n hx hb dX0_formOf_2 rfl (lv_at hl 0 rfl) ?_
                                    refine lv_iconst (v := 1) hx hb dX0_formOf_3 (by decide) ?_
                                    refine lv_iadd hx hb dX0_formOf_4 ?_
                                    refine va_gets hx hb hww.1 hS hown (hts (.fieldLink RX0 66 "WordForms" "FORMS" "[I") (by decide +kernel)) (fun _ h => h) dX0_formOf_5 ?_
                                    refine va_tlen (v := 42) hx hb hww.2 hS (by decide) dX0_formOf_8 ?_
                                    refine lv_icmp_ge (tgt := 41) hx hb dX0_formOf_9 (by decide) (fun c => absurd c (by decide)) (fun _ => ?_)
                                    refine lv_iload_n hx hb dX0_formOf_12 rfl (lv_at hl 1 rfl) ?_
                                    refine va_gets hx hb hww.1 hS hown (hts (.fieldLink RX0 66 "WordForms" "FORMS" "[I") (by decide +kernel)) (fun _ h => h) dX0_formOf_13 ?_
                                    refine lv_iload_n hx hb dX0_formOf_16 rfl (lv_at hl 0 rfl) ?_
                                    refine va_ti (v := .int (-993 : Int32)) hx hb hww.2 hS (show ¬ ((34 : Int32) < 0 ∨ 42 ≤ ((34 : Int32)).toNatClampNeg) from by decide) (congrArg Value.int (show fm_t.getD ((34 : Int32)).toNatClampNeg 0 = (-993 : Int32) from by decide)) dX0_formOf_17 ?_
                                    refine lv_iand hx hb dX0_formOf_18 ?_
                                    refine va_gets hx hb hww.1 hS hown (hts (.fieldLink RX0 66 "WordForms" "FORMS" "[I") (by decide +kernel)) (fun _ h => h) dX0_formOf_19 ?_
                                    refine lv_iload_n hx hb dX0_formOf_22 rfl (lv_at hl 0 rfl) ?_
                                    refine lv_iconst (v := 1) hx hb dX0_formOf_23 (by decide) ?_
                                    refine lv_iadd hx hb dX0_formOf_24 ?_
                                    refine va_ti (v := .int (-700514304 : Int32)) hx hb hww.2 hS (show ¬ (((34 : Int32) + (1 : Int32)) < 0 ∨ 42 ≤ (((34 : Int32) + (1 : Int32))).toNatClampNeg) from by decide) (congrArg Value.int (show fm_t.getD (((34 : Int32) + (1 : Int32))).toNatClampNeg 0 = (-700514304 : Int32) from by decide)) dX0_formOf_25 ?_
                                    refine lv_icmp_ne (tgt := 35) hx hb dX0_formOf_26 (by decide) (fun c_18 => ?_) (fun c_18 => ?_)
                                    · -- taken
                                      refine lv_iinc (v := 36) (lv' := [(1, .int (36 : Int32)), (0, .int p0)]) hx hb dX0_formOf_35 hl (k := 0) rfl (by decide) (by decide) rfl (fun ls hl => ?_)
                                      refine lv_goto (tgt := 2) hx hb dX0_formOf_38 (by decide) ?_
                                      refine lv_iload_n hx hb dX0_formOf_2 rfl (lv_at hl 0 rfl) ?_
                                      refine lv_iconst (v := 1) hx hb dX0_formOf_3 (by decide) ?_
                                      refine lv_iadd hx hb dX0_formOf_4 ?_
                                      refine va_gets hx hb hww.1 hS hown (hts (.fieldLink RX0 66 "WordForms" "FORMS" "[I") (by decide +kernel)) (fun _ h => h) dX0_formOf_5 ?_
                                      refine va_tlen (v := 42) hx hb hww.2 hS (by decide) dX0_formOf_8 ?_
                                      refine lv_icmp_ge (tgt := 41) hx hb dX0_formOf_9 (by decide) (fun c => absurd c (by decide)) (fun _ => ?_)
                                      refine lv_iload_n hx hb dX0_formOf_12 rfl (lv_at hl 1 rfl) ?_
                                      refine va_gets hx hb hww.1 hS hown (hts (.fieldLink RX0 66 "WordForms" "FORMS" "[I") (by decide +kernel)) (fun _ h => h) dX0_formOf_13 ?_
                                      refine lv_iload_n hx hb dX0_formOf_16 rfl (lv_at hl 0 rfl) ?_
                                      refine va_ti (v := .int (-993 : Int32)) hx hb hww.2 hS (show ¬ ((36 : Int32) < 0 ∨ 42 ≤ ((36 : Int32)).toNatClampNeg) from by decide) (congrArg Value.int (show fm_t.getD ((36 : Int32)).toNatClampNeg 0 = (-993 : Int32) from by decide)) dX0_formOf_17 ?_
                                      refine lv_iand hx hb dX0_formOf_18 ?_
                                      refine va_gets hx hb hww.1 hS hown (hts (.fieldLink RX0 66 "WordForms" "FORMS" "[I") (by decide +kernel)) (fun _ h => h) dX0_formOf_19 ?_
                                      refine lv_iload_n hx hb dX0_formOf_22 rfl (lv_at hl 0 rfl) ?_
                                      refine lv_iconst (v := 1) hx hb dX0_formOf_23 (by decide) ?_
                                      refine lv_iadd hx hb dX0_formOf_24 ?_
                                      refine va_ti (v := .int (-698417152 : Int32)) hx hb hww.2 hS (show ¬ (((36 : Int32) + (1 : Int32)) < 0 ∨ 42 ≤ (((36 : Int32) + (1 : Int32))).toNatClampNeg) from by decide) (congrArg Value.int (show fm_t.getD (((36 : Int32) + (1 : Int32))).toNatClampNeg 0 = (-698417152 : Int32) from by decide)) dX0_formOf_25 ?_
                                      refine lv_icmp_ne (tgt := 35) hx hb dX0_formOf_26 (by decide) (fun c_19 => ?_) (fun c_19 => ?_)
                                      · -- taken
                                        refine lv_iinc (v := 38) (lv' := [(1, .int (38 : Int32)), (0, .int p0)]) hx hb dX0_formOf_35 hl (k := 0) rfl (by decide) (by decide) rfl (fun ls hl => ?_)
                                        refine lv_goto (tgt := 2) hx hb dX0_formOf_38 (by decide) ?_
                                        refine lv_iload_n hx hb dX0_formOf_2 rfl (lv_at hl 0 rfl) ?_
                                        refine lv_iconst (v := 1) hx hb dX0_formOf_3 (by decide) ?_
                                        refine lv_iadd hx hb dX0_formOf_4 ?_
                                        refine va_gets hx hb hww.1 hS hown (hts (.fieldLink RX0 66 "WordForms" "FORMS" "[I") (by decide +kernel)) (fun _ h => h) dX0_formOf_5 ?_
                                        refine va_tlen (v := 42) hx hb hww.2 hS (by decide) dX0_formOf_8 ?_
                                        refine lv_icmp_ge (tgt := 41) hx hb dX0_formOf_9 (by decide) (fun c => absurd c (by decide)) (fun _ => ?_)
                                        refine lv_iload_n hx hb dX0_formOf_12 rfl (lv_at hl 1 rfl) ?_
                                        refine va_gets hx hb hww.1 hS hown (hts (.fieldLink RX0 66 "WordForms" "FORMS" "[I") (by decide +kernel)) (fun _ h => h) dX0_formOf_13 ?_
                                        refine lv_iload_n hx hb dX0_formOf_16 rfl (lv_at hl 0 rfl) ?_
                                        refine va_ti (v := .int (-2097121 : Int32)) hx hb hww.2 hS (show ¬ ((38 : Int32) < 0 ∨ 42 ≤ ((38 : Int32)).toNatClampNeg) from by decide) (congrArg Value.int (show fm_t.getD ((38 : Int32)).toNatClampNeg 0 = (-2097121 : Int32) from by decide)) dX0_formOf_17 ?_
                                        refine lv_iand hx hb dX0_formOf_18 ?_
                                        refine va_gets hx hb hww.1 hS hown (hts (.fieldLink RX0 66 "WordForms" "FORMS" "[I") (by decide +kernel)) (fun _ h => h) dX0_formOf_19 ?_
                                        refine lv_iload_n hx hb dX0_formOf_22 rfl (lv_at hl 0 rfl) ?_
                                        refine lv_iconst (v := 1) hx hb dX0_formOf_23 (by decide) ?_
                                        refine lv_iadd hx hb dX0_formOf_24 ?_
                                        refine va_ti (v := .int (-738197503 : Int32)) hx hb hww.2 hS (show ¬ (((38 : Int32) + (1 : Int32)) < 0 ∨ 42 ≤ (((38 : Int32) + (1 : Int32))).toNatClampNeg) from by decide) (congrArg Value.int (show fm_t.getD (((38 : Int32) + (1 : Int32))).toNatClampNeg 0 = (-738197503 : Int32) from by decide)) dX0_formOf_25 ?_
                                        refine lv_icmp_ne (tgt := 35) hx hb dX0_formOf_26 (by decide) (fun c_20 => ?_) (fun c_20 => ?_)
                                        · -- taken
                                          refine lv_iinc (v := 40) (lv' := [(1, .int (40 : Int32)), (0, .int p0)]) hx hb dX0_formOf_35 hl (k := 0) rfl (by decide) (by decide) rfl (fun ls hl => ?_)
                                          refine lv_goto (tgt := 2) hx hb dX0_formOf_38 (by decide) ?_
                                          refine lv_iload_n hx hb dX0_formOf_2 rfl (lv_at hl 0 rfl) ?_
                                          refine lv_iconst (v := 1) hx hb dX0_formOf_3 (by decide) ?_
                                          refine lv_iadd hx hb dX0_formOf_4 ?_
                                          refine va_gets hx hb hww.1 hS hown (hts (.fieldLink RX0 66 "WordForms" "FORMS" "[I") (by decide +kernel)) (fun _ h => h) dX0_formOf_5 ?_
                                          refine va_tlen (v := 42) hx hb hww.2 hS (by decide) dX0_formOf_8 ?_
                                          refine lv_icmp_ge (tgt := 41) hx hb dX0_formOf_9 (by decide) (fun c => absurd c (by decide)) (fun _ => ?_)
                                          refine lv_iload_n hx hb dX0_formOf_12 rfl (lv_at hl 1 rfl) ?_
                                          refine va_gets hx hb hww.1 hS hown (hts (.fieldLink RX0 66 "WordForms" "FORMS" "[I") (by decide +kernel)) (fun _ h => h) dX0_formOf_13 ?_
                                          refine lv_iload_n hx hb dX0_formOf_16 rfl (lv_at hl 0 rfl) ?_
                                          refine va_ti (v := .int (-1 : Int32)) hx hb hww.2 hS (show ¬ ((40 : Int32) < 0 ∨ 42 ≤ ((40 : Int32)).toNatClampNeg) from by decide) (congrArg Value.int (show fm_t.getD ((40 : Int32)).toNatClampNeg 0 = (-1 : Int32) from by decide)) dX0_formOf_17 ?_
                                          refine lv_iand hx hb dX0_formOf_18 ?_
                                          refine va_gets hx hb hww.1 hS hown (hts (.fieldLink RX0 66 "WordForms" "FORMS" "[I") (by decide +kernel)) (fun _ h => h) dX0_formOf_19 ?_
                                          refine lv_iload_n hx hb dX0_formOf_22 rfl (lv_at hl 0 rfl) ?_
                                          refine lv_iconst (v := 1) hx hb dX0_formOf_23 (by decide) ?_
                                          refine lv_iadd hx hb dX0_formOf_24 ?_
                                          refine va_ti (v := .int (-721215457 : Int32)) hx hb hww.2 hS (show ¬ (((40 : Int32) + (1 : Int32)) < 0 ∨ 42 ≤ (((40 : Int32) + (1 : Int32))).toNatClampNeg) from by decide) (congrArg Value.int (show fm_t.getD (((40 : Int32) + (1 : Int32))).toNatClampNeg 0 = (-721215457 : Int32) from by decide)) dX0_formOf_25 ?_
                                          refine lv_icmp_ne (tgt := 35) hx hb dX0_formOf_26 (by decide) (fun c_21 => ?_) (fun c_21 => ?_)
                                          · -- taken
                                            refine lv_iinc (v := 42) (lv' := [(1, .int (42 : Int32)), (0, .int p0)]) hx hb dX0_formOf_35 hl (k := 0) rfl (by decide) (by decide) rfl (fun ls hl => ?_)
                                            refine lv_goto (tgt := 2) hx hb dX0_formOf_38 (by decide) ?_
                                            refine lv_iload_n hx hb dX0_formOf_2 rfl (lv_at hl 0 rfl) ?_
                                            refine lv_iconst (v := 1) hx hb dX0_formOf_3 (by decide) ?_
                                            refine lv_iadd hx hb dX0_formOf_4 ?_
                                            refine va_gets hx hb hww.1 hS hown (hts (.fieldLink RX0 66 "WordForms" "FORMS" "[I") (by decide +kernel)) (fun _ h => h) dX0_formOf_5 ?_
                                            refine va_tlen (v := 42) hx hb hww.2 hS (by decide) dX0_formOf_8 ?_
                                            refine lv_icmp_ge (tgt := 41) hx hb dX0_formOf_9 (by decide) (fun _ => ?_) (fun c => absurd c (by decide))
                                            refine lv_iconst (v := 0) hx hb dX0_formOf_41 (by decide) ?_
                                            exact W.iret (v := (0 : Int32)) hx hb hr (fun t ht hW => ⟨⟨(0 : Int32), (), rfl, by rw [fX0_formOf, if_neg c_1, if_neg c_2, if_neg c_3, if_neg c_4, if_neg c_5, if_neg c_6, if_neg c_7, if_neg c_8, if_neg c_9, if_neg c_10, if_neg c_11, if_neg c_12, if_neg c_13, if_neg c_14, if_neg c_15, if_neg c_16, if_neg c_17, if_neg c_18, if_neg c_19, if_neg c_20, if_neg c_21], trivial⟩, hS.F ht⟩) hS.2.2 dX0_formOf_42
                                          · -- not taken
                                            refine lv_iload_n hx hb dX0_formOf_29 rfl (lv_at hl 0 rfl) ?_
                                            refine lv_iconst (v := 2) hx hb dX0_formOf_30 (by decide) ?_
                                            refine lv_idiv hx hb dX0_formOf_31 (by decide) ?_
                                            refine lv_iconst (v := 1) hx hb dX0_formOf_32 (by decide) ?_
                                            refine lv_iadd hx hb dX0_formOf_33 ?_
                                            exact W.iret (v := (((40 : Int32) / (2 : Int32)) + (1 : Int32))) hx hb hr (fun t ht hW => ⟨⟨(((40 : Int32) / (2 : Int32)) + (1 : Int32)), (), rfl, by rw [fX0_formOf, if_neg c_1, if_neg c_2, if_neg c_3, if_neg c_4, if_neg c_5, if_neg c_6, if_neg c_7, if_neg c_8, if_neg c_9, if_neg c_10, if_neg c_11, if_neg c_12, if_neg c_13, if_neg c_14, if_neg c_15, if_neg c_16, if_neg c_17, if_neg c_18, if_neg c_19, if_neg c_20, if_pos c_21], trivial⟩, hS.F ht⟩) hS.2.2 dX0_formOf_34
                                        · -- not taken
                                          refine lv_iload_n hx hb dX0_formOf_29 rfl (lv_at hl 0 rfl) ?_
                                          refine lv_iconst (v := 2) hx hb dX0_formOf_30 (by decide) ?_
                                          refine lv_idiv hx hb dX0_formOf_31 (by decide) ?_
                                          refine lv_iconst (v := 1) hx hb dX0_formOf_32 (by decide) ?_
                                          refine lv_iadd hx hb dX0_formOf_33 ?_
                                          exact W.iret (v := (((38 : Int32) / (2 : Int32)) + (1 : Int32))) hx hb hr (fun t ht hW => ⟨⟨(((38 : Int32) / (2 : Int32)) + (1 : Int32)), (), rfl, by rw [fX0_formOf, if_neg c_1, if_neg c_2, if_neg c_3, if_neg c_4, if_neg c_5, if_neg c_6, if_neg c_7, if_neg c_8, if_neg c_9, if_neg c_10, if_neg c_11, if_neg c_12, if_neg c_13, if_neg c_14, if_neg c_15, if_neg c_16, if_neg c_17, if_neg c_18, if_neg c_19, if_pos c_20], trivial⟩, hS.F ht⟩) hS.2.2 dX0_formOf_34
                                      · -- not taken
                                        refine lv_iload_n hx hb dX0_formOf_29 rfl (lv_at hl 0 rfl) ?_
                                        refine lv_iconst (v := 2) hx hb dX0_formOf_30 (by decide) ?_
                                        refine lv_idiv hx hb dX0_formOf_31 (by decide) ?_
                                        refine lv_iconst (v := 1) hx hb dX0_formOf_32 (by decide) ?_
                                        refine lv_iadd hx hb dX0_formOf_33 ?_
                                        exact W.iret (v := (((36 : Int32) / (2 : Int32)) + (1 : Int32))) hx hb hr (fun t ht hW => ⟨⟨(((36 : Int32) / (2 : Int32)) + (1 : Int32)), (), rfl, by rw [fX0_formOf, if_neg c_1, if_neg c_2, if_neg c_3, if_neg c_4, if_neg c_5, if_neg c_6, if_neg c_7, if_neg c_8, if_neg c_9, if_neg c_10, if_neg c_11, if_neg c_12, if_neg c_13, if_neg c_14, if_neg c_15, if_neg c_16, if_neg c_17, if_neg c_18, if_pos c_19], trivial⟩, hS.F ht⟩) hS.2.2 dX0_formOf_34
                                    · -- not taken
                                      refine lv_iload_n hx hb dX0_formOf_29 rfl (lv_at hl 0 rfl) ?_
                                      refine lv_iconst (v := 2) hx hb dX0_formOf_30 (by decide) ?_
                                      refine lv_idiv hx hb dX0_formOf_31 (by decide) ?_
                                      refine lv_iconst (v := 1) hx hb dX0_formOf_32 (by decide) ?_
                                      refine lv_iadd hx hb dX0_formOf_33 ?_
                                      exact W.iret (v := (((34 : Int32) / (2 : Int32)) + (1 : Int32))) hx hb hr (fun t ht hW => ⟨⟨(((34 : Int32) / (2 : Int32)) + (1 : Int32)), (), rfl, by rw [fX0_formOf, if_neg c_1, if_neg c_2, if_neg c_3, if_neg c_4, if_neg c_5, if_neg c_6, if_neg c_7, if_neg c_8, if_neg c_9, if_neg c_10, if_neg c_11, if_neg c_12, if_neg c_13, if_neg c_14, if_neg c_15, if_neg c_16, if_neg c_17, if_pos c_18], trivial⟩, hS.F ht⟩) hS.2.2 dX0_formOf_34
                                  · -- not taken
                                    refine lv_iload_n hx hb dX0_formOf_29 rfl (lv_at hl 0 rfl) ?_
                                    refine lv_iconst (v := 2) hx hb dX0_formOf_30 (by decide) ?_
                                    refine lv_idiv hx hb dX0_formOf_31 (by decide) ?_
                                    refine lv_iconst (v := 1) hx hb dX0_formOf_32 (by decide) ?_
                                    refine lv_iadd hx hb dX0_formOf_33 ?_
                                    exact W.iret (v := (((32 : Int32) / (2 : Int32)) + (1 : Int32))) hx hb hr (fun t ht hW => ⟨⟨(((32 : Int32) / (2 : Int32)) + (1 : Int32)), (), rfl, by rw [fX0_formOf, if_neg c_1, if_neg c_2, if_neg c_3, if_neg c_4, if_neg c_5, if_neg c_6, if_neg c_7, if_neg c_8, if_neg c_9, if_neg c_10, if_neg c_11, if_neg c_12, if_neg c_13, if_neg c_14, if_neg c_15, if_neg c_16, if_pos c_17], trivial⟩, hS.F ht⟩) hS.2.2 dX0_formOf_34
                                · -- not taken
                                  refine lv_iload_n hx hb dX0_formOf_29 rfl (lv_at hl 0 rfl) ?_
                                  refine lv_iconst (v := 2) hx hb dX0_formOf_30 (by decide) ?_
                                  refine lv_idiv hx hb dX0_formOf_31 (by decide) ?_
                                  refine lv_iconst (v := 1) hx hb dX0_formOf_32 (by decide) ?_
                                  refine lv_iadd hx hb dX0_formOf_33 ?_
                                  exact W.iret (v := (((30 : Int32) / (2 : Int32)) + (1 : Int32))) hx hb hr (fun t ht hW => ⟨⟨(((30 : Int32) / (2 : Int32)) + (1 : Int32)), (), rfl, by rw [fX0_formOf, if_neg c_1, if_neg c_2, if_neg c_3, if_neg c_4, if_neg c_5, if_neg c_6, if_neg c_7, if_neg c_8, if_neg c_9, if_neg c_10, if_neg c_11, if_neg c_12, if_neg c_13, if_neg c_14, if_neg c_15, if_pos c_16], trivial⟩, hS.F ht⟩) hS.2.2 dX0_formOf_34
                              · -- not taken
                                refine lv_iload_n hx hb dX0_formOf_29 rfl (lv_at hl 0 rfl) ?_
                                refine lv_iconst (v := 2) hx hb dX0_formOf_30 (by decide) ?_
                                refine lv_idiv hx hb dX0_formOf_31 (by decide) ?_
                                refine lv_iconst (v := 1) hx hb dX0_formOf_32 (by decide) ?_
                                refine lv_iadd hx hb dX0_formOf_33 ?_
                                exact W.iret (v := (((28 : Int32) / (2 : Int32)) + (1 : Int32))) hx hb hr (fun t ht hW => ⟨⟨(((28 : Int32) / (2 : Int32)) + (1 : Int32)), (), rfl, by rw [fX0_formOf, if_neg c_1, if_neg c_2, if_neg c_3, if_neg c_4, if_neg c_5, if_neg c_6, if_neg c_7, if_neg c_8, if_neg c_9, if_neg c_10, if_neg c_11, if_neg c_12, if_neg c_13, if_neg c_14, if_pos c_15], trivial⟩, hS.F ht⟩) hS.2.2 dX0_formOf_34
                            · -- not taken
                              refine lv_iload_n hx hb dX0_formOf_29 rfl (lv_at hl 0 rfl) ?_
                              refine lv_iconst (v := 2) hx hb dX0_formOf_30 (by decide) ?_
                              refine lv_idiv hx hb dX0_formOf_31 (by decide) ?_
                              refine lv_iconst (v := 1) hx hb dX0_formOf_32 (by decide) ?_
                              refine lv_iadd hx hb dX0_formOf_33 ?_
                              exact W.iret (v := (((26 : Int32) / (2 : Int32)) + (1 : Int32))) hx hb hr (fun t ht hW => ⟨⟨(((26 : Int32) / (2 : Int32)) + (1 : Int32)), (), rfl, by rw [fX0_formOf, if_neg c_1, if_neg c_2, if_neg c_3, if_neg c_4, if_neg c_5, if_neg c_6, if_neg c_7, if_neg c_8, if_neg c_9, if_neg c_10, if_neg c_11, if_neg c_12, if_neg c_13, if_pos c_14], trivial⟩, hS.F ht⟩) hS.2.2 dX0_formOf_34
                          · -- not taken
                            refine lv_iload_n hx hb dX0_formOf_29 rfl (lv_at hl 0 rfl) ?_
                            refine lv_iconst (v := 2) hx hb dX0_formOf_30 (by decide) ?_
                            refine lv_idiv hx hb dX0_formOf_31 (by decide) ?_
                            refine lv_iconst (v := 1) hx hb dX0_formOf_32 (by decide) ?_
                            refine lv_iadd hx hb dX0_formOf_33 ?_
                            exact W.iret (v := (((24 : Int32) / (2 : Int32)) + (1 : Int32))) hx hb hr (fun t ht hW => ⟨⟨(((24 : Int32) / (2 : Int32)) + (1 : Int32)), (), rfl, by rw [fX0_formOf, if_neg c_1, if_neg c_2, if_neg c_3, if_neg c_4, if_neg c_5, if_neg c_6, if_neg c_7, if_neg c_8, if_neg c_9, if_neg c_10, if_neg c_11, if_neg c_12, if_pos c_13], trivial⟩, hS.F ht⟩) hS.2.2 dX0_formOf_34
                        · -- not taken
                          refine lv_iload_n hx hb dX0_formOf_29 rfl (lv_at hl 0 rfl) ?_
                          refine lv_iconst (v := 2) hx hb dX0_formOf_30 (by decide) ?_
                          refine lv_idiv hx hb dX0_formOf_31 (by decide) ?_
                          refine lv_iconst (v := 1) hx hb dX0_formOf_32 (by decide) ?_
                          refine lv_iadd hx hb dX0_formOf_33 ?_
                          exact W.iret (v := (((22 : Int32) / (2 : Int32)) + (1 : Int32))) hx hb hr (fun t ht hW => ⟨⟨(((22 : Int32) / (2 : Int32)) + (1 : Int32)), (), rfl, by rw [fX0_formOf, if_neg c_1, if_neg c_2, if_neg c_3, if_neg c_4, if_neg c_5, if_neg c_6, if_neg c_7, if_neg c_8, if_neg c_9, if_neg c_10, if_neg c_11, if_pos c_12], trivial⟩, hS.F ht⟩) hS.2.2 dX0_formOf_34
                      · -- not taken
                        refine lv_iload_n hx hb dX0_formOf_29 rfl (lv_at hl 0 rfl) ?_
                        refine lv_iconst (v := 2) hx hb dX0_formOf_30 (by decide) ?_
                        refine lv_idiv hx hb dX0_formOf_31 (by decide) ?_
                        refine lv_iconst (v := 1) hx hb dX0_formOf_32 (by decide) ?_
                        refine lv_iadd hx hb dX0_formOf_33 ?_
                        exact W.iret (v := (((20 : Int32) / (2 : Int32)) + (1 : Int32))) hx hb hr (fun t ht hW => ⟨⟨(((20 : Int32) / (2 : Int32)) + (1 : Int32)), (), rfl, by rw [fX0_formOf, if_neg c_1, if_neg c_2, if_neg c_3, if_neg c_4, if_neg c_5, if_neg c_6, if_neg c_7, if_neg c_8, if_neg c_9, if_neg c_10, if_pos c_11], trivial⟩, hS.F ht⟩) hS.2.2 dX0_formOf_34
                    · -- not taken
                      refine lv_iload_n hx hb dX0_formOf_29 rfl (lv_at hl 0 rfl) ?_
                      refine lv_iconst (v := 2) hx hb dX0_formOf_30 (by decide) ?_
                      refine lv_idiv hx hb dX0_formOf_31 (by decide) ?_
                      refine lv_iconst (v := 1) hx hb dX0_formOf_32 (by decide) ?_
                      refine lv_iadd hx hb dX0_formOf_33 ?_
                      exact W.iret (v := (((18 : Int32) / (2 : Int32)) + (1 : Int32))) hx hb hr (fun t ht hW => ⟨⟨(((18 : Int32) / (2 : Int32)) + (1 : Int32)), (), rfl, by rw [fX0_formOf, if_neg c_1, if_neg c_2, if_neg c_3, if_neg c_4, if_neg c_5, if_neg c_6, if_neg c_7, if_neg c_8, if_neg c_9, if_pos c_10], trivial⟩, hS.F ht⟩) hS.2.2 dX0_formOf_34
                  · -- not taken
                    refine lv_iload_n hx hb dX0_formOf_29 rfl (lv_at hl 0 rfl) ?_
                    refine lv_iconst (v := 2) hx hb dX0_formOf_30 (by decide) ?_
                    refine lv_idiv hx hb dX0_formOf_31 (by decide) ?_
                    refine lv_iconst (v := 1) hx hb dX0_formOf_32 (by decide) ?_
                    refine lv_iadd hx hb dX0_formOf_33 ?_
                    exact W.iret (v := (((16 : Int32) / (2 : Int32)) + (1 : Int32))) hx hb hr (fun t ht hW => ⟨⟨(((16 : Int32) / (2 : Int32)) + (1 : Int32)), (), rfl, by rw [fX0_formOf, if_neg c_1, if_neg c_2, if_neg c_3, if_neg c_4, if_neg c_5, if_neg c_6, if_neg c_7, if_neg c_8, if_pos c_9], trivial⟩, hS.F ht⟩) hS.2.2 dX0_formOf_34
                · -- not taken
                  refine lv_iload_n hx hb dX0_formOf_29 rfl (lv_at hl 0 rfl) ?_
                  refine lv_iconst (v := 2) hx hb dX0_formOf_30 (by decide) ?_
                  refine lv_idiv hx hb dX0_formOf_31 (by decide) ?_
                  refine lv_iconst (v := 1) hx hb dX0_formOf_32 (by decide) ?_
                  refine lv_iadd hx hb dX0_formOf_33 ?_
                  exact W.iret (v := (((14 : Int32) / (2 : Int32)) + (1 : Int32))) hx hb hr (fun t ht hW => ⟨⟨(((14 : Int32) / (2 : Int32)) + (1 : Int32)), (), rfl, by rw [fX0_formOf, if_neg c_1, if_neg c_2, if_neg c_3, if_neg c_4, if_neg c_5, if_neg c_6, if_neg c_7, if_pos c_8], trivial⟩, hS.F ht⟩) hS.2.2 dX0_formOf_34
              · -- not taken
                refine lv_iload_n hx hb dX0_formOf_29 rfl (lv_at hl 0 rfl) ?_
                refine lv_iconst (v := 2) hx hb dX0_formOf_30 (by decide) ?_
                refine lv_idiv hx hb dX0_formOf_31 (by decide) ?_
                refine lv_iconst (v := 1) hx hb dX0_formOf_32 (by decide) ?_
                refine lv_iadd hx hb dX0_formOf_33 ?_
                exact W.iret (v := (((12 : Int32) / (2 : Int32)) + (1 : Int32))) hx hb hr (fun t ht hW => ⟨⟨(((12 : Int32) / (2 : Int32)) + (1 : Int32)), (), rfl, by rw [fX0_formOf, if_neg c_1, if_neg c_2, if_neg c_3, if_neg c_4, if_neg c_5, if_neg c_6, if_pos c_7], trivial⟩, hS.F ht⟩) hS.2.2 dX0_formOf_34
            · -- not taken
              refine lv_iload_n hx hb dX0_formOf_29 rfl (lv_at hl 0 rfl) ?_
              refine lv_iconst (v := 2) hx hb dX0_formOf_30 (by decide) ?_
              refine lv_idiv hx hb dX0_formOf_31 (by decide) ?_
              refine lv_iconst (v := 1) hx hb dX0_formOf_32 (by decide) ?_
              refine lv_iadd hx hb dX0_formOf_33 ?_
              exact W.iret (v := (((10 : Int32) / (2 : Int32)) + (1 : Int32))) hx hb hr (fun t ht hW => ⟨⟨(((10 : Int32) / (2 : Int32)) + (1 : Int32)), (), rfl, by rw [fX0_formOf, if_neg c_1, if_neg c_2, if_neg c_3, if_neg c_4, if_neg c_5, if_pos c_6], trivial⟩, hS.F ht⟩) hS.2.2 dX0_formOf_34
          · -- not taken
            refine lv_iload_n hx hb dX0_formOf_29 rfl (lv_at hl 0 rfl) ?_
            refine lv_iconst (v := 2) hx hb dX0_formOf_30 (by decide) ?_
            refine lv_idiv hx hb dX0_formOf_31 (by decide) ?_
            refine lv_iconst (v := 1) hx hb dX0_formOf_32 (by decide) ?_
            refine lv_iadd hx hb dX0_formOf_33 ?_
            exact W.iret (v := (((8 : Int32) / (2 : Int32)) + (1 : Int32))) hx hb hr (fun t ht hW => ⟨⟨(((8 : Int32) / (2 : Int32)) + (1 : Int32)), (), rfl, by rw [fX0_formOf, if_neg c_1, if_neg c_2, if_neg c_3, if_neg c_4, if_pos c_5], trivial⟩, hS.F ht⟩) hS.2.2 dX0_formOf_34
        · -- not taken
          refine lv_iload_n hx hb dX0_formOf_29 rfl (lv_at hl 0 rfl) ?_
          refine lv_iconst (v := 2) hx hb dX0_formOf_30 (by decide) ?_
          refine lv_idiv hx hb dX0_formOf_31 (by decide) ?_
          refine lv_iconst (v := 1) hx hb dX0_formOf_32 (by decide) ?_
          refine lv_iadd hx hb dX0_formOf_33 ?_
          exact W.iret (v := (((6 : Int32) / (2 : Int32)) + (1 : Int32))) hx hb hr (fun t ht hW => ⟨⟨(((6 : Int32) / (2 : Int32)) + (1 : Int32)), (), rfl, by rw [fX0_formOf, if_neg c_1, if_neg c_2, if_neg c_3, if_pos c_4], trivial⟩, hS.F ht⟩) hS.2.2 dX0_formOf_34
      · -- not taken
        refine lv_iload_n hx hb dX0_formOf_29 rfl (lv_at hl 0 rfl) ?_
        refine lv_iconst (v := 2) hx hb dX0_formOf_30 (by decide) ?_
        refine lv_idiv hx hb dX0_formOf_31 (by decide) ?_
        refine lv_iconst (v := 1) hx hb dX0_formOf_32 (by decide) ?_
        refine lv_iadd hx hb dX0_formOf_33 ?_
        exact W.iret (v := (((4 : Int32) / (2 : Int32)) + (1 : Int32))) hx hb hr (fun t ht hW => ⟨⟨(((4 : Int32) / (2 : Int32)) + (1 : Int32)), (), rfl, by rw [fX0_formOf, if_neg c_1, if_neg c_2, if_pos c_3], trivial⟩, hS.F ht⟩) hS.2.2 dX0_formOf_34
    · -- not taken
      refine lv_iload_n hx hb dX0_formOf_29 rfl (lv_at hl 0 rfl) ?_
      refine lv_iconst (v := 2) hx hb dX0_formOf_30 (by decide) ?_
      refine lv_idiv hx hb dX0_formOf_31 (by decide) ?_
      refine lv_iconst (v := 1) hx hb dX0_formOf_32 (by decide) ?_
      refine lv_iadd hx hb dX0_formOf_33 ?_
      exact W.iret (v := (((2 : Int32) / (2 : Int32)) + (1 : Int32))) hx hb hr (fun t ht hW => ⟨⟨(((2 : Int32) / (2 : Int32)) + (1 : Int32)), (), rfl, by rw [fX0_formOf, if_neg c_1, if_pos c_2], trivial⟩, hS.F ht⟩) hS.2.2 dX0_formOf_34
  · -- not taken
    refine lv_iload_n hx hb dX0_formOf_29 rfl (lv_at hl 0 rfl) ?_
    refine lv_iconst (v := 2) hx hb dX0_formOf_30 (by decide) ?_
    refine lv_idiv hx hb dX0_formOf_31 (by decide) ?_
    refine lv_iconst (v := 1) hx hb dX0_formOf_32 (by decide) ?_
    refine lv_iadd hx hb dX0_formOf_33 ?_
    exact W.iret (v := (((0 : Int32) / (2 : Int32)) + (1 : Int32))) hx hb hr (fun t ht hW => ⟨⟨(((0 : Int32) / (2 : Int32)) + (1 : Int32)), (), rfl, by rw [fX0_formOf, if_pos c_1], trivial⟩, hS.F ht⟩) hS.2.2 dX0_formOf_34
set_option maxHeartbeats 4000000 in
set_option maxRecDepth 100000 in
theorem mX0_lowBits (l : Launch) (sz : Nat) (p0 : Int32) : Met l yX0_lowBits wsX0_lowBits ({ frames := 0, cells := 0, slots := 0, locals := 0 }) (va_Pc [.int p0] (fun U => U.heap.size = sz)) (va_Qi (fun (r : Int32) (_ : Unit) => r = fX0_lowBits p0) (fun _ _ => True) (fun q : Nat => sz ≤ q)) 0 0 (fun q : Nat => sz ≤ q) := by
  refine Met.ofW (cc := cX0_lowBits) (maxL := 1) (ret := (some .int)) (by decide) rfl ?_
  intro p e s m args below meth c s₁ B hml hv
  obtain ⟨rfl, hsz⟩ := hv
  have hx := B.exec
  have hb := B.bytes
  have hr := B.returns
  have hts := atoms_spec (ws := wsX0_lowBits) B.pre
  have hown : s.vm.findClass RX0 = some m.cls := findClass_of_methodNamed B.named
  have hlocks := B.notSynchronized
  subst hsz
  have hS : va_S (fun q : Nat => s.heap.size ≤ q) s.heap s.heap [] := va_S.rf
  have hl := lv_entry ([.int p0]) (n := 1) (Nat.le_of_ble_eq_true rfl)
  rw [lg_entry_eq]
  generalize (lg_sl ([.int p0]) ++ List.replicate (1 - (lg_sl ([.int p0])).length) Slot.unset).toArray = ls at hl ⊢
  have hl : lv_has ls 1 [(0, .int p0)] := hl
  refine lv_iconst (v := 1) hx hb dX0_lowBits_0 (by decide) ?_
  refine lv_iload_n hx hb dX0_lowBits_1 rfl (lv_at hl 0 rfl) ?_
  refine lv_ishl hx hb dX0_lowBits_2 ?_
  refine lv_iconst (v := 1) hx hb dX0_lowBits_3 (by decide) ?_
  refine lv_isub hx hb dX0_lowBits_4 ?_
  exact W.iret (v := (((1 : Int32) <<< (p0 &&& 31)) - (1 : Int32))) hx hb hr (fun t ht hW => ⟨⟨(((1 : Int32) <<< (p0 &&& 31)) - (1 : Int32)), (), rfl, by rw [fX0_lowBits], trivial⟩, hS.F ht⟩) hS.2.2 dX0_lowBits_5
set_option maxHeartbeats 4000000 in
set_option maxRecDepth 100000 in
theorem mX0_bits (l : Launch) (sz : Nat) (p0 : Int32) (p1 : Int32) (p2 : Int32) : Met l yX0_bits wsX0_bits ({ frames := 1, cells := 0, slots := 0, locals := 20 }) (va_Pc [.int p0, .int p1, .int p2] (fun U => U.heap.size = sz)) (va_Qi (fun (r : Int32) (_ : Unit) => r = fX0_bits p0 p1 p2) (fun _ _ => True) (fun q : Nat => sz ≤ q)) 0 0 (fun q : Nat => sz ≤ q) := by
  refine Met.ofW (cc := cX0_bits) (maxL := 3) (ret := (some .int)) (by decide) rfl ?_
  intro p e s m args below meth c s₁ B hml hv
  obtain ⟨rfl, hsz⟩ := hv
  have hx := B.exec
  have hb := B.bytes
  have hr := B.returns
  have hts := atoms_spec (ws := wsX0_bits) B.pre
  have hown : s.vm.findClass RX0 = some m.cls := findClass_of_methodNamed B.named
  have hlocks := B.notSynchronized
  subst hsz
  have hS : va_S (fun q : Nat => s.heap.size ≤ q) s.heap s.heap [] := va_S.rf
  have hl := lv_entry ([.int p0, .int p1, .int p2]) (n := 3) (Nat.le_of_ble_eq_true rfl)
  rw [lg_entry_eq]
  generalize (lg_sl ([.int p0, .int p1, .int p2]) ++ List.replicate (3 - (lg_sl ([.int p0, .int p1, .int p2])).length) Slot.unset).toArray = ls at hl ⊢
  have hl : lv_has ls 3 [(0, .int p0), (1, .int p1), (2, .int p2)] := hl
  refine lv_iload_n hx hb dX0_bits_0 rfl (lv_at hl 0 rfl) ?_
  refine lv_iload_n hx hb dX0_bits_1 rfl (lv_at hl 1 rfl) ?_
  refine lv_iushr hx hb dX0_bits_2 rfl ?_
  refine lv_iload_n hx hb dX0_bits_3 rfl (lv_at hl 2 rfl) ?_
  refine va_calli (va_runS (As := [.int p2]) (rest := [.int (((p0).toUInt32 >>> ((p1).toUInt32 &&& Int32.toUInt32 31)).toInt32)]) ⟨hx, hb, hml, hown, hts⟩ (mX0_lowBits l s.heap.size p2) (va_cwS 1 hts gX0_bits_X0_lowBits rfl rfl rfl (by decide +kernel) ⟨Nat.le_of_ble_eq_true rfl, Nat.le_of_ble_eq_true rfl⟩) ⟨fb_pure, fun U hU hW => ⟨rfl, congrArg Array.size hU⟩⟩ rfl rfl hl.1 rfl (lv_room (Nat.le_of_ble_eq_true rfl)) dX0_bits_4 ⟨Nat.zero_le _, Nat.zero_le _⟩) hS (fun q _ h => Nat.le_trans hS.1 h) (fun q h => Nat.le_trans hS.1 h) (fun r_1 _ _ H_1 _ _ _ hw _ _ _ hS => ?_)
  subst hw
  refine lv_iand hx hb dX0_bits_7 ?_
  exact W.iret (v := ((((p0).toUInt32 >>> ((p1).toUInt32 &&& Int32.toUInt32 31)).toInt32) &&& (fX0_lowBits p2))) hx hb hr (fun t ht hW => ⟨⟨((((p0).toUInt32 >>> ((p1).toUInt32 &&& Int32.toUInt32 31)).toInt32) &&& (fX0_lowBits p2)), (), rfl, by rw [fX0_bits], trivial⟩, hS.F ht⟩) hS.2.2 dX0_bits_8
set_option maxHeartbeats 4000000 in
set_option maxRecDepth 100000 in
theorem mX0_isLong (l : Launch) (sz : Nat) (p0 : Int32) : Met l yX0_isLong wsX0_isLong ({ frames := 0, cells := 0, slots := 0, locals := 0 }) (va_Pc [.int p0] (fun U => U.heap.size = sz)) (va_Qi (fun (r : Int32) (_ : Unit) => r = fX0_isLong p0) (fun _ _ => True) (fun q : Nat => sz ≤ q)) 0 0 (fun q : Nat => sz ≤ q) := by
  refine Met.ofW (cc := cX0_isLong) (maxL := 1) (ret := (some .boolean)) (by decide) rfl ?_
  intro p e s m args below meth c s₁ B hml hv
  obtain ⟨rfl, hsz⟩ := hv
  have hx := B.exec
  have hb := B.bytes
  have hr := B.returns
  have hts := atoms_spec (ws := wsX0_isLong) B.pre
  have hown : s.vm.findClass RX0 = some m.cls := findClass_of_methodNamed B.named
  have hlocks := B.notSynchronized
  subst hsz
  have hS : va_S (fun q : Nat => s.heap.size ≤ q) s.heap s.heap [] := va_S.rf
  have hl := lv_entry ([.int p0]) (n := 1) (Nat.le_of_ble_eq_true rfl)
  rw [lg_entry_eq]
  generalize (lg_sl ([.int p0]) ++ List.replicate (1 - (lg_sl ([.int p0])).length) Slot.unset).toArray = ls at hl ⊢
  have hl : lv_has ls 1 [(0, .int p0)] := hl
  refine lv_iload_n hx hb dX0_isLong_0 rfl (lv_at hl 0 rfl) ?_
  refine lv_if_ge (tgt := 8) hx hb dX0_isLong_1 (by decide) (fun c_1 => ?_) (fun c_1 => ?_)
  · -- taken
    refine lv_iconst (v := 0) hx hb dX0_isLong_8 (by decide) ?_
    exact W.zret (v := (0 : Int32)) hx hb hr (nb_01 (Or.inl rfl)) (fun t ht hW => ⟨⟨(0 : Int32), (), rfl, by rw [fX0_isLong, if_pos c_1], trivial⟩, hS.F ht⟩) hS.2.2 dX0_isLong_9
  · -- not taken
    refine lv_iconst (v := 1) hx hb dX0_isLong_4 (by decide) ?_
    refine lv_goto (tgt := 9) hx hb dX0_isLong_5 (by decide) ?_
    exact W.zret (v := (1 : Int32)) hx hb hr (nb_01 (Or.inr rfl)) (fun t ht hW => ⟨⟨(1 : Int32), (), rfl, by rw [fX0_isLong, if_neg c_1], trivial⟩, hS.F ht⟩) hS.2.2 dX0_isLong_9
set_option maxHeartbeats 4000000 in
set_option maxRecDepth 100000 in
theorem mX0_isMovedWithin (l : Launch) (sz : Nat) (p0 : Int32) : Met l yX0_isMovedWithin wsX0_isMovedWithin ({ frames := 2, cells := 0, slots := 0, locals := 42 }) (va_Pc [.int p0] (fun U => U.heap.size = sz)) (va_Qi (fun (r : Int32) (_ : Unit) => r = fX0_isMovedWithin p0) (fun _ _ => True) (fun q : Nat => sz ≤ q)) 0 0 (fun q : Nat => sz ≤ q) := by
  refine Met.ofW (cc := cX0_isMovedWithin) (maxL := 1) (ret := (some .boolean)) (by decide) rfl ?_
  intro p e s m args below meth c s₁ B hml hv
  obtain ⟨rfl, hsz⟩ := hv
  have hx := B.exec
  have hb := B.bytes
  have hr := B.returns
  have hts := atoms_spec (ws := wsX0_isMovedWithin) B.pre
  have hown : s.vm.findClass RX0 = some m.cls := findClass_of_methodNamed B.named
  have hlocks := B.notSynchronized
  subst hsz
  have hS : va_S (fun q : Nat => s.heap.size ≤ q) s.heap s.heap [] := va_S.rf
  have hl := lv_entry ([.int p0]) (n := 1) (Nat.le_of_ble_eq_true rfl)
  rw [lg_entry_eq]
  generalize (lg_sl ([.int p0]) ++ List.replicate (1 - (lg_sl ([.int p0])).length) Slot.unset).toArray = ls at hl ⊢
  have hl : lv_has ls 1 [(0, .int p0)] := hl
  refine lv_iload_n hx hb dX0_isMovedWithin_0 rfl (lv_at hl 0 rfl) ?_
  refine va_calli (va_runS (As := [.int p0]) (rest := []) ⟨hx, hb, hml, hown, hts⟩ (mX0_isLong l s.heap.size p0) (va_cwS 1 hts gX0_isMovedWithin_X0_isLong rfl rfl rfl (by decide +kernel) ⟨Nat.le_of_ble_eq_true rfl, Nat.le_of_ble_eq_true rfl⟩) ⟨fb_pure, fun U hU hW => ⟨rfl, congrArg Array.size hU⟩⟩ rfl rfl hl.1 rfl (lv_room (Nat.le_of_ble_eq_true rfl)) dX0_isMovedWithin_1 ⟨Nat.zero_le _, Nat.zero_le _⟩) hS (fun q _ h => Nat.le_trans hS.1 h) (fun q h => Nat.le_trans hS.1 h) (fun r_1 _ _ H_1 _ _ _ hw _ _ _ hS => ?_)
  subst hw
  refine lv_if_ne (tgt := 20) hx hb dX0_isMovedWithin_4 (by decide) (fun c_2 => ?_) (fun c_2 => ?_)
  · -- taken
    refine lv_iconst (v := 1) hx hb dX0_isMovedWithin_20 (by decide) ?_
    refine lv_goto (tgt := 25) hx hb dX0_isMovedWithin_21 (by decide) ?_
    exact W.zret (v := (1 : Int32)) hx hb hr (nb_01 (Or.inr rfl)) (fun t ht hW => ⟨⟨(1 : Int32), (), rfl, by rw [fX0_isMovedWithin, if_neg c_2], trivial⟩, hS.F ht⟩) hS.2.2 dX0_isMovedWithin_25
  · -- not taken
    refine lv_iload_n hx hb dX0_isMovedWithin_7 rfl (lv_at hl 0 rfl) ?_
    refine lv_bipush (v := 10) hx hb dX0_isMovedWithin_8 (by decide) ?_
    refine lv_bipush (v := 6) hx hb dX0_isMovedWithin_10 (by decide) ?_
    refine va_calli (va_runS (As := [.int p0, .int (10 : Int32), .int (6 : Int32)]) (rest := []) ⟨hx, hb, hml, hown, hts⟩ (mX0_bits l H_1.size p0 (10 : Int32) (6 : Int32)) (va_cwS 3 hts gX0_isMovedWithin_X0_bits rfl rfl rfl (by decide +kernel) ⟨Nat.le_of_ble_eq_true rfl, Nat.le_of_ble_eq_true rfl⟩) ⟨fb_pure, fun U hU hW => ⟨rfl, congrArg Array.size hU⟩⟩ rfl rfl hl.1 rfl (lv_room (Nat.le_of_ble_eq_true rfl)) dX0_isMovedWithin_12 ⟨Nat.zero_le _, Nat.zero_le _⟩) hS (fun q _ h => Nat.le_trans hS.1 h) (fun q h => Nat.le_trans hS.1 h) (fun r_3 _ _ H_3 _ _ _ hw _ _ _ hS => ?_)
    subst hw
    refine lv_bipush (v := 32) hx hb dX0_isMovedWithin_15 (by decide) ?_
    refine lv_icmp_ge (tgt := 24) hx hb dX0_isMovedWithin_17 (by decide) (fun c_4 => ?_) (fun c_4 => ?_)
    · -- taken
      refine lv_iconst (v := 0) hx hb dX0_isMovedWithin_24 (by decide) ?_
      exact W.zret (v := (0 : Int32)) hx hb hr (nb_01 (Or.inl rfl)) (fun t ht hW => ⟨⟨(0 : Int32), (), rfl, by rw [fX0_isMovedWithin, if_pos c_2, if_pos c_4], trivial⟩, hS.F ht⟩) hS.2.2 dX0_isMovedWithin_25
    · -- not taken
      refine lv_iconst (v := 1) hx hb dX0_isMovedWithin_20 (by decide) ?_
      refine lv_goto (tgt := 25) hx hb dX0_isMovedWithin_21 (by decide) ?_
      exact W.zret (v := (1 : Int32)) hx hb hr (nb_01 (Or.inr rfl)) (fun t ht hW => ⟨⟨(1 : Int32), (), rfl, by rw [fX0_isMovedWithin, if_pos c_2, if_neg c_4], trivial⟩, hS.F ht⟩) hS.2.2 dX0_isMovedWithin_25
set_option maxHeartbeats 4000000 in
set_option maxRecDepth 100000 in
theorem mX0_isTwo (l : Launch) (sz : Nat) (p0 : Int32) : Met l yX0_isTwo wsX0_isTwo ({ frames := 0, cells := 0, slots := 0, locals := 0 }) (va_Pc [.int p0] (fun U => U.heap.size = sz)) (va_Qi (fun (r : Int32) (_ : Unit) => r = fX0_isTwo p0) (fun _ _ => True) (fun q : Nat => sz ≤ q)) 0 0 (fun q : Nat => sz ≤ q) := by
  refine Met.ofW (cc := cX0_isTwo) (maxL := 1) (ret := (some .boolean)) (by decide) rfl ?_
  intro p e s m args below meth c s₁ B hml hv
  obtain ⟨rfl, hsz⟩ := hv
  have hx := B.exec
  have hb := B.bytes
  have hr := B.returns
  have hts := atoms_spec (ws := wsX0_isTwo) B.pre
  have hown : s.vm.findClass RX0 = some m.cls := findClass_of_methodNamed B.named
  have hlocks := B.notSynchronized
  subst hsz
  have hS : va_S (fun q : Nat => s.heap.size ≤ q) s.heap s.heap [] := va_S.rf
  have hl := lv_entry ([.int p0]) (n := 1) (Nat.le_of_ble_eq_true rfl)
  rw [lg_entry_eq]
  generalize (lg_sl ([.int p0]) ++ List.replicate (1 - (lg_sl ([.int p0])).length) Slot.unset).toArray = ls at hl ⊢
  have hl : lv_has ls 1 [(0, .int p0)] := hl
  refine lv_iload_n hx hb dX0_isTwo_0 rfl (lv_at hl 0 rfl) ?_
  refine lv_iconst (v := 2) hx hb dX0_isTwo_1 (by decide) ?_
  refine lv_icmp_eq (tgt := 22) hx hb dX0_isTwo_2 (by decide) (fun c_1 => ?_) (fun c_1 => ?_)
  · -- taken
    refine lv_iconst (v := 1) hx hb dX0_isTwo_22 (by decide) ?_
    refine lv_goto (tgt := 27) hx hb dX0_isTwo_23 (by decide) ?_
    exact W.zret (v := (1 : Int32)) hx hb hr (nb_01 (Or.inr rfl)) (fun t ht hW => ⟨⟨(1 : Int32), (), rfl, by rw [fX0_isTwo, if_pos c_1], trivial⟩, hS.F ht⟩) hS.2.2 dX0_isTwo_27
  · -- not taken
    refine lv_iload_n hx hb dX0_isTwo_5 rfl (lv_at hl 0 rfl) ?_
    refine lv_iconst (v := 3) hx hb dX0_isTwo_6 (by decide) ?_
    refine lv_icmp_eq (tgt := 22) hx hb dX0_isTwo_7 (by decide) (fun c_2 => ?_) (fun c_2 => ?_)
    · -- taken
      refine lv_iconst (v := 1) hx hb dX0_isTwo_22 (by decide) ?_
      refine lv_goto (tgt := 27) hx hb dX0_isTwo_23 (by decide) ?_
      exact W.zret (v := (1 : Int32)) hx hb hr (nb_01 (Or.inr rfl)) (fun t ht hW => ⟨⟨(1 : Int32), (), rfl, by rw [fX0_isTwo, if_neg c_1, if_pos c_2], trivial⟩, hS.F ht⟩) hS.2.2 dX0_isTwo_27
    · -- not taken
      refine lv_iload_n hx hb dX0_isTwo_10 rfl (lv_at hl 0 rfl) ?_
      refine lv_bipush (v := 8) hx hb dX0_isTwo_11 (by decide) ?_
      refine lv_icmp_lt (tgt := 26) hx hb dX0_isTwo_13 (by decide) (fun c_3 => ?_) (fun c_3 => ?_)
      · -- taken
        refine lv_iconst (v := 0) hx hb dX0_isTwo_26 (by decide) ?_
        exact W.zret (v := (0 : Int32)) hx hb hr (nb_01 (Or.inl rfl)) (fun t ht hW => ⟨⟨(0 : Int32), (), rfl, by rw [fX0_isTwo, if_neg c_1, if_neg c_2, if_pos c_3], trivial⟩, hS.F ht⟩) hS.2.2 dX0_isTwo_27
      · -- not taken
        refine lv_iload_n hx hb dX0_isTwo_16 rfl (lv_at hl 0 rfl) ?_
        refine lv_bipush (v := 10) hx hb dX0_isTwo_17 (by decide) ?_
        refine lv_icmp_gt (tgt := 26) hx hb dX0_isTwo_19 (by decide) (fun c_4 => ?_) (fun c_4 => ?_)
        · -- taken
          refine lv_iconst (v := 0) hx hb dX0_isTwo_26 (by decide) ?_
          exact W.zret (v := (0 : Int32)) hx hb hr (nb_01 (Or.inl rfl)) (fun t ht hW => ⟨⟨(0 : Int32), (), rfl, by rw [fX0_isTwo, if_neg c_1, if_neg c_2, if_neg c_3, if_pos c_4], trivial⟩, hS.F ht⟩) hS.2.2 dX0_isTwo_27
        · -- not taken
          refine lv_iconst (v := 1) hx hb dX0_isTwo_22 (by decide) ?_
          refine lv_goto (tgt := 27) hx hb dX0_isTwo_23 (by decide) ?_
          exact W.zret (v := (1 : Int32)) hx hb hr (nb_01 (Or.inr rfl)) (fun t ht hW => ⟨⟨(1 : Int32), (), rfl, by rw [fX0_isTwo, if_neg c_1, if_neg c_2, if_neg c_3, if_neg c_4], trivial⟩, hS.F ht⟩) hS.2.2 dX0_isTwo_27
set_option maxHeartbeats 4000000 in
set_option maxRecDepth 100000 in
theorem mX0_isCondition (l : Launch) (sz : Nat) (p0 : Int32) : Met l yX0_isCondition wsX0_isCondition ({ frames := 0, cells := 0, slots := 0, locals := 0 }) (va_Pc [.int p0] (fun U => U.heap.size = sz)) (va_Qi (fun (r : Int32) (_ : Unit) => r = fX0_isCondition p0) (fun _ _ => True) (fun q : Nat => sz ≤ q)) 0 0 (fun q : Nat => sz ≤ q) := by
  refine Met.ofW (cc := cX0_isCondition) (maxL := 1) (ret := (some .boolean)) (by decide) rfl ?_
  intro p e s m args below meth c s₁ B hml hv
  obtain ⟨rfl, hsz⟩ := hv
  have hx := B.exec
  have hb := B.bytes
  have hr := B.returns
  have hts := atoms_spec (ws := wsX0_isCondition) B.pre
  have hown : s.vm.findClass RX0 = some m.cls := findClass_of_methodNamed B.named
  have hlocks := B.notSynchronized
  subst hsz
  have hS : va_S (fun q : Nat => s.heap.size ≤ q) s.heap s.heap [] := va_S.rf
  have hl := lv_entry ([.int p0]) (n := 1) (Nat.le_of_ble_eq_true rfl)
  rw [lg_entry_eq]
  generalize (lg_sl ([.int p0]) ++ List.replicate (1 - (lg_sl ([.int p0])).length) Slot.unset).toArray = ls at hl ⊢
  have hl : lv_has ls 1 [(0, .int p0)] := hl
  refine lv_iload_n hx hb dX0_isCondition_0 rfl (lv_at hl 0 rfl) ?_
  refine lv_bipush (v := 13) hx hb dX0_isCondition_1 (by decide) ?_
  refine lv_icmp_gt (tgt := 10) hx hb dX0_isCondition_3 (by decide) (fun c_1 => ?_) (fun c_1 => ?_)
  · -- taken
    refine lv_iconst (v := 0) hx hb dX0_isCondition_10 (by decide) ?_
    exact W.zret (v := (0 : Int32)) hx hb hr (nb_01 (Or.inl rfl)) (fun t ht hW => ⟨⟨(0 : Int32), (), rfl, by rw [fX0_isCondition, if_pos c_1], trivial⟩, hS.F ht⟩) hS.2.2 dX0_isCondition_11
  · -- not taken
    refine lv_iconst (v := 1) hx hb dX0_isCondition_6 (by decide) ?_
    refine lv_goto (tgt := 11) hx hb dX0_isCondition_7 (by decide) ?_
    exact W.zret (v := (1 : Int32)) hx hb hr (nb_01 (Or.inr rfl)) (fun t ht hW => ⟨⟨(1 : Int32), (), rfl, by rw [fX0_isCondition, if_neg c_1], trivial⟩, hS.F ht⟩) hS.2.2 dX0_isCondition_11
set_option maxHeartbeats 4000000 in
set_option maxRecDepth 100000 in
theorem mX0_isLoad (l : Launch) (sz : Nat) (p0 : Int32) (p1 : Int32) : Met l yX0_isLoad wsX0_isLoad ({ frames := 0, cells := 0, slots := 0, locals := 0 }) (va_Pc [.int p0, .int p1] (fun U => U.heap.size = sz)) (va_Qi (fun (r : Int32) (_ : Unit) => r = fX0_isLoad p0 p1) (fun _ _ => True) (fun q : Nat => sz ≤ q)) 0 0 (fun q : Nat => sz ≤ q) := by
  refine Met.ofW (cc := cX0_isLoad) (maxL := 2) (ret := (some .boolean)) (by decide) rfl ?_
  intro p e s m args below meth c s₁ B hml hv
  obtain ⟨rfl, hsz⟩ := hv
  have hx := B.exec
  have hb := B.bytes
  have hr := B.returns
  have hts := atoms_spec (ws := wsX0_isLoad) B.pre
  have hown : s.vm.findClass RX0 = some m.cls := findClass_of_methodNamed B.named
  have hlocks := B.notSynchronized
  subst hsz
  have hS : va_S (fun q : Nat => s.heap.size ≤ q) s.heap s.heap [] := va_S.rf
  have hl := lv_entry ([.int p0, .int p1]) (n := 2) (Nat.le_of_ble_eq_true rfl)
  rw [lg_entry_eq]
  generalize (lg_sl ([.int p0, .int p1]) ++ List.replicate (2 - (lg_sl ([.int p0, .int p1])).length) Slot.unset).toArray = ls at hl ⊢
  have hl : lv_has ls 2 [(0, .int p0), (1, .int p1)] := hl
  refine lv_iload_n hx hb dX0_isLoad_0 rfl (lv_at hl 1 rfl) ?_
  refine lv_iconst (v := 2) hx hb dX0_isLoad_1 (by decide) ?_
  refine lv_icmp_ne (tgt := 16) hx hb dX0_isLoad_2 (by decide) (fun c_1 => ?_) (fun c_1 => ?_)
  · -- taken
    refine lv_iload_n hx hb dX0_isLoad_16 rfl (lv_at hl 1 rfl) ?_
    refine lv_iconst (v := 3) hx hb dX0_isLoad_17 (by decide) ?_
    refine lv_icmp_eq (tgt := 30) hx hb dX0_isLoad_18 (by decide) (fun c_2 => ?_) (fun c_2 => ?_)
    · -- taken
      refine lv_iconst (v := 0) hx hb dX0_isLoad_30 (by decide) ?_
      exact W.zret (v := (0 : Int32)) hx hb hr (nb_01 (Or.inl rfl)) (fun t ht hW => ⟨⟨(0 : Int32), (), rfl, by rw [fX0_isLoad, if_neg c_1, if_pos c_2], trivial⟩, hS.F ht⟩) hS.2.2 dX0_isLoad_31
    · -- not taken
      refine lv_iload_n hx hb dX0_isLoad_21 rfl (lv_at hl 0 rfl) ?_
      refine lv_iconst (v := 1) hx hb dX0_isLoad_22 (by decide) ?_
      refine lv_icmp_eq (tgt := 30) hx hb dX0_isLoad_23 (by decide) (fun c_3 => ?_) (fun c_3 => ?_)
      · -- taken
        refine lv_iconst (v := 0) hx hb dX0_isLoad_30 (by decide) ?_
        exact W.zret (v := (0 : Int32)) hx hb hr (nb_01 (Or.inl rfl)) (fun t ht hW => ⟨⟨(0 : Int32), (), rfl, by rw [fX0_isLoad, if_neg c_1, if_neg c_2, if_pos c_3], trivial⟩, hS.F ht⟩) hS.2.2 dX0_isLoad_31
      · -- not taken
        refine lv_iconst (v := 1) hx hb dX0_isLoad_26 (by decide) ?_
        refine lv_goto (tgt := 31) hx hb dX0_isLoad_27 (by decide) ?_
        exact W.zret (v := (1 : Int32)) hx hb hr (nb_01 (Or.inr rfl)) (fun t ht hW => ⟨⟨(1 : Int32), (), rfl, by rw [fX0_isLoad, if_neg c_1, if_neg c_2, if_neg c_3], trivial⟩, hS.F ht⟩) hS.2.2 dX0_isLoad_31
  · -- not taken
    refine lv_iload_n hx hb dX0_isLoad_5 rfl (lv_at hl 0 rfl) ?_
    refine lv_iconst (v := 2) hx hb dX0_isLoad_6 (by decide) ?_
    refine lv_icmp_ne (tgt := 14) hx hb dX0_isLoad_7 (by decide) (fun c_4 => ?_) (fun c_4 => ?_)
    · -- taken
      refine lv_iconst (v := 0) hx hb dX0_isLoad_14 (by decide) ?_
      exact W.zret (v := (0 : Int32)) hx hb hr (nb_01 (Or.inl rfl)) (fun t ht hW => ⟨⟨(0 : Int32), (), rfl, by rw [fX0_isLoad, if_pos c_1, if_neg c_4], trivial⟩, hS.F ht⟩) hS.2.2 dX0_isLoad_15
    · -- not taken
      refine lv_iconst (v := 1) hx hb dX0_isLoad_10 (by decide) ?_
      refine lv_goto (tgt := 15) hx hb dX0_isLoad_11 (by decide) ?_
      exact W.zret (v := (1 : Int32)) hx hb hr (nb_01 (Or.inr rfl)) (fun t ht hW => ⟨⟨(1 : Int32), (), rfl, by rw [fX0_isLoad, if_pos c_1, if_pos c_4], trivial⟩, hS.F ht⟩) hS.2.2 dX0_isLoad_15
set_option maxHeartbeats 4000000 in
set_option maxRecDepth 100000 in
theorem mX0_isPair (l : Launch) (sz : Nat) (p0 : Int32) : Met l yX0_isPair wsX0_isPair ({ frames := 2, cells := 0, slots := 0, locals := 42 }) (va_Pc [.int p0] (fun U => U.heap.size = sz)) (va_Qi (fun (r : Int32) (_ : Unit) => r = fX0_isPair p0) (fun _ _ => True) (fun q : Nat => sz ≤ q)) 0 0 (fun q : Nat => sz ≤ q) := by
  refine Met.ofW (cc := cX0_isPair) (maxL := 7) (ret := (some .boolean)) (by decide) rfl ?_
  intro p e s m args below meth c s₁ B hml hv
  obtain ⟨rfl, hsz⟩ := hv
  have hx := B.exec
  have hb := B.bytes
  have hr := B.returns
  have hts := atoms_spec (ws := wsX0_isPair) B.pre
  have hown : s.vm.findClass RX0 = some m.cls := findClass_of_methodNamed B.named
  have hlocks := B.notSynchronized
  subst hsz
  have hS : va_S (fun q : Nat => s.heap.size ≤ q) s.heap s.heap [] := va_S.rf
  have hl := lv_entry ([.int p0]) (n := 7) (Nat.le_of_ble_eq_true rfl)
  rw [lg_entry_eq]
  generalize (lg_sl ([.int p0]) ++ List.replicate (7 - (lg_sl ([.int p0])).length) Slot.unset).toArray = ls at hl ⊢
  have hl : lv_has ls 7 [(0, .int p0)] := hl
  refine lv_iload_n hx hb dX0_isPair_0 rfl (lv_at hl 0 rfl) ?_
  refine lv_bipush (v := 23) hx hb dX0_isPair_1 (by decide) ?_
  refine lv_iconst (v := 2) hx hb dX0_isPair_3 (by decide) ?_
  refine va_calli (va_runS (As := [.int p0, .int (23 : Int32), .int (2 : Int32)]) (rest := []) ⟨hx, hb, hml, hown, hts⟩ (mX0_bits l s.heap.size p0 (23 : Int32) (2 : Int32)) (va_cwS 3 hts gX0_isPair_X0_bits rfl rfl rfl (by decide +kernel) ⟨Nat.le_of_ble_eq_true rfl, Nat.le_of_ble_eq_true rfl⟩) ⟨fb_pure, fun U hU hW => ⟨rfl, congrArg Array.size hU⟩⟩ rfl rfl hl.1 rfl (lv_room (Nat.le_of_ble_eq_true rfl)) dX0_isPair_4 ⟨Nat.zero_le _, Nat.zero_le _⟩) hS (fun q _ h => Nat.le_trans hS.1 h) (fun q h => Nat.le_trans hS.1 h) (fun r_1 _ _ H_1 _ _ _ hw _ _ _ hS => ?_)
  subst hw
  refine lv_istore_n (lv' := [(1, .int (fX0_bits p0 (23 : Int32) (2 : Int32))), (0, .int p0)]) hx hb dX0_isPair_7 rfl hl (by decide) rfl (fun ls hl => ?_)
  refine lv_iload_n hx hb dX0_isPair_8 rfl (lv_at hl 1 rfl) ?_
  refine lv_iconst (v := 0) hx hb dX0_isPair_9 (by decide) ?_
  refine lv_iconst (v := 5) hx hb dX0_isPair_10 (by decide) ?_
  refine va_calli (va_runS (As := [.int p0, .int (0 : Int32), .int (5 : Int32)]) (rest := []) ⟨hx, hb, hml, hown, hts⟩ (mX0_bits l H_1.size p0 (0 : Int32) (5 : Int32)) (va_cwS 3 hts gX0_isPair_X0_bits rfl rfl rfl (by decide +kernel) ⟨Nat.le_of_ble_eq_true rfl, Nat.le_of_ble_eq_true rfl⟩) ⟨fb_pure, fun U hU hW => ⟨rfl, congrArg Array.size hU⟩⟩ rfl rfl hl.1 rfl (lv_room (Nat.le_of_ble_eq_true rfl)) dX0_isPair_11 ⟨Nat.zero_le _, Nat.zero_le _⟩) hS (fun q _ h => Nat.le_trans hS.1 h) (fun q h => Nat.le_trans hS.1 h) (fun r_2 _ _ H_2 _ _ _ hw _ _ _ hS => ?_)
  subst hw
  refine lv_istore_n (lv' := [(2, .int (fX0_bits p0 (0 : Int32) (5 : Int32))), (1, .int (fX0_bits p0 (23 : Int32) (2 : Int32))), (0, .int p0)]) hx hb dX0_isPair_14 rfl hl (by decide) rfl (fun ls hl => ?_)
  refine lv_iload_n hx hb dX0_isPair_15 rfl (lv_at hl 2 rfl) ?_
  refine lv_iconst (v := 5) hx hb dX0_isPair_16 (by decide) ?_
  refine lv_iconst (v := 5) hx hb dX0_isPair_17 (by decide) ?_
  refine va_calli (va_runS (As := [.int p0, .int (5 : Int32), .int (5 : Int32)]) (rest := []) ⟨hx, hb, hml, hown, hts⟩ (mX0_bits l H_2.size p0 (5 : Int32) (5 : Int32)) (va_cwS 3 hts gX0_isPair_X0_bits rfl rfl rfl (by decide +kernel) ⟨Nat.le_of_ble_eq_true rfl, Nat.le_of_ble_eq_true rfl⟩) ⟨fb_pure, fun U hU hW => ⟨rfl, congrArg Array.size hU⟩⟩ rfl rfl hl.1 rfl (lv_room (Nat.le_of_ble_eq_true rfl)) dX0_isPair_18 ⟨Nat.zero_le _, Nat.zero_le _⟩) hS (fun q _ h => Nat.le_trans hS.1 h) (fun q h => Nat.le_trans hS.1 h) (fun r_3 _ _ H_3 _ _ _ hw _ _ _ hS => ?_)
  subst hw
  refine lv_istore_n (lv' := [(3, .int (fX0_bits p0 (5 : Int32) (5 : Int32))), (2, .int (fX0_bits p0 (0 : Int32) (5 : Int32))), (1, .int (fX0_bits p0 (23 : Int32) (2 : Int32))), (0, .int p0)]) hx hb dX0_isPair_21 rfl hl (by decide) rfl (fun ls hl => ?_)
  refine lv_iload_n hx hb dX0_isPair_22 rfl (lv_at hl 3 rfl) ?_
  refine lv_bipush (v := 10) hx hb dX0_isPair_23 (by decide) ?_
  refine lv_iconst (v := 5) hx hb dX0_isPair_25 (by decide) ?_
  refine va_calli (va_runS (As := [.int p0, .int (10 : Int32), .int (5 : Int32)]) (rest := []) ⟨hx, hb, hml, hown, hts⟩ (mX0_bits l H_3.size p0 (10 : Int32) (5 : Int32)) (va_cwS 3 hts gX0_isPair_X0_bits rfl rfl rfl (by decide +kernel) ⟨Nat.le_of_ble_eq_true rfl, Nat.le_of_ble_eq_true rfl⟩) ⟨fb_pure, fun U hU hW => ⟨rfl, congrArg Array.size hU⟩⟩ rfl rfl hl.1 rfl (lv_room (Nat.le_of_ble_eq_true rfl)) dX0_isPair_26 ⟨Nat.zero_le _, Nat.zero_le _⟩) hS (fun q _ h => Nat.le_trans hS.1 h) (fun q h => Nat.le_trans hS.1 h) (fun r_4 _ _ H_4 _ _ _ hw _ _ _ hS => ?_)
  subst hw
  refine lv_istore (lv' := [(4, .int (fX0_bits p0 (10 : Int32) (5 : Int32))), (3, .int (fX0_bits p0 (5 : Int32) (5 : Int32))), (2, .int (fX0_bits p0 (0 : Int32) (5 : Int32))), (1, .int (fX0_bits p0 (23 : Int32) (2 : Int32))), (0, .int p0)]) hx hb dX0_isPair_29 hl (by decide) rfl (fun ls hl => ?_)
  refine lv_iload_n hx hb dX0_isPair_31 rfl (lv_at hl 4 rfl) ?_
  refine lv_bipush (v := 22) hx hb dX0_isPair_32 (by decide) ?_
  refine lv_iconst (v := 1) hx hb dX0_isPair_34 (by decide) ?_
  refine va_calli (va_runS (As := [.int p0, .int (22 : Int32), .int (1 : Int32)]) (rest := []) ⟨hx, hb, hml, hown, hts⟩ (mX0_bits l H_4.size p0 (22 : Int32) (1 : Int32)) (va_cwS 3 hts gX0_isPair_X0_bits rfl rfl rfl (by decide +kernel) ⟨Nat.le_of_ble_eq_true rfl, Nat.le_of_ble_eq_true rfl⟩) ⟨fb_pure, fun U hU hW => ⟨rfl, congrArg Array.size hU⟩⟩ rfl rfl hl.1 rfl (lv_room (Nat.le_of_ble_eq_true rfl)) dX0_isPair_35 ⟨Nat.zero_le _, Nat.zero_le _⟩) hS (fun q _ h => Nat.le_trans hS.1 h) (fun q h => Nat.le_trans hS.1 h) (fun r_5 _ _ H_5 _ _ _ hw _ _ _ hS => ?_)
  subst hw
  refine lv_iconst (v := 1) hx hb dX0_isPair_38 (by decide) ?_
  refine lv_icmp_ne (tgt := 46) hx hb dX0_isPair_39 (by decide) (fun c_6 => ?_) (fun c_6 => ?_)
  · -- taken
    refine lv_iconst (v := 0) hx hb dX0_isPair_46 (by decide) ?_
    refine lv_istore (lv' := [(5, .int (0 : Int32)), (4, .int (fX0_bits p0 (10 : Int32) (5 : Int32))), (3, .int (fX0_bits p0 (5 : Int32) (5 : Int32))), (2, .int (fX0_bits p0 (0 : Int32) (5 : Int32))), (1, .int (fX0_bits p0 (23 : Int32) (2 : Int32))), (0, .int p0)]) hx hb dX0_isPair_47 hl (by decide) rfl (fun ls hl => ?_)
    refine lv_iload_n hx hb dX0_isPair_49 rfl (lv_at hl 4 rfl) ?_
    refine lv_if_eq (tgt := 64) hx hb dX0_isPair_50 (by decide) (fun c_7 => ?_) (fun c_7 => ?_)
    · -- taken
      refine lv_iconst (v := 0) hx hb dX0_isPair_64 (by decide) ?_
      exact W.zret (v := (0 : Int32)) hx hb hr (nb_01 (Or.inl rfl)) (fun t ht hW => ⟨⟨(0 : Int32), (), rfl, by rw [fX0_isPair, if_neg c_6, if_pos c_7], trivial⟩, hS.F ht⟩) hS.2.2 dX0_isPair_65
    · -- not taken
      refine lv_iload hx hb dX0_isPair_53 (lv_at hl 0 rfl) ?_
      refine lv_if_eq (tgt := 66) hx hb dX0_isPair_55 (by decide) (fun _ => ?_) (fun c => absurd c (by decide))
      refine lv_iload_n hx hb dX0_isPair_66 rfl (lv_at hl 4 rfl) ?_
      refine lv_iconst (v := 2) hx hb dX0_isPair_67 (by decide) ?_
      refine lv_icmp_eq (tgt := 75) hx hb dX0_isPair_68 (by decide) (fun c_8 => ?_) (fun c_8 => ?_)
      · -- taken
        refine lv_iconst (v := 0) hx hb dX0_isPair_75 (by decide) ?_
        refine lv_istore (lv' := [(6, .int (0 : Int32)), (5, .int (0 : Int32)), (4, .int (fX0_bits p0 (10 : Int32) (5 : Int32))), (3, .int (fX0_bits p0 (5 : Int32) (5 : Int32))), (2, .int (fX0_bits p0 (0 : Int32) (5 : Int32))), (1, .int (fX0_bits p0 (23 : Int32) (2 : Int32))), (0, .int p0)]) hx hb dX0_isPair_76 hl (by decide) rfl (fun ls hl => ?_)
        refine lv_iload hx hb dX0_isPair_78 (lv_at hl 0 rfl) ?_
        refine lv_if_eq (tgt := 100) hx hb dX0_isPair_80 (by decide) (fun _ => ?_) (fun c => absurd c (by decide))
        refine lv_iconst (v := 1) hx hb dX0_isPair_100 (by decide) ?_
        refine lv_goto (tgt := 105) hx hb dX0_isPair_101 (by decide) ?_
        exact W.zret (v := (1 : Int32)) hx hb hr (nb_01 (Or.inr rfl)) (fun t ht hW => ⟨⟨(1 : Int32), (), rfl, by rw [fX0_isPair, if_neg c_6, if_neg c_7, if_pos c_8], trivial⟩, hS.F ht⟩) hS.2.2 dX0_isPair_105
      · -- not taken
        refine lv_iconst (v := 1) hx hb dX0_isPair_71 (by decide) ?_
        refine lv_goto (tgt := 76) hx hb dX0_isPair_72 (by decide) ?_
        refine lv_istore (lv' := [(6, .int (1 : Int32)), (5, .int (0 : Int32)), (4, .int (fX0_bits p0 (10 : Int32) (5 : Int32))), (3, .int (fX0_bits p0 (5 : Int32) (5 : Int32))), (2, .int (fX0_bits p0 (0 : Int32) (5 : Int32))), (1, .int (fX0_bits p0 (23 : Int32) (2 : Int32))), (0, .int p0)]) hx hb dX0_isPair_76 hl (by decide) rfl (fun ls hl => ?_)
        refine lv_iload hx hb dX0_isPair_78 (lv_at hl 0 rfl) ?_
        refine lv_if_eq (tgt := 100) hx hb dX0_isPair_80 (by decide) (fun c => absurd c (by decide)) (fun _ => ?_)
        refine lv_iload_n hx hb dX0_isPair_83 rfl (lv_at hl 3 rfl) ?_
        refine lv_bipush (v := 31) hx hb dX0_isPair_84 (by decide) ?_
        refine lv_icmp_eq (tgt := 100) hx hb dX0_isPair_86 (by decide) (fun c_9 => ?_) (fun c_9 => ?_)
        · -- taken
          refine lv_iconst (v := 1) hx hb dX0_isPair_100 (by decide) ?_
          refine lv_goto (tgt := 105) hx hb dX0_isPair_101 (by decide) ?_
          exact W.zret (v := (1 : Int32)) hx hb hr (nb_01 (Or.inr rfl)) (fun t ht hW => ⟨⟨(1 : Int32), (), rfl, by rw [fX0_isPair, if_neg c_6, if_neg c_7, if_neg c_8, if_pos c_9], trivial⟩, hS.F ht⟩) hS.2.2 dX0_isPair_105
        · -- not taken
          refine lv_iload_n hx hb dX0_isPair_89 rfl (lv_at hl 3 rfl) ?_
          refine lv_iload_n hx hb dX0_isPair_90 rfl (lv_at hl 4 rfl) ?_
          refine lv_icmp_eq (tgt := 104) hx hb dX0_isPair_91 (by decide) (fun c_10 => ?_) (fun c_10 => ?_)
          · -- taken
            refine lv_iconst (v := 0) hx hb dX0_isPair_104 (by decide) ?_
            exact W.zret (v := (0 : Int32)) hx hb hr (nb_01 (Or.inl rfl)) (fun t ht hW => ⟨⟨(0 : Int32), (), rfl, by rw [fX0_isPair, if_neg c_6, if_neg c_7, if_neg c_8, if_neg c_9, if_pos c_10], trivial⟩, hS.F ht⟩) hS.2.2 dX0_isPair_105
          · -- not taken
            refine lv_iload_n hx hb dX0_isPair_94 rfl (lv_at hl 3 rfl) ?_
            refine lv_iload hx hb dX0_isPair_95 (lv_at hl 2 rfl) ?_
            refine lv_icmp_eq (tgt := 104) hx hb dX0_isPair_97 (by decide) (fun c_11 => ?_) (fun c_11 => ?_)
            · -- taken
              refine lv_iconst (v := 0) hx hb dX0_isPair_104 (by decide) ?_
              exact W.zret (v := (0 : Int32)) hx hb hr (nb_01 (Or.inl rfl)) (fun t ht hW => ⟨⟨(0 : Int32), (), rfl, by rw [fX0_isPair, if_neg c_6, if_neg c_7, if_neg c_8, if_neg c_9, if_neg c_10, if_pos c_11], trivial⟩, hS.F ht⟩) hS.2.2 dX0_isPair_105
            · -- not taken
              refine lv_iconst (v := 1) hx hb dX0_isPair_100 (by decide) ?_
              refine lv_goto (tgt := 105) hx hb dX0_isPair_101 (by decide) ?_
              exact W.zret (v := (1 : Int32)) hx hb hr (nb_01 (Or.inr rfl)) (fun t ht hW => ⟨⟨(1 : Int32), (), rfl, by rw [fX0_isPair, if_neg c_6, if_neg c_7, if_neg c_8, if_neg c_9, if_neg c_10, if_neg c_11], trivial⟩, hS.F ht⟩) hS.2.2 dX0_isPair_105
  · -- not taken
    refine lv_iconst (v := 1) hx hb dX0_isPair_42 (by decide) ?_
    refine lv_goto (tgt := 47) hx hb dX0_isPair_43 (by decide) ?_
    refine lv_istore (lv' := [(5, .int (1 : Int32)), (4, .int (fX0_bits p0 (10 : Int32) (5 : Int32))), (3, .int (fX0_bits p0 (5 : Int32) (5 : Int32))), (2, .int (fX0_bits p0 (0 : Int32) (5 : Int32))), (1, .int (fX0_bits p0 (23 : Int32) (2 : Int32))), (0, .int p0)]) hx hb dX0_isPair_47 hl (by decide) rfl (fun ls hl => ?_)
    refine lv_iload_n hx hb dX0_isPair_49 rfl (lv_at hl 4 rfl) ?_
    refine lv_if_eq (tgt := 64) hx hb dX0_isPair_50 (by decide) (fun c_12 => ?_) (fun c_12 => ?_)
    · -- taken
      refine lv_iconst (v := 0) hx hb dX0_isPair_64 (by decide) ?_
      exact W.zret (v := (0 : Int32)) hx hb hr (nb_01 (Or.inl rfl)) (fun t ht hW => ⟨⟨(0 : Int32), (), rfl, by rw [fX0_isPair, if_pos c_6, if_pos c_12], trivial⟩, hS.F ht⟩) hS.2.2 dX0_isPair_65
    · -- not taken
      refine lv_iload hx hb dX0_isPair_53 (lv_at hl 0 rfl) ?_
      refine lv_if_eq (tgt := 66) hx hb dX0_isPair_55 (by decide) (fun c => absurd c (by decide)) (fun _ => ?_)
      refine lv_iload_n hx hb dX0_isPair_58 rfl (lv_at hl 3 rfl) ?_
      refine lv_iload hx hb dX0_isPair_59 (lv_at hl 1 rfl) ?_
      refine lv_icmp_ne (tgt := 66) hx hb dX0_isPair_61 (by decide) (fun c_13 => ?_) (fun c_13 => ?_)
      · -- taken
        refine lv_iload_n hx hb dX0_isPair_66 rfl (lv_at hl 4 rfl) ?_
        refine lv_iconst (v := 2) hx hb dX0_isPair_67 (by decide) ?_
        refine lv_icmp_eq (tgt := 75) hx hb dX0_isPair_68 (by decide) (fun c_14 => ?_) (fun c_14 => ?_)
        · -- taken
          refine lv_iconst (v := 0) hx hb dX0_isPair_75 (by decide) ?_
          refine lv_istore (lv' := [(6, .int (0 : Int32)), (5, .int (1 : Int32)), (4, .int (fX0_bits p0 (10 : Int32) (5 : Int32))), (3, .int (fX0_bits p0 (5 : Int32) (5 : Int32))), (2, .int (fX0_bits p0 (0 : Int32) (5 : Int32))), (1, .int (fX0_bits p0 (23 : Int32) (2 : Int32))), (0, .int p0)]) hx hb dX0_isPair_76 hl (by decide) rfl (fun ls hl => ?_)
          refine lv_iload hx hb dX0_isPair_78 (lv_at hl 0 rfl) ?_
          refine lv_if_eq (tgt := 100) hx hb dX0_isPair_80 (by decide) (fun _ => ?_) (fun c => absurd c (by decide))
          refine lv_iconst (v := 1) hx hb dX0_isPair_100 (by decide) ?_
          refine lv_goto (tgt := 105) hx hb dX0_isPair_101 (by decide) ?_
          exact W.zret (v := (1 : Int32)) hx hb hr (nb_01 (Or.inr rfl)) (fun t ht hW => ⟨⟨(1 : Int32), (), rfl, by rw [fX0_isPair, if_pos c_6, if_neg c_12, if_neg c_13, if_pos c_14], trivial⟩, hS.F ht⟩) hS.2.2 dX0_isPair_105
        · -- not taken
          refine lv_iconst (v := 1) hx hb dX0_isPair_71 (by decide) ?_
          refine lv_goto (tgt := 76) hx hb dX0_isPair_72 (by decide) ?_
          refine lv_istore (lv' := [(6, .int (1 : Int32)), (5, .int (1 : Int32)), (4, .int (fX0_bits p0 (10 : Int32) (5 : Int32))), (3, .int (fX0_bits p0 (5 : Int32) (5 : Int32))), (2, .int (fX0_bits p0 (0 : Int32) (5 : Int32))), (1, .int (fX0_bits p0 (23 : Int32) (2 : Int32))), (0, .int p0)]) hx hb dX0_isPair_76 hl (by decide) rfl (fun ls hl => ?_)
          refine lv_iload hx hb dX0_isPair_78 (lv_at hl 0 rfl) ?_
          refine lv_if_eq (tgt := 100) hx hb dX0_isPair_80 (by decide) (fun c => absurd c (by decide)) (fun _ => ?_)
          refine lv_iload_n hx hb dX0_isPair_83 rfl (lv_at hl 3 rfl) ?_
          refine lv_bipush (v := 31) hx hb dX0_isPair_84 (by decide) ?_
          refine lv_icmp_eq (tgt := 100) hx hb dX0_isPair_86 (by decide) (fun c_15 => ?_) (fun c_15 => ?_)
          · -- taken
            refine lv_iconst (v := 1) hx hb dX0_isPair_100 (by decide) ?_
            refine lv_goto (tgt := 105) hx hb dX0_isPair_101 (by decide) ?_
            exact W.zret (v := (1 : Int32)) hx hb hr (nb_01 (Or.inr rfl)) (fun t ht hW => ⟨⟨(1 : Int32), (), rfl, by rw [fX0_isPair, if_pos c_6, if_neg c_12, if_neg c_13, if_neg c_14, if_pos c_15], trivial⟩, hS.F ht⟩) hS.2.2 dX0_isPair_105
          · -- not taken
            refine lv_iload_n hx hb dX0_isPair_89 rfl (lv_at hl 3 rfl) ?_
            refine lv_iload_n hx hb dX0_isPair_90 rfl (lv_at hl 4 rfl) ?_
            refine lv_icmp_eq (tgt := 104) hx hb dX0_isPair_91 (by decide) (fun c_16 => ?_) (fun c_16 => ?_)
            · -- taken
              refine lv_iconst (v := 0) hx hb dX0_isPair_104 (by decide) ?_
              exact W.zret (v := (0 : Int32)) hx hb hr (nb_01 (Or.inl rfl)) (fun t ht hW => ⟨⟨(0 : Int32), (), rfl, by rw [fX0_isPair, if_pos c_6, if_neg c_12, if_neg c_13, if_neg c_14, if_neg c_15, if_pos c_16], trivial⟩, hS.F ht⟩) hS.2.2 dX0_isPair_105
            · -- not taken
              refine lv_iload_n hx hb dX0_isPair_94 rfl (lv_at hl 3 rfl) ?_
              refine lv_iload hx hb dX0_isPair_95 (lv_at hl 2 rfl) ?_
              refine lv_icmp_eq (tgt := 104) hx hb dX0_isPair_97 (by decide) (fun c_17 => ?_) (fun c_17 => ?_)
              · -- taken
                refine lv_iconst (v := 0) hx hb dX0_isPair_104 (by decide) ?_
                exact W.zret (v := (0 : Int32)) hx hb hr (nb_01 (Or.inl rfl)) (fun t ht hW => ⟨⟨(0 : Int32), (), rfl, by rw [fX0_isPair, if_pos c_6, if_neg c_12, if_neg c_13, if_neg c_14, if_neg c_15, if_neg c_16, if_pos c_17], trivial⟩, hS.F ht⟩) hS.2.2 dX0_isPair_105
              · -- not taken
                refine lv_iconst (v := 1) hx hb dX0_isPair_100 (by decide) ?_
                refine lv_goto (tgt := 105) hx hb dX0_isPair_101 (by decide) ?_
                exact W.zret (v := (1 : Int32)) hx hb hr (nb_01 (Or.inr rfl)) (fun t ht hW => ⟨⟨(1 : Int32), (), rfl, by rw [fX0_isPair, if_pos c_6, if_neg c_12, if_neg c_13, if_neg c_14, if_neg c_15, if_neg c_16, if_neg c_17], trivial⟩, hS.F ht⟩) hS.2.2 dX0_isPair_105
      · -- not taken
        refine lv_iconst (v := 0) hx hb dX0_isPair_64 (by decide) ?_
        exact W.zret (v := (0 : Int32)) hx hb hr (nb_01 (Or.inl rfl)) (fun t ht hW => ⟨⟨(0 : Int32), (), rfl, by rw [fX0_isPair, if_pos c_6, if_neg c_12, if_pos c_13], trivial⟩, hS.F ht⟩) hS.2.2 dX0_isPair_65
set_option maxHeartbeats 4000000 in
set_option maxRecDepth 100000 in
theorem mX0_isAllowed (l : Launch) (sz : Nat) (p0 : Int32) (p1 : Int32) : Met l yX0_isAllowed wsX0_isAllowed ({ frames := 3, cells := 0, slots := 0, locals := 68 }) (va_Pc [.int p0, .int p1] (fun U => U.heap.size = sz)) (va_Qi (fun (r : Int32) (_ : Unit) => r = fX0_isAllowed p0 p1) (fun _ _ => True) (fun q : Nat => sz ≤ q)) 0 0 (fun q : Nat => sz ≤ q) := by
  refine Met.ofW (cc := cX0_isAllowed) (maxL := 2) (ret := (some .boolean)) (by decide) rfl ?_
  intro p e s m args below meth c s₁ B hml hv
  obtain ⟨rfl, hsz⟩ := hv
  have hx := B.exec
  have hb := B.bytes
  have hr := B.returns
  have hts := atoms_spec (ws := wsX0_isAllowed) B.pre
  have hown : s.vm.findClass RX0 = some m.cls := findClass_of_methodNamed B.named
  have hlocks := B.notSynchronized
  subst hsz
  have hS : va_S (fun q : Nat => s.heap.size ≤ q) s.heap s.heap [] := va_S.rf
  have hl := lv_entry ([.int p0, .int p1]) (n := 2) (Nat.le_of_ble_eq_true rfl)
  rw [lg_entry_eq]
  generalize (lg_sl ([.int p0, .int p1]) ++ List.replicate (2 - (lg_sl ([.int p0, .int p1])).length) Slot.unset).toArray = ls at hl ⊢
  have hl : lv_has ls 2 [(0, .int p0), (1, .int p1)] := hl
  refine lv_iload_n hx hb dX0_isAllowed_0 rfl (lv_at hl 0 rfl) ?_
  by_cases c_1 : p0 = (2 : Int32)
  · refine lv_tableIn (off := 67) (tgt := 68) hx hb dX0_isAllowed_1 (by rw [c_1]; decide) (by rw [c_1]; decide) (by rw [c_1]; decide) (by decide) ?_
    refine lv_iload_n hx hb dX0_isAllowed_68 rfl (lv_at hl 1 rfl) ?_
    refine lv_bipush (v := 22) hx hb dX0_isAllowed_69 (by decide) ?_
    refine lv_iconst (v := 2) hx hb dX0_isAllowed_71 (by decide) ?_
    refine va_calli (va_runS (As := [.int p1, .int (22 : Int32), .int (2 : Int32)]) (rest := []) ⟨hx, hb, hml, hown, hts⟩ (mX0_bits l s.heap.size p1 (22 : Int32) (2 : Int32)) (va_cwS 3 hts gX0_isAllowed_X0_bits rfl rfl rfl (by decide +kernel) ⟨Nat.le_of_ble_eq_true rfl, Nat.le_of_ble_eq_true rfl⟩) ⟨fb_pure, fun U hU hW => ⟨rfl, congrArg Array.size hU⟩⟩ rfl rfl hl.1 rfl (lv_room (Nat.le_of_ble_eq_true rfl)) dX0_isAllowed_72 ⟨Nat.zero_le _, Nat.zero_le _⟩) hS (fun q _ h => Nat.le_trans hS.1 h) (fun q h => Nat.le_trans hS.1 h) (fun r_2 _ _ H_2 _ _ _ hw _ _ _ hS => ?_)
    subst hw
    refine lv_iconst (v := 3) hx hb dX0_isAllowed_75 (by decide) ?_
    refine lv_icmp_eq (tgt := 90) hx hb dX0_isAllowed_76 (by decide) (fun c_3 => ?_) (fun c_3 => ?_)
    · -- taken
      refine lv_iconst (v := 0) hx hb dX0_isAllowed_90 (by decide) ?_
      exact W.zret (v := (0 : Int32)) hx hb hr (nb_01 (Or.inl rfl)) (fun t ht hW => ⟨⟨(0 : Int32), (), rfl, by rw [fX0_isAllowed, if_pos c_1, if_pos c_3], trivial⟩, hS.F ht⟩) hS.2.2 dX0_isAllowed_91
    · -- not taken
      refine lv_iload_n hx hb dX0_isAllowed_79 rfl (lv_at hl 1 rfl) ?_
      refine va_calli (va_runS (As := [.int p1]) (rest := []) ⟨hx, hb, hml, hown, hts⟩ (mX0_isMovedWithin l H_2.size p1) (va_cwS 1 hts gX0_isAllowed_X0_isMovedWithin rfl rfl rfl (by decide +kernel) ⟨Nat.le_of_ble_eq_true rfl, Nat.le_of_ble_eq_true rfl⟩) ⟨fb_pure, fun U hU hW => ⟨rfl, congrArg Array.size hU⟩⟩ rfl rfl hl.1 rfl (lv_room (Nat.le_of_ble_eq_true rfl)) dX0_isAllowed_80 ⟨Nat.zero_le _, Nat.zero_le _⟩) hS (fun q _ h => Nat.le_trans hS.1 h) (fun q h => Nat.le_trans hS.1 h) (fun r_4 _ _ H_4 _ _ _ hw _ _ _ hS => ?_)
      subst hw
      refine lv_if_eq (tgt := 90) hx hb dX0_isAllowed_83 (by decide) (fun c_5 => ?_) (fun c_5 => ?_)
      · -- taken
        refine lv_iconst (v := 0) hx hb dX0_isAllowed_90 (by decide) ?_
        exact W.zret (v := (0 : Int32)) hx hb hr (nb_01 (Or.inl rfl)) (fun t ht hW => ⟨⟨(0 : Int32), (), rfl, by rw [fX0_isAllowed, if_pos c_1, if_neg c_3, if_pos c_5], trivial⟩, hS.F ht⟩) hS.2.2 dX0_isAllowed_91
      · -- not taken
        refine lv_iconst (v := 1) hx hb dX0_isAllowed_86 (by decide) ?_
        refine lv_goto (tgt := 91) hx hb dX0_isAllowed_87 (by decide) ?_
        exact W.zret (v := (1 : Int32)) hx hb hr (nb_01 (Or.inr rfl)) (fun t ht hW => ⟨⟨(1 : Int32), (), rfl, by rw [fX0_isAllowed, if_pos c_1, if_neg c_3, if_neg c_5], trivial⟩, hS.F ht⟩) hS.2.2 dX0_isAllowed_91
  · -- another
    by_cases c_6 : p0 = (3 : Int32)
    · refine lv_tableIn (off := 91) (tgt := 92) hx hb dX0_isAllowed_1 (by rw [c_6]; decide) (by rw [c_6]; decide) (by rw [c_6]; decide) (by decide) ?_
      refine lv_iload_n hx hb dX0_isAllowed_92 rfl (lv_at hl 1 rfl) ?_
      refine va_calli (va_runS (As := [.int p1]) (rest := []) ⟨hx, hb, hml, hown, hts⟩ (mX0_isMovedWithin l s.heap.size p1) (va_cwS 1 hts gX0_isAllowed_X0_isMovedWithin rfl rfl rfl (by decide +kernel) ⟨Nat.le_of_ble_eq_true rfl, Nat.le_of_ble_eq_true rfl⟩) ⟨fb_pure, fun U hU hW => ⟨rfl, congrArg Array.size hU⟩⟩ rfl rfl hl.1 rfl (lv_room (Nat.le_of_ble_eq_true rfl)) dX0_isAllowed_93 ⟨Nat.zero_le _, Nat.zero_le _⟩) hS (fun q _ h => Nat.le_trans hS.1 h) (fun q h => Nat.le_trans hS.1 h) (fun r_7 _ _ H_7 _ _ _ hw _ _ _ hS => ?_)
      subst hw
      exact W.zret (v := (fX0_isMovedWithin p1)) hx hb hr (nb_01 (zX0_isMovedWithin ..)) (fun t ht hW => ⟨⟨(fX0_isMovedWithin p1), (), rfl, by rw [fX0_isAllowed, if_neg c_1, if_pos c_6], trivial⟩, hS.F ht⟩) hS.2.2 dX0_isAllowed_96
    · -- another
      by_cases c_8 : p0 = (4 : Int32)
      · refine lv_tableIn (off := 96) (tgt := 97) hx hb dX0_isAllowed_1 (by rw [c_8]; decide) (by rw [c_8]; decide) (by rw [c_8]; decide) (by decide) ?_
        refine lv_iload_n hx hb dX0_isAllowed_97 rfl (lv_at hl 1 rfl) ?_
        refine lv_bipush (v := 29) hx hb dX0_isAllowed_98 (by decide) ?_
        refine lv_iconst (v := 2) hx hb dX0_isAllowed_100 (by decide) ?_
        refine va_calli (va_runS (As := [.int p1, .int (29 : Int32), .int (2 : Int32)]) (rest := []) ⟨hx, hb, hml, hown, hts⟩ (mX0_bits l s.heap.size p1 (29 : Int32) (2 : Int32)) (va_cwS 3 hts gX0_isAllowed_X0_bits rfl rfl rfl (by decide +kernel) ⟨Nat.le_of_ble_eq_true rfl, Nat.le_of_ble_eq_true rfl⟩) ⟨fb_pure, fun U hU hW => ⟨rfl, congrArg Array.size hU⟩⟩ rfl rfl hl.1 rfl (lv_room (Nat.le_of_ble_eq_true rfl)) dX0_isAllowed_101 ⟨Nat.zero_le _, Nat.zero_le _⟩) hS (fun q _ h => Nat.le_trans hS.1 h) (fun q h => Nat.le_trans hS.1 h) (fun r_9 _ _ H_9 _ _ _ hw _ _ _ hS => ?_)
        subst hw
        refine lv_iconst (v := 1) hx hb dX0_isAllowed_104 (by decide) ?_
        refine lv_icmp_eq (tgt := 130) hx hb dX0_isAllowed_105 (by decide) (fun c_10 => ?_) (fun c_10 => ?_)
        · -- taken
          refine lv_iconst (v := 0) hx hb dX0_isAllowed_130 (by decide) ?_
          exact W.zret (v := (0 : Int32)) hx hb hr (nb_01 (Or.inl rfl)) (fun t ht hW => ⟨⟨(0 : Int32), (), rfl, by rw [fX0_isAllowed, if_neg c_1, if_neg c_6, if_pos c_8, if_pos c_10], trivial⟩, hS.F ht⟩) hS.2.2 dX0_isAllowed_131
        · -- not taken
          refine lv_iload_n hx hb dX0_isAllowed_108 rfl (lv_at hl 1 rfl) ?_
          refine va_calli (va_runS (As := [.int p1]) (rest := []) ⟨hx, hb, hml, hown, hts⟩ (mX0_isLong l H_9.size p1) (va_cwS 1 hts gX0_isAllowed_X0_isLong rfl rfl rfl (by decide +kernel) ⟨Nat.le_of_ble_eq_true rfl, Nat.le_of_ble_eq_true rfl⟩) ⟨fb_pure, fun U hU hW => ⟨rfl, congrArg Array.size hU⟩⟩ rfl rfl hl.1 rfl (lv_room (Nat.le_of_ble_eq_true rfl)) dX0_isAllowed_109 ⟨Nat.zero_le _, Nat.zero_le _⟩) hS (fun q _ h => Nat.le_trans hS.1 h) (fun q h => Nat.le_trans hS.1 h) (fun r_11 _ _ H_11 _ _ _ hw _ _ _ hS => ?_)
          subst hw
          refine lv_if_ne (tgt := 126) hx hb dX0_isAllowed_112 (by decide) (fun c_12 => ?_) (fun c_12 => ?_)
          · -- taken
            refine lv_iconst (v := 1) hx hb dX0_isAllowed_126 (by decide) ?_
            refine lv_goto (tgt := 131) hx hb dX0_isAllowed_127 (by decide) ?_
            exact W.zret (v := (1 : Int32)) hx hb hr (nb_01 (Or.inr rfl)) (fun t ht hW => ⟨⟨(1 : Int32), (), rfl, by rw [fX0_isAllowed, if_neg c_1, if_neg c_6, if_pos c_8, if_neg c_10, if_neg c_12], trivial⟩, hS.F ht⟩) hS.2.2 dX0_isAllowed_131
          · -- not taken
            refine lv_iload_n hx hb dX0_isAllowed_115 rfl (lv_at hl 1 rfl) ?_
            refine lv_bipush (v := 21) hx hb dX0_isAllowed_116 (by decide) ?_
            refine lv_iconst (v := 2) hx hb dX0_isAllowed_118 (by decide) ?_
            refine va_calli (va_runS (As := [.int p1, .int (21 : Int32), .int (2 : Int32)]) (rest := []) ⟨hx, hb, hml, hown, hts⟩ (mX0_bits l H_11.size p1 (21 : Int32) (2 : Int32)) (va_cwS 3 hts gX0_isAllowed_X0_bits rfl rfl rfl (by decide +kernel) ⟨Nat.le_of_ble_eq_true rfl, Nat.le_of_ble_eq_true rfl⟩) ⟨fb_pure, fun U hU hW => ⟨rfl, congrArg Array.size hU⟩⟩ rfl rfl hl.1 rfl (lv_room (Nat.le_of_ble_eq_true rfl)) dX0_isAllowed_119 ⟨Nat.zero_le _, Nat.zero_le _⟩) hS (fun q _ h => Nat.le_trans hS.1 h) (fun q h => Nat.le_trans hS.1 h) (fun r_13 _ _ H_13 _ _ _ hw _ _ _ hS => ?_)
            subst hw
            refine lv_iconst (v := 2) hx hb dX0_isAllowed_122 (by decide) ?_
            refine lv_icmp_ge (tgt := 130) hx hb dX0_isAllowed_123 (by decide) (fun c_14 => ?_) (fun c_14 => ?_)
            · -- taken
              refine lv_iconst (v := 0) hx hb dX0_isAllowed_130 (by decide) ?_
              exact W.zret (v := (0 : Int32)) hx hb hr (nb_01 (Or.inl rfl)) (fun t ht hW => ⟨⟨(0 : Int32), (), rfl, by rw [fX0_isAllowed, if_neg c_1, if_neg c_6, if_pos c_8, if_neg c_10, if_pos c_12, if_pos c_14], trivial⟩, hS.F ht⟩) hS.2.2 dX0_isAllowed_131
            · -- not taken
              refine lv_iconst (v := 1) hx hb dX0_isAllowed_126 (by decide) ?_
              refine lv_goto (tgt := 131) hx hb dX0_isAllowed_127 (by decide) ?_
              exact W.zret (v := (1 : Int32)) hx hb hr (nb_01 (Or.inr rfl)) (fun t ht hW => ⟨⟨(1 : Int32), (), rfl, by rw [fX0_isAllowed, if_neg c_1, if_neg c_6, if_pos c_8, if_neg c_10, if_pos c_12, if_neg c_14], trivial⟩, hS.F ht⟩) hS.2.2 dX0_isAllowed_131
      · -- another
        by_cases c_15 : p0 = (7 : Int32)
        · refine lv_tableIn (off := 131) (tgt := 132) hx hb dX0_isAllowed_1 (by rw [c_15]; decide) (by rw [c_15]; decide) (by rw [c_15]; decide) (by decide) ?_
          refine lv_iload_n hx hb dX0_isAllowed_132 rfl (lv_at hl 1 rfl) ?_
          refine lv_bipush (v := 10) hx hb dX0_isAllowed_133 (by decide) ?_
          refine lv_bipush (v := 6) hx hb dX0_isAllowed_135 (by decide) ?_
          refine va_calli (va_runS (As := [.int p1, .int (10 : Int32), .int (6 : Int32)]) (rest := []) ⟨hx, hb, hml, hown, hts⟩ (mX0_bits l s.heap.size p1 (10 : Int32) (6 : Int32)) (va_cwS 3 hts gX0_isAllowed_X0_bits rfl rfl rfl (by decide +kernel) ⟨Nat.le_of_ble_eq_true rfl, Nat.le_of_ble_eq_true rfl⟩) ⟨fb_pure, fun U hU hW => ⟨rfl, congrArg Array.size hU⟩⟩ rfl rfl hl.1 rfl (lv_room (Nat.le_of_ble_eq_true rfl)) dX0_isAllowed_137 ⟨Nat.zero_le _, Nat.zero_le _⟩) hS (fun q _ h => Nat.le_trans hS.1 h) (fun q h => Nat.le_trans hS.1 h) (fun r_16 _ _ H_16 _ _ _ hw _ _ _ hS => ?_)
          subst hw
          refine va_calli (va_runS (As := [.int (fX0_bits p1 (10 : Int32) (6 : Int32))]) (rest := []) ⟨hx, hb, hml, hown, hts⟩ (mX0_isTwo l H_16.size (fX0_bits p1 (10 : Int32) (6 : Int32))) (va_cwS 1 hts gX0_isAllowed_X0_isTwo rfl rfl rfl (by decide +kernel) ⟨Nat.le_of_ble_eq_true rfl, Nat.le_of_ble_eq_true rfl⟩) ⟨fb_pure, fun U hU hW => ⟨rfl, congrArg Array.size hU⟩⟩ rfl rfl hl.1 rfl (lv_room (Nat.le_of_ble_eq_true rfl)) dX0_isAllowed_140 ⟨Nat.zero_le _, Nat.zero_le _⟩) hS (fun q _ h => Nat.le_trans hS.1 h) (fun q h => Nat.le_trans hS.1 h) (fun r_17 _ _ H_17 _ _ _ hw _ _ _ hS => ?_)
          subst hw
          exact W.zret (v := (fX0_isTwo (fX0_bits p1 (10 : Int32) (6 : Int32)))) hx hb hr (nb_01 (zX0_isTwo ..)) (fun t ht hW => ⟨⟨(fX0_isTwo (fX0_bits p1 (10 : Int32) (6 : Int32))), (), rfl, by rw [fX0_isAllowed, if_neg c_1, if_neg c_6, if_neg c_8, if_pos c_15], trivial⟩, hS.F ht⟩) hS.2.2 dX0_isAllowed_143
        · -- another
          by_cases c_18 : p0 = (8 : Int32)
          · refine lv_tableIn (off := 143) (tgt := 144) hx hb dX0_isAllowed_1 (by rw [c_18]; decide) (by rw [c_18]; decide) (by rw [c_18]; decide) (by decide) ?_
            refine lv_iload_n hx hb dX0_isAllowed_144 rfl (lv_at hl 1 rfl) ?_
            refine lv_bipush (v := 12) hx hb dX0_isAllowed_145 (by decide) ?_
            refine lv_iconst (v := 4) hx hb dX0_isAllowed_147 (by decide) ?_
            refine va_calli (va_runS (As := [.int p1, .int (12 : Int32), .int (4 : Int32)]) (rest := []) ⟨hx, hb, hml, hown, hts⟩ (mX0_bits l s.heap.size p1 (12 : Int32) (4 : Int32)) (va_cwS 3 hts gX0_isAllowed_X0_bits rfl rfl rfl (by decide +kernel) ⟨Nat.le_of_ble_eq_true rfl, Nat.le_of_ble_eq_true rfl⟩) ⟨fb_pure, fun U hU hW => ⟨rfl, congrArg Array.size hU⟩⟩ rfl rfl hl.1 rfl (lv_room (Nat.le_of_ble_eq_true rfl)) dX0_isAllowed_148 ⟨Nat.zero_le _, Nat.zero_le _⟩) hS (fun q _ h => Nat.le_trans hS.1 h) (fun q h => Nat.le_trans hS.1 h) (fun r_19 _ _ H_19 _ _ _ hw _ _ _ hS => ?_)
            subst hw
            refine va_calli (va_runS (As := [.int (fX0_bits p1 (12 : Int32) (4 : Int32))]) (rest := []) ⟨hx, hb, hml, hown, hts⟩ (mX0_isCondition l H_19.size (fX0_bits p1 (12 : Int32) (4 : Int32))) (va_cwS 1 hts gX0_isAllowed_X0_isCondition rfl rfl rfl (by decide +kernel) ⟨Nat.le_of_ble_eq_true rfl, Nat.le_of_ble_eq_true rfl⟩) ⟨fb_pure, fun U hU hW => ⟨rfl, congrArg Array.size hU⟩⟩ rfl rfl hl.1 rfl (lv_room (Nat.le_of_ble_eq_true rfl)) dX0_isAllowed_151 ⟨Nat.zero_le _, Nat.zero_le _⟩) hS (fun q _ h => Nat.le_trans hS.1 h) (fun q h => Nat.le_trans hS.1 h) (fun r_20 _ _ H_20 _ _ _ hw _ _ _ hS => ?_)
            subst hw
            exact W.zret (v := (fX0_isCondition (fX0_bits p1 (12 : Int32) (4 : Int32)))) hx hb hr (nb_01 (zX0_isCondition ..)) (fun t ht hW => ⟨⟨(fX0_isCondition (fX0_bits p1 (12 : Int32) (4 : Int32))), (), rfl, by rw [fX0_isAllowed, if_neg c_1, if_neg c_6, if_neg c_8, if_neg c_15, if_pos c_18], trivial⟩, hS.F ht⟩) hS.2.2 dX0_isAllowed_154
          · -- another
            by_cases c_21 : p0 = (9 : Int32)
            · refine lv_tableIn (off := 154) (tgt := 155) hx hb dX0_isAllowed_1 (by rw [c_21]; decide) (by rw [c_21]; decide) (by rw [c_21]; decide) (by decide) ?_
              refine lv_iload_n hx hb dX0_isAllowed_155 rfl (lv_at hl 1 rfl) ?_
              refine lv_bipush (v := 30) hx hb dX0_isAllowed_156 (by decide) ?_
              refine lv_iconst (v := 2) hx hb dX0_isAllowed_158 (by decide) ?_
              refine va_calli (va_runS (As := [.int p1, .int (30 : Int32), .int (2 : Int32)]) (rest := []) ⟨hx, hb, hml, hown, hts⟩ (mX0_bits l s.heap.size p1 (30 : Int32) (2 : Int32)) (va_cwS 3 hts gX0_isAllowed_X0_bits rfl rfl rfl (by decide +kernel) ⟨Nat.le_of_ble_eq_true rfl, Nat.le_of_ble_eq_true rfl⟩) ⟨fb_pure, fun U hU hW => ⟨rfl, congrArg Array.size hU⟩⟩ rfl rfl hl.1 rfl (lv_room (Nat.le_of_ble_eq_true rfl)) dX0_isAllowed_159 ⟨Nat.zero_le _, Nat.zero_le _⟩) hS (fun q _ h => Nat.le_trans hS.1 h) (fun q h => Nat.le_trans hS.1 h) (fun r_22 _ _ H_22 _ _ _ hw _ _ _ hS => ?_)
              subst hw
              refine lv_iload_n hx hb dX0_isAllowed_162 rfl (lv_at hl 1 rfl) ?_
              refine lv_bipush (v := 22) hx hb dX0_isAllowed_163 (by decide) ?_
              refine lv_iconst (v := 2) hx hb dX0_isAllowed_165 (by decide) ?_
              refine va_calli (va_runS (As := [.int p1, .int (22 : Int32), .int (2 : Int32)]) (rest := [.int (fX0_bits p1 (30 : Int32) (2 : Int32))]) ⟨hx, hb, hml, hown, hts⟩ (mX0_bits l H_22.size p1 (22 : Int32) (2 : Int32)) (va_cwS 3 hts gX0_isAllowed_X0_bits rfl rfl rfl (by decide +kernel) ⟨Nat.le_of_ble_eq_true rfl, Nat.le_of_ble_eq_true rfl⟩) ⟨fb_pure, fun U hU hW => ⟨rfl, congrArg Array.size hU⟩⟩ rfl rfl hl.1 rfl (lv_room (Nat.le_of_ble_eq_true rfl)) dX0_isAllowed_166 ⟨Nat.zero_le _, Nat.zero_le _⟩) hS (fun q _ h => Nat.le_trans hS.1 h) (fun q h => Nat.le_trans hS.1 h) (fun r_23 _ _ H_23 _ _ _ hw _ _ _ hS => ?_)
              subst hw
              refine va_calli (va_runS (As := [.int (fX0_bits p1 (30 : Int32) (2 : Int32)), .int (fX0_bits p1 (22 : Int32) (2 : Int32))]) (rest := []) ⟨hx, hb, hml, hown, hts⟩ (mX0_isLoad l H_23.size (fX0_bits p1 (30 : Int32) (2 : Int32)) (fX0_bits p1 (22 : Int32) (2 : Int32))) (va_cwS 2 hts gX0_isAllowed_X0_isLoad rfl rfl rfl (by decide +kernel) ⟨Nat.le_of_ble_eq_true rfl, Nat.le_of_ble_eq_true rfl⟩) ⟨fb_pure, fun U hU hW => ⟨rfl, congrArg Array.size hU⟩⟩ rfl rfl hl.1 rfl (lv_room (Nat.le_of_ble_eq_true rfl)) dX0_isAllowed_169 ⟨Nat.zero_le _, Nat.zero_le _⟩) hS (fun q _ h => Nat.le_trans hS.1 h) (fun q h => Nat.le_trans hS.1 h) (fun r_24 _ _ H_24 _ _ _ hw _ _ _ hS => ?_)
              subst hw
              exact W.zret (v := (fX0_isLoad (fX0_bits p1 (30 : Int32) (2 : Int32)) (fX0_bits p1 (22 : Int32) (2 : Int32)))) hx hb hr (nb_01 (zX0_isLoad ..)) (fun t ht hW => ⟨⟨(fX0_isLoad (fX0_bits p1 (30 : Int32) (2 : Int32)) (fX0_bits p1 (22 : Int32) (2 : Int32))), (), rfl, by rw [fX0_isAllowed, if_neg c_1, if_neg c_6, if_neg c_8, if_neg c_15, if_neg c_18, if_pos c_21], trivial⟩, hS.F ht⟩) hS.2.2 dX0_isAllowed_172
            · -- another
              by_cases c_25 : p0 = (10 : Int32)
              · refine lv_tableIn (off := 154) (tgt := 155) hx hb dX0_isAllowed_1 (by rw [c_25]; decide) (by rw [c_25]; decide) (by rw [c_25]; decide) (by decide) ?_
                refine lv_iload_n hx hb dX0_isAllowed_155 rfl (lv_at hl 1 rfl) ?_
                refine lv_bipush (v := 30) hx hb dX0_isAllowed_156 (by decide) ?_
                refine lv_iconst (v := 2) hx hb dX0_isAllowed_158 (by decide) ?_
                refine va_calli (va_runS (As := [.int p1, .int (30 : Int32), .int (2 : Int32)]) (rest := []) ⟨hx, hb, hml, hown, hts⟩ (mX0_bits l s.heap.size p1 (30 : Int32) (2 : Int32)) (va_cwS 3 hts gX0_isAllowed_X0_bits rfl rfl rfl (by decide +kernel) ⟨Nat.le_of_ble_eq_true rfl, Nat.le_of_ble_eq_true rfl⟩) ⟨fb_pure, fun U hU hW => ⟨rfl, congrArg Array.size hU⟩⟩ rfl rfl hl.1 rfl (lv_room (Nat.le_of_ble_eq_true rfl)) dX0_isAllowed_159 ⟨Nat.zero_le _, Nat.zero_le _⟩) hS (fun q _ h => Nat.le_trans hS.1 h) (fun q h => Nat.le_trans hS.1 h) (fun r_26 _ _ H_26 _ _ _ hw _ _ _ hS => ?_)
                subst hw
                refine lv_iload_n hx hb dX0_isAllowed_162 rfl (lv_at hl 1 rfl) ?_
                refine lv_bipush (v := 22) hx hb dX0_isAllowed_163 (by decide) ?_
                refine lv_iconst (v := 2) hx hb dX0_isAllowed_165 (by decide) ?_
                refine va_calli (va_runS (As := [.int p1, .int (22 : Int32), .int (2 : Int32)]) (rest := [.int (fX0_bits p1 (30 : Int32) (2 : Int32))]) ⟨hx, hb, hml, hown, hts⟩ (mX0_bits l H_26.size p1 (22 : Int32) (2 : Int32)) (va_cwS 3 hts gX0_isAllowed_X0_bits rfl rfl rfl (by decide +kernel) ⟨Nat.le_of_ble_eq_true rfl, Nat.le_of_ble_eq_true rfl⟩) ⟨fb_pure, fun U hU hW => ⟨rfl, congrArg Array.size hU⟩⟩ rfl rfl hl.1 rfl (lv_room (Nat.le_of_ble_eq_true rfl)) dX0_isAllowed_166 ⟨Nat.zero_le _, Nat.zero_le _⟩) hS (fun q _ h => Nat.le_trans hS.1 h) (fun q h => Nat.le_trans hS.1 h) (fun r_27 _ _ H_27 _ _ _ hw _ _ _ hS => ?_)
                subst hw
                refine va_calli (va_runS (As := [.int (fX0_bits p1 (30 : Int32) (2 : Int32)), .int (fX0_bits p1 (22 : Int32) (2 : Int32))]) (rest := []) ⟨hx, hb, hml, hown, hts⟩ (mX0_isLoad l H_27.size (fX0_bits p1 (30 : Int32) (2 : Int32)) (fX0_bits p1 (22 : Int32) (2 : Int32))) (va_cwS 2 hts gX0_isAllowed_X0_isLoad rfl rfl rfl (by decide +kernel) ⟨Nat.le_of_ble_eq_true rfl, Nat.le_of_ble_eq_true rfl⟩) ⟨fb_pure, fun U hU hW => ⟨rfl, congrArg Array.size hU⟩⟩ rfl rfl hl.1 rfl (lv_room (Nat.le_of_ble_eq_true rfl)) dX0_isAllowed_169 ⟨Nat.zero_le _, Nat.zero_le _⟩) hS (fun q _ h => Nat.le_trans hS.1 h) (fun q h => Nat.le_trans hS.1 h) (fun r_28 _ _ H_28 _ _ _ hw _ _ _ hS => ?_)
                subst hw
                exact W.zret (v := (fX0_isLoad (fX0_bits p1 (30 : Int32) (2 : Int32)) (fX0_bits p1 (22 : Int32) (2 : Int32)))) hx hb hr (nb_01 (zX0_isLoad ..)) (fun t ht hW => ⟨⟨(fX0_isLoad (fX0_bits p1 (30 : Int32) (2 : Int32)) (fX0_bits p1 (22 : Int32) (2 : Int32))), (), rfl, by rw [fX0_isAllowed, if_neg c_1, if_neg c_6, if_neg c_8, if_neg c_15, if_neg c_18, if_neg c_21, if_pos c_25], trivial⟩, hS.F ht⟩) hS.2.2 dX0_isAllowed_172
              · -- another
                by_cases c_29 : p0 = (11 : Int32)
                · refine lv_tableIn (off := 172) (tgt := 173) hx hb dX0_isAllowed_1 (by rw [c_29]; decide) (by rw [c_29]; decide) (by rw [c_29]; decide) (by decide) ?_
                  refine lv_iload_n hx hb dX0_isAllowed_173 rfl (lv_at hl 1 rfl) ?_
                  refine va_calli (va_runS (As := [.int p1]) (rest := []) ⟨hx, hb, hml, hown, hts⟩ (mX0_isPair l s.heap.size p1) (va_cwS 1 hts gX0_isAllowed_X0_isPair rfl rfl rfl (by decide +kernel) ⟨Nat.le_of_ble_eq_true rfl, Nat.le_of_ble_eq_true rfl⟩) ⟨fb_pure, fun U hU hW => ⟨rfl, congrArg Array.size hU⟩⟩ rfl rfl hl.1 rfl (lv_room (Nat.le_of_ble_eq_true rfl)) dX0_isAllowed_174 ⟨Nat.zero_le _, Nat.zero_le _⟩) hS (fun q _ h => Nat.le_trans hS.1 h) (fun q h => Nat.le_trans hS.1 h) (fun r_30 _ _ H_30 _ _ _ hw _ _ _ hS => ?_)
                  subst hw
                  exact W.zret (v := (fX0_isPair p1)) hx hb hr (nb_01 (zX0_isPair ..)) (fun t ht hW => ⟨⟨(fX0_isPair p1), (), rfl, by rw [fX0_isAllowed, if_neg c_1, if_neg c_6, if_neg c_8, if_neg c_15, if_neg c_18, if_neg c_21, if_neg c_25, if_pos c_29], trivial⟩, hS.F ht⟩) hS.2.2 dX0_isAllowed_177
                · -- another
                  by_cases c_31 : p0 = (14 : Int32)
                  · refine lv_tableIn (off := 177) (tgt := 178) hx hb dX0_isAllowed_1 (by rw [c_31]; decide) (by rw [c_31]; decide) (by rw [c_31]; decide) (by decide) ?_
                    refine lv_iload_n hx hb dX0_isAllowed_178 rfl (lv_at hl 1 rfl) ?_
                    refine lv_iconst (v := 0) hx hb dX0_isAllowed_179 (by decide) ?_
                    refine lv_iconst (v := 4) hx hb dX0_isAllowed_180 (by decide) ?_
                    refine va_calli (va_runS (As := [.int p1, .int (0 : Int32), .int (4 : Int32)]) (rest := []) ⟨hx, hb, hml, hown, hts⟩ (mX0_bits l s.heap.size p1 (0 : Int32) (4 : Int32)) (va_cwS 3 hts gX0_isAllowed_X0_bits rfl rfl rfl (by decide +kernel) ⟨Nat.le_of_ble_eq_true rfl, Nat.le_of_ble_eq_true rfl⟩) ⟨fb_pure, fun U hU hW => ⟨rfl, congrArg Array.size hU⟩⟩ rfl rfl hl.1 rfl (lv_room (Nat.le_of_ble_eq_true rfl)) dX0_isAllowed_181 ⟨Nat.zero_le _, Nat.zero_le _⟩) hS (fun q _ h => Nat.le_trans hS.1 h) (fun q h => Nat.le_trans hS.1 h) (fun r_32 _ _ H_32 _ _ _ hw _ _ _ hS => ?_)
                    subst hw
                    refine va_calli (va_runS (As := [.int (fX0_bits p1 (0 : Int32) (4 : Int32))]) (rest := []) ⟨hx, hb, hml, hown, hts⟩ (mX0_isCondition l H_32.size (fX0_bits p1 (0 : Int32) (4 : Int32))) (va_cwS 1 hts gX0_isAllowed_X0_isCondition rfl rfl rfl (by decide +kernel) ⟨Nat.le_of_ble_eq_true rfl, Nat.le_of_ble_eq_true rfl⟩) ⟨fb_pure, fun U hU hW => ⟨rfl, congrArg Array.size hU⟩⟩ rfl rfl hl.1 rfl (lv_room (Nat.le_of_ble_eq_true rfl)) dX0_isAllowed_184 ⟨Nat.zero_le _, Nat.zero_le _⟩) hS (fun q _ h => Nat.le_trans hS.1 h) (fun q h => Nat.le_trans hS.1 h) (fun r_33 _ _ H_33 _ _ _ hw _ _ _ hS => ?_)
                    subst hw
                    exact W.zret (v := (fX0_isCondition (fX0_bits p1 (0 : Int32) (4 : Int32)))) hx hb hr (nb_01 (zX0_isCondition ..)) (fun t ht hW => ⟨⟨(fX0_isCondition (fX0_bits p1 (0 : Int32) (4 : Int32))), (), rfl, by rw [fX0_isAllowed, if_neg c_1, if_neg c_6, if_neg c_8, if_neg c_15, if_neg c_18, if_neg c_21, if_neg c_25, if_neg c_29, if_pos c_31], trivial⟩, hS.F ht⟩) hS.2.2 dX0_isAllowed_187
                  · -- another
                    refine sw_def (tgt := 188) hx hb dX0_isAllowed_1 (by decide) (fun k hk => by
                        have e_0 := lv_neT c_1 (a := 2) (by decide); have e_1 := lv_neT c_6 (a := 3) (by decide); have e_2 := lv_neT c_8 (a := 4) (by decide); have e_3 := lv_neT c_15 (a := 7) (by decide); have e_4 := lv_neT c_18 (a := 8) (by decide); have e_5 := lv_neT c_21 (a := 9) (by decide); have e_6 := lv_neT c_25 (a := 10) (by decide); have e_7 := lv_neT c_29 (a := 11) (by decide); have e_8 := lv_neT c_31 (a := 14) (by decide)
                        rcases (show k = 0 ∨ k = 1 ∨ k = 2 ∨ k = 3 ∨ k = 4 ∨ k = 5 ∨ k = 6 ∨ k = 7 ∨ k = 8 ∨ k = 9 ∨ k = 10 ∨ k = 11 ∨ k = 12 from by have hk9 : k < 13 := hk; omega) with rfl | rfl | rfl | rfl | rfl | rfl | rfl | rfl | rfl | rfl | rfl | rfl | rfl <;> first | exact Or.inl rfl | exact Or.inr (by omega)) (by decide) ?_
                    refine lv_iconst (v := 1) hx hb dX0_isAllowed_188 (by decide) ?_
                    exact W.zret (v := (1 : Int32)) hx hb hr (nb_01 (Or.inr rfl)) (fun t ht hW => ⟨⟨(1 : Int32), (), rfl, by rw [fX0_isAllowed, if_neg c_1, if_neg c_6, if_neg c_8, if_neg c_15, if_neg c_18, if_neg c_21, if_neg c_25, if_neg c_29, if_neg c_31], trivial⟩, hS.F ht⟩) hS.2.2 dX0_isAllowed_189
set_option maxHeartbeats 4000000 in
set_option maxRecDepth 100000 in
theorem mX0_kind (l : Launch) (sz : Nat) (h0 t0 : Nat) (p0 : Int32) : Met l yX0_kind wsX0_kind ({ frames := 4, cells := 0, slots := 0, locals := 89 }) (va_Pc [.ref h0, .int p0] (fun U => U.heap.size = sz ∧ wv_rcv RX0 h0 U ∧ wv_tt t0 U)) (va_Qi (fun (r : Int32) (_ : Unit) => r = fX0_kind p0) (fun _ _ => True) (fun q : Nat => sz ≤ q)) 0 0 (fun q : Nat => sz ≤ q) := by
  refine Met.ofW (cc := cX0_kind) (maxL := 3) (ret := (some .int)) (by decide) rfl ?_
  intro p e s m args below meth c s₁ B hml hv
  obtain ⟨rfl, hsz, hww⟩ := hv
  have hx := B.exec
  have hb := B.bytes
  have hr := B.returns
  have hts := atoms_spec (ws := wsX0_kind) B.pre
  have hown : s.vm.findClass RX0 = some m.cls := findClass_of_methodNamed B.named
  have hlocks := B.notSynchronized
  subst hsz
  have hS : va_S (fun q : Nat => s.heap.size ≤ q) s.heap s.heap [] := va_S.rf
  have hl := lv_entry ([.ref h0, .int p0]) (n := 3) (Nat.le_of_ble_eq_true rfl)
  rw [lg_entry_eq]
  generalize (lg_sl ([.ref h0, .int p0]) ++ List.replicate (3 - (lg_sl ([.ref h0, .int p0])).length) Slot.unset).toArray = ls at hl ⊢
  have hl : lv_has ls 3 [(0, .ref h0), (1, .int p0)] := hl
  refine lv_iload_n hx hb dX0_kind_0 rfl (lv_at hl 1 rfl) ?_
  refine va_calli (va_runS (As := [.int p0]) (rest := []) ⟨hx, hb, hml, hown, hts⟩ (mX0_formOf l s.heap.size t0 p0) (va_cwS 1 hts gX0_kind_X0_formOf rfl rfl rfl (by decide +kernel) ⟨Nat.le_of_ble_eq_true rfl, Nat.le_of_ble_eq_true rfl⟩) ⟨fb_tt, fun U hU hW => ⟨rfl, congrArg Array.size hU, hww.2.go hS hU hW.alike⟩⟩ rfl rfl hl.1 rfl (lv_room (Nat.le_of_ble_eq_true rfl)) dX0_kind_1 ⟨Nat.zero_le _, Nat.zero_le _⟩) hS (fun q _ h => Nat.le_trans hS.1 h) (fun q h => Nat.le_trans hS.1 h) (fun r_1 _ _ H_1 _ _ _ hw _ _ _ hS => ?_)
  subst hw
  refine lv_istore_n (lv' := [(2, .int (fX0_formOf p0)), (0, .ref h0), (1, .int p0)]) hx hb dX0_kind_4 rfl hl (by decide) rfl (fun ls hl => ?_)
  refine lv_iload_n hx hb dX0_kind_5 rfl (lv_at hl 0 rfl) ?_
  refine lv_iload_n hx hb dX0_kind_6 rfl (lv_at hl 2 rfl) ?_
  refine va_calli (va_runS (As := [.int (fX0_formOf p0), .int p0]) (rest := []) ⟨hx, hb, hml, hown, hts⟩ (mX0_isAllowed l H_1.size (fX0_formOf p0) p0) (va_cwS 2 hts gX0_kind_X0_isAllowed rfl rfl rfl (by decide +kernel) ⟨Nat.le_of_ble_eq_true rfl, Nat.le_of_ble_eq_true rfl⟩) ⟨fb_pure, fun U hU hW => ⟨rfl, congrArg Array.size hU⟩⟩ rfl rfl hl.1 rfl (lv_room (Nat.le_of_ble_eq_true rfl)) dX0_kind_7 ⟨Nat.zero_le _, Nat.zero_le _⟩) hS (fun q _ h => Nat.le_trans hS.1 h) (fun q h => Nat.le_trans hS.1 h) (fun r_2 _ _ H_2 _ _ _ hw _ _ _ hS => ?_)
  subst hw
  refine lv_if_eq (tgt := 17) hx hb dX0_kind_10 (by decide) (fun c_3 => ?_) (fun c_3 => ?_)
  · -- taken
    refine lv_iconst (v := 0) hx hb dX0_kind_17 (by decide) ?_
    exact W.iret (v := (0 : Int32)) hx hb hr (fun t ht hW => ⟨⟨(0 : Int32), (), rfl, by rw [fX0_kind, if_pos c_3], trivial⟩, hS.F ht⟩) hS.2.2 dX0_kind_18
  · -- not taken
    refine lv_iload_n hx hb dX0_kind_13 rfl (lv_at hl 0 rfl) ?_
    refine lv_goto (tgt := 18) hx hb dX0_kind_14 (by decide) ?_
    exact W.iret (v := (fX0_formOf p0)) hx hb hr (fun t ht hW => ⟨⟨(fX0_formOf p0), (), rfl, by rw [fX0_kind, if_neg c_3], trivial⟩, hS.F ht⟩) hS.2.2 dX0_kind_18
