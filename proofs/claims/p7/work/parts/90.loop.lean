-- ===== end of PART A; then your names; then what follows =====
/-! THE CLAIM OUT OF ONE WALK OF THE LAW'S BODY. Your part is whole_start (and what it stands on); all else here is the same for every law, but numbers. -/
def R_law : String := "WordFormsLaw"
def lw_P (b : Addr) (xs : List Int32) (args : Array Value) (s : State) : Prop := args = #[.ref b] ∧ s.IntsAt b xs ∧ xs.length ≤ 3072 ∧ (Jvm.Cond.and given_1 narrow_1).before args s = true
def lw_Q (_ : Array Value) (s : State) (o : Outcome) (t : State) : Prop := o = .returned (some (.int 1)) ∧ Framed s o t [] 2 0
def lw_Z (below : List Frame) (a : Array Value) (s : State) : State → Prop := fun t => ∃ o, t.status = .running ∧ Ended t below o ∧ lw_Q a s o t
/-- the law's own end, with 1 on the stack, nothing written that was there before, its room as the claim has it -/
theorem lw_ret {p : Program} {l : Launch} {e : Env} {s : State} {m : MethodId} {below : List Frame} {meth : Method} {c : Code} {b : Nat} (hx : p.tables.exec = Jvm.exec) (hb : c.code = code) (hr : meth.sig.returnType = ret) (hlocks : meth.locks = false) {pc : Nat} {H : Heap} {ls : Array Slot} (hdg : decode code pc = .ok (.ireturn, 1)) : W p l e room_1 s m #[Value.ref b] below meth c H [] 2 0 (lw_Z below #[Value.ref b] s) (F0 m pc ls [.int 1]) := by
  intro T hT X
  obtain ⟨fs, hret, hrun, hended, hW, hframe⟩ := X.leave (v := some (.int 1)) (hlocks := hlocks) (fun h => by rw [hr] at h; cases h)
  have hmeth' : T.vm.method? m = some meth := X.method'
  refine ⟨T.setFrames fs, ?_, .returned (some (.int 1)), hrun, hended, rfl, ⟨_, rfl⟩, hW, hframe⟩
  jvm_step X.here [X.here.top, hx, hb, hdg, hmeth', hr, ret, narrow_b1]
  (try refine ⟨rfl, ?_⟩); (try refine ⟨rfl, ?_⟩)
  first | (intro acts; rw [hret _ acts rfl rfl rfl]) | rw [hret _ _ rfl rfl rfl]
  exact Steps.refl _
/-- what holds at the law's entry: the machine, the code, the tables' words (any of lw_tbl by 'hts w (by decide +kernel)'), the script of L ints xs at the cell b, what the Statement gives of the start (any of its parts by flat_of_before) -/
def lw_At (p : Program) (s : State) (m : MethodId) (meth : Method) (c : Code) (b L : Nat) (xs : Nat → Int32) : Prop :=
  p.tables.exec = Jvm.exec ∧ c.code = code ∧ meth.sig.returnType = ret ∧ c.maxLocals = 4 ∧ s.vm.findClass R_law = some m.cls ∧ (∀ w ∈ lw_tbl, w.before #[Value.ref b] s = true) ∧ va_X b L xs s s.heap ∧ b < s.heap.size ∧ meth.locks = false ∧ (Jvm.Cond.and given_1 narrow_1).before #[Value.ref b] s = true
set_option maxHeartbeats 8000000 in
set_option maxRecDepth 100000 in
/-- the law's loop: k ints are read -/
theorem law_loop {p : Program} {l : Launch} {e : Env} {s : State} {m : MethodId} {below : List Frame} {meth : Method} {c : Code} {b L : Nat} {xs : Nat → Int32} (hL : L ≤ 3072) (C0 : lw_At p s m meth c b L xs) (t0 : Nat) (htt : wv_tt t0 s) (q0 q1 : Nat) :
    ∀ (n k : Nat) (x3 : Int32), k ≤ L → L + 1 ≤ k + n → x3 = nI k → ∀ (H : Heap) (locs : List Loc), wv_lrc RX0 q0 s H → wv_lrc RX1 q1 s H → va_S (fun q : Nat => s.heap.size ≤ q) s.heap H locs → ∀ (ls : Array Slot), lv_has ls 4 [(0, .ref b), (1, .ref q0), (2, .ref q1), (3, .int x3)] → W p l e room_1 s m #[Value.ref b] below meth c H locs 2 0 (lw_Z below #[Value.ref b] s) (F0 m 18 ls []) := by
  obtain ⟨hx, hb, hr, hml, hown, hts0, hX, hbl, hlocks, hgv⟩ := C0
  have hown : s.vm.findClass RL = some m.cls := hown
  have hts : ∀ w ∈ wsL_law, w.before #[Value.ref b] s = true := fun w h => hts0 w (wsL_law_in w h)
  have hbA : ¬ (fun q : Nat => s.heap.size ≤ q) b := Nat.not_le.mpr hbl
  intro n
  induction n with
  | zero =>
    intro k x3 h1 h2
    exact absurd h2 (by omega)
  | succ n ih =>
    intro k x3 hk hn ex3 H locs hq0 hq1 hS ls hl
    refine lv_iload_n hx hb dL_law_18 rfl (lv_at hl 3 rfl) ?_
    refine lv_aload_n hx hb dL_law_19 rfl (lv_at hl 0 rfl) ?_
    refine va_slen hx hb hX hbl hbA hS dL_law_20 ?_
    refine lv_bipush (v := 6) hx hb dL_law_21 (by decide) ?_
    refine lv_isub hx hb dL_law_23 ?_
    refine lv_icmp_gt (tgt := 478) hx hb dL_law_24 (by decide) (fun c_0 => ?_) (fun c_0 => ?_)
    · refine lv_iconst (v := 1) hx hb dL_law_478 (by decide) ?_
      refine va_forget (fun q hq => hS.2.2 q hq) ?_
      refine W.widen (k := 2) (n := 0) (Nat.le_refl 2) (Nat.le_refl 0) ?_
      exact lw_ret hx hb hr hlocks dL_law_479
    · have hk6 : k + 6 ≤ L := lw_six hL hk ex3 c_0
      have hi_0 : vp_in x3 L := by rw [ex3]; exact vp_in_nI (by omega) (by omega)
      have hi_1 : vp_in (x3 + (1 : Int32)) L := lw_in hL ex3 hk6 1 (by omega)
      have hi_2 : vp_in (x3 + (2 : Int32)) L := lw_in hL ex3 hk6 2 (by omega)
      have hi_3 : vp_in (x3 + (3 : Int32)) L := lw_in hL ex3 hk6 3 (by omega)
      have hi_4 : vp_in (x3 + (4 : Int32)) L := lw_in hL ex3 hk6 4 (by omega)
      have hi_5 : vp_in (x3 + (5 : Int32)) L := lw_in hL ex3 hk6 5 (by omega)
      refine lv_aload_n hx hb dL_law_27 rfl (lv_at hl 0 rfl) ?_
      refine lv_iload_n hx hb dL_law_28 rfl (lv_at hl 3 rfl) ?_
      refine va_sld hx hb hX hbl hbA hS hi_0 dL_law_29 ?_
      refine lv_bipush (v := 15) hx hb dL_law_30 (by decide) ?_
      refine lv_iand hx hb dL_law_32 ?_
      by_cases c_1 : ((xs (x3).toNatClampNeg) &&& (15 : Int32)) = (0 : Int32)
      · refine lv_tableIn (off := 51) (tgt := 84) hx hb dL_law_33 (by rw [c_1]; decide) (by rw [c_1]; decide) (by rw [c_1]; decide) (by decide) ?_
        refine lv_aload_n hx hb dL_law_84 rfl (lv_at hl 1 rfl) ?_
        refine lv_aload_n hx hb dL_law_85 rfl (lv_at hl 0 rfl) ?_
        refine lv_iload_n hx hb dL_law_86 rfl (lv_at hl 3 rfl) ?_
        refine lv_iconst (v := 1) hx hb dL_law_87 (by decide) ?_
        refine lv_iadd hx hb dL_law_88 ?_
        refine va_sld hx hb hX hbl hbA hS hi_1 dL_law_89 ?_
        refine va_calli (va_runV (As := [.int (xs ((x3 + (1 : Int32))).toNatClampNeg)]) (rest := []) ⟨hx, hb, hml, hown, hts⟩ (mX0_kind l H.size q0 t0 (xs ((x3 + (1 : Int32))).toNatClampNeg)) (cwV 1 hts gL_law_X0_kind rfl rfl rfl (by decide +kernel) ⟨Nat.le_of_ble_eq_true rfl, Nat.le_of_ble_eq_true rfl⟩) ⟨fb_ww, hq0, fun U hU hW => ⟨rfl, congrArg Array.size hU, hq0.go hU hW.alike, htt.go hS hU hW.alike⟩⟩ rfl rfl hl.1 rfl (lv_room (Nat.le_of_ble_eq_true rfl)) dL_law_90 ⟨Nat.le_of_ble_eq_true rfl, Nat.le_of_ble_eq_true rfl⟩) hS (fun q _ h => Nat.le_trans hS.1 h) (fun q h => Nat.le_trans hS.1 h) (fun r_2 _ _ H_2 _ _ _ hw _ _ hk1 hS => ?_)
        subst hw
        have hq0 := hq0.keep hk1
        have hq1 := hq1.keep hk1
        clear hk1
        refine lv_pop hx hb dL_law_93 rfl ?_
        refine lv_aload_n hx hb dL_law_94 rfl (lv_at hl 2 rfl) ?_
        refine lv_aload_n hx hb dL_law_95 rfl (lv_at hl 0 rfl) ?_
        refine lv_iload_n hx hb dL_law_96 rfl (lv_at hl 3 rfl) ?_
        refine lv_iconst (v := 1) hx hb dL_law_97 (by decide) ?_
        refine lv_iadd hx hb dL_law_98 ?_
        refine va_sld hx hb hX hbl hbA hS hi_1 dL_law_99 ?_
        refine va_calli (va_runV (As := [.int (xs ((x3 + (1 : Int32))).toNatClampNeg)]) (rest := []) ⟨hx, hb, hml, hown, hts⟩ (mX1_kind l H_2.size q1 (xs ((x3 + (1 : Int32))).toNatClampNeg)) (cwV 1 hts gL_law_X1_kind rfl rfl rfl (by decide +kernel) ⟨Nat.le_of_ble_eq_true rfl, Nat.le_of_ble_eq_true rfl⟩) ⟨fb_rr, hq1, fun U hU hW => ⟨rfl, congrArg Array.size hU, hq1.go hU hW.alike⟩⟩ rfl rfl hl.1 rfl (lv_room (Nat.le_of_ble_eq_true rfl)) dL_law_100 ⟨Nat.le_of_ble_eq_true rfl, Nat.le_of_ble_eq_true rfl⟩) hS (fun q _ h => Nat.le_trans hS.1 h) (fun q h => Nat.le_trans hS.1 h) (fun r_3 _ _ H_3 _ _ _ hw _ _ hk1 hS => ?_)
        subst hw
        have hq0 := hq0.keep hk1
        have hq1 := hq1.keep hk1
        clear hk1
        refine lv_pop hx hb dL_law_103 rfl ?_
        refine lv_goto (tgt := 472) hx hb dL_law_104 (by decide) ?_
        obtain ⟨x3n, ex3n⟩ : ∃ y : Int32, y = x3 + 6 := ⟨_, rfl⟩
        refine lv_iinc (v := x3n) (lv' := [(3, .int x3n), (0, .ref b), (1, .ref q0), (2, .ref q1)]) hx hb dL_law_472 hl (k := 3) rfl (by rw [ex3n]; rfl) (by decide) rfl (fun ls hl => ?_)
        refine lv_goto (tgt := 18) hx hb dL_law_475 (by decide) ?_
        exact ih (k + 6) x3n (by omega) (by omega) (by rw [ex3n, ex3]; exact nI_add k 6) _ _ hq0 hq1 hS ls (lv_sub hl [1, 2, 3, 0] rfl)
      by_cases c_4 : ((xs (x3).toNatClampNeg) &&& (15 : Int32)) = (1 : Int32)
      · refine lv_tableIn (off := 74) (tgt := 107) hx hb dL_law_33 (by rw [c_4]; decide) (by rw [c_4]; decide) (by rw [c_4]; decide) (by decide) ?_
        refine lv_aload_n hx hb dL_law_107 rfl (lv_at hl 1 rfl) ?_
        refine lv_aload_n hx hb dL_law_108 rfl (lv_at hl 0 rfl) ?_
        refine lv_iload_n hx hb dL_law_109 rfl (lv_at hl 3 rfl) ?_
        refine lv_iconst (v := 1) hx hb dL_law_110 (by decide) ?_
        refine lv_iadd hx hb dL_law_111 ?_
        refine va_sld hx hb hX hbl hbA hS hi_1 dL_law_112 ?_
        refine va_calli (va_runV (As := [.int (xs ((x3 + (1 : Int32))).toNatClampNeg)]) (rest := []) ⟨hx, hb, hml, hown, hts⟩ (mX0_by l H.size q0 t0 (xs ((x3 + (1 : Int32))).toNatClampNeg)) (cwV 1 hts gL_law_X0_by rfl rfl rfl (by decide +kernel) ⟨Nat.le_of_ble_eq_true rfl, Nat.le_of_ble_eq_true rfl⟩) ⟨fb_ww, hq0, fun U hU hW => ⟨rfl, congrArg Array.size hU, hq0.go hU hW.alike, htt.go hS hU hW.alike⟩⟩ rfl rfl hl.1 rfl (lv_room (Nat.le_of_ble_eq_true rfl)) dL_law_113 ⟨Nat.le_of_ble_eq_true rfl, Nat.le_of_ble_eq_true rfl⟩) hS (fun q _ h => Nat.le_trans hS.1 h) (fun q h => Nat.le_trans hS.1 h) (fun r_5 _ _ H_5 _ _ _ hw _ _ hk1 hS => ?_)
        subst hw
        have hq0 := hq0.keep hk1
        have hq1 := hq1.keep hk1
        clear hk1
        refine lv_pop hx hb dL_law_116 rfl ?_
        refine lv_aload_n hx hb dL_law_117 rfl (lv_at hl 2 rfl) ?_
        refine lv_aload_n hx hb dL_law_118 rfl (lv_at hl 0 rfl) ?_
        refine lv_iload_n hx hb dL_law_119 rfl (lv_at hl 3 rfl) ?_
        refine lv_iconst (v := 1) hx hb dL_law_120 (by decide) ?_
        refine lv_iadd hx hb dL_law_121 ?_
        refine va_sld hx hb hX hbl hbA hS hi_1 dL_law_122 ?_
        refine va_calli (va_runV (As := [.int (xs ((x3 + (1 : Int32))).toNatClampNeg)]) (rest := []) ⟨hx, hb, hml, hown, hts⟩ (mX1_by l H_5.size q1 (xs ((x3 + (1 : Int32))).toNatClampNeg)) (cwV 1 hts gL_law_X1_by rfl rfl rfl (by decide +kernel) ⟨Nat.le_of_ble_eq_true rfl, Nat.le_of_ble_eq_true rfl⟩) ⟨fb_rr, hq1, fun U hU hW => ⟨rfl, congrArg Array.size hU, hq1.go hU hW.alike⟩⟩ rfl rfl hl.1 rfl (lv_room (Nat.le_of_ble_eq_true rfl)) dL_law_123 ⟨Nat.le_of_ble_eq_true rfl, Nat.le_of_ble_eq_true rfl⟩) hS (fun q _ h => Nat.le_trans hS.1 h) (fun q h => Nat.le_trans hS.1 h) (fun r_6 _ _ H_6 _ _ _ hw _ _ hk1 hS => ?_)
        subst hw
        have hq0 := hq0.keep hk1
        have hq1 := hq1.keep hk1
        clear hk1
        refine lv_pop hx hb dL_law_126 rfl ?_
        refine lv_goto (tgt := 472) hx hb dL_law_127 (by decide) ?_
        obtain ⟨x3n, ex3n⟩ : ∃ y : Int32, y = x3 + 6 := ⟨_, rfl⟩
        refine lv_iinc (v := x3n) (lv' := [(3, .int x3n), (0, .ref b), (1, .ref q0), (2, .ref q1)]) hx hb dL_law_472 hl (k := 3) rfl (by rw [ex3n]; rfl) (by decide) rfl (fun ls hl => ?_)
        refine lv_goto (tgt := 18) hx hb dL_law_475 (by decide) ?_
        exact ih (k + 6) x3n (by omega) (by omega) (by rw [ex3n, ex3]; exact nI_add k 6) _ _ hq0 hq1 hS ls (lv_sub hl [1, 2, 3, 0] rfl)
      by_cases c_7 : ((xs (x3).toNatClampNeg) &&& (15 : Int32)) = (2 : Int32)
      · refine lv_tableIn (off := 97) (tgt := 130) hx hb dL_law_33 (by rw [c_7]; decide) (by rw [c_7]; decide) (by rw [c_7]; decide) (by decide) ?_
        refine lv_aload_n hx hb dL_law_130 rfl (lv_at hl 1 rfl) ?_
        refine lv_aload_n hx hb dL_law_131 rfl (lv_at hl 0 rfl) ?_
        refine lv_iload_n hx hb dL_law_132 rfl (lv_at hl 3 rfl) ?_
        refine lv_iconst (v := 1) hx hb dL_law_133 (by decide) ?_
        refine lv_iadd hx hb dL_law_134 ?_
        refine va_sld hx hb hX hbl hbA hS hi_1 dL_law_135 ?_
        refine lv_aload_n hx hb dL_law_136 rfl (lv_at hl 0 rfl) ?_
        refine lv_iload_n hx hb dL_law_137 rfl (lv_at hl 3 rfl) ?_
        refine lv_iconst (v := 2) hx hb dL_law_138 (by decide) ?_
        refine lv_iadd hx hb dL_law_139 ?_
        refine va_sld hx hb hX hbl hbA hS hi_2 dL_law_140 ?_
        refine va_calli (va_runV (As := [.int (xs ((x3 + (1 : Int32))).toNatClampNeg), .int (xs ((x3 + (2 : Int32))).toNatClampNeg)]) (rest := []) ⟨hx, hb, hml, hown, hts⟩ (mX0_going l H.size q0 t0 (xs ((x3 + (1 : Int32))).toNatClampNeg) (xs ((x3 + (2 : Int32))).toNatClampNeg)) (cwV 2 hts gL_law_X0_going rfl rfl rfl (by decide +kernel) ⟨Nat.le_of_ble_eq_true rfl, Nat.le_of_ble_eq_true rfl⟩) ⟨fb_ww, hq0, fun U hU hW => ⟨rfl, congrArg Array.size hU, hq0.go hU hW.alike, htt.go hS hU hW.alike⟩⟩ rfl rfl hl.1 rfl (lv_room (Nat.le_of_ble_eq_true rfl)) dL_law_141 ⟨Nat.le_of_ble_eq_true rfl, Nat.le_of_ble_eq_true rfl⟩) hS (fun q _ h => Nat.le_trans hS.1 h) (fun q h => Nat.le_trans hS.1 h) (fun r_8 _ _ H_8 _ _ _ hw _ _ hk1 hS => ?_)
        subst hw
        have hq0 := hq0.keep hk1
        have hq1 := hq1.keep hk1
        clear hk1
        refine lv_pop hx hb dL_law_144 rfl ?_
        refine lv_aload_n hx hb dL_law_145 rfl (lv_at hl 2 rfl) ?_
        refine lv_aload_n hx hb dL_law_146 rfl (lv_at hl 0 rfl) ?_
        refine lv_iload_n hx hb dL_law_147 rfl (lv_at hl 3 rfl) ?_
        refine lv_iconst (v := 1) hx hb dL_law_148 (by decide) ?_
        refine lv_iadd hx hb dL_law_149 ?_
        refine va_sld hx hb hX hbl hbA hS hi_1 dL_law_150 ?_
        refine lv_aload_n hx hb dL_law_151 rfl (lv_at hl 0 rfl) ?_
        refine lv_iload_n hx hb dL_law_152 rfl (lv_at hl 3 rfl) ?_
        refine lv_iconst (v := 2) hx hb dL_law_153 (by decide) ?_
        refine lv_iadd hx hb dL_law_154 ?_
        refine va_sld hx hb hX hbl hbA hS hi_2 dL_law_155 ?_
        refine va_calli (va_runV (As := [.int (xs ((x3 + (1 : Int32))).toNatClampNeg), .int (xs ((x3 + (2 : Int32))).toNatClampNeg)]) (rest := []) ⟨hx, hb, hml, hown, hts⟩ (mX1_going l H_8.size q1 (xs ((x3 + (1 : Int32))).toNatClampNeg) (xs ((x3 + (2 : Int32))).toNatClampNeg)) (cwV 2 hts gL_law_X1_going rfl rfl rfl (by decide +kernel) ⟨Nat.le_of_ble_eq_true rfl, Nat.le_of_ble_eq_true rfl⟩) ⟨fb_rr, hq1, fun U hU hW => ⟨rfl, congrArg Array.size hU, hq1.go hU hW.alike⟩⟩ rfl rfl hl.1 rfl (lv_room (Nat.le_of_ble_eq_true rfl)) dL_law_156 ⟨Nat.le_of_ble_eq_true rfl, Nat.le_of_ble_eq_true rfl⟩) hS (fun q _ h => Nat.le_trans hS.1 h) (fun q h => Nat.le_trans hS.1 h) (fun r_9 _ _ H_9 _ _ _ hw _ _ hk1 hS => ?_)
        subst hw
        have hq0 := hq0.keep hk1
        have hq1 := hq1.keep hk1
        clear hk1
        refine lv_pop hx hb dL_law_159 rfl ?_
        refine lv_goto (tgt := 472) hx hb dL_law_160 (by decide) ?_
        obtain ⟨x3n, ex3n⟩ : ∃ y : Int32, y = x3 + 6 := ⟨_, rfl⟩
        refine lv_iinc (v := x3n) (lv' := [(3, .int x3n), (0, .ref b), (1, .ref q0), (2, .ref q1)]) hx hb dL_law_472 hl (k := 3) rfl (by rw [ex3n]; rfl) (by decide) rfl (fun ls hl => ?_)
        refine lv_goto (tgt := 18) hx hb dL_law_475 (by decide) ?_
        exact ih (k + 6) x3n (by omega) (by omega) (by rw [ex3n, ex3]; exact nI_add k 6) _ _ hq0 hq1 hS ls (lv_sub hl [1, 2, 3, 0] rfl)
      by_cases c_10 : ((xs (x3).toNatClampNeg) &&& (15 : Int32)) = (3 : Int32)
      · refine lv_tableIn (off := 130) (tgt := 163) hx hb dL_law_33 (by rw [c_10]; decide) (by rw [c_10]; decide) (by rw [c_10]; decide) (by decide) ?_
        refine lv_aload_n hx hb dL_law_163 rfl (lv_at hl 1 rfl) ?_
        refine lv_aload_n hx hb dL_law_164 rfl (lv_at hl 0 rfl) ?_
        refine lv_iload_n hx hb dL_law_165 rfl (lv_at hl 3 rfl) ?_
        refine lv_iconst (v := 1) hx hb dL_law_166 (by decide) ?_
        refine lv_iadd hx hb dL_law_167 ?_
        refine va_sld hx hb hX hbl hbA hS hi_1 dL_law_168 ?_
        refine lv_aload_n hx hb dL_law_169 rfl (lv_at hl 0 rfl) ?_
        refine lv_iload_n hx hb dL_law_170 rfl (lv_at hl 3 rfl) ?_
        refine lv_iconst (v := 2) hx hb dL_law_171 (by decide) ?_
        refine lv_iadd hx hb dL_law_172 ?_
        refine va_sld hx hb hX hbl hbA hS hi_2 dL_law_173 ?_
        refine lv_i2l hx hb dL_law_174 rfl ?_
        refine lv_bipush (v := 32) hx hb dL_law_175 (by decide) ?_
        refine lv_lshl hx hb dL_law_177 rfl ?_
        refine lv_aload_n hx hb dL_law_178 rfl (lv_at hl 0 rfl) ?_
        refine lv_iload_n hx hb dL_law_179 rfl (lv_at hl 3 rfl) ?_
        refine lv_iconst (v := 3) hx hb dL_law_180 (by decide) ?_
        refine lv_iadd hx hb dL_law_181 ?_
        refine va_sld hx hb hX hbl hbA hS hi_3 dL_law_182 ?_
        refine lv_i2l hx hb dL_law_183 rfl ?_
        refine lv_ldc2 hx hb hown (hts (.constantLong RL 27 (4294967295)) (by decide +kernel)) dL_law_184 ?_
        refine lv_land hx hb dL_law_187 ?_
        refine lv_lor hx hb dL_law_188 ?_
        refine va_calli (va_runV (As := [.int (xs ((x3 + (1 : Int32))).toNatClampNeg), .long ((((xs ((x3 + (2 : Int32))).toNatClampNeg).toInt64) <<< ((32 : Int32).toInt64 &&& 63)) ||| (((xs ((x3 + (3 : Int32))).toNatClampNeg).toInt64) &&& (4294967295 : Int64)))]) (rest := []) ⟨hx, hb, hml, hown, hts⟩ (mX0_reaches l H.size q0 t0 (xs ((x3 + (1 : Int32))).toNatClampNeg) ((((xs ((x3 + (2 : Int32))).toNatClampNeg).toInt64) <<< ((32 : Int32).toInt64 &&& 63)) ||| (((xs ((x3 + (3 : Int32))).toNatClampNeg).toInt64) &&& (4294967295 : Int64)))) (cwV 2 hts gL_law_X0_reaches rfl rfl rfl (by decide +kernel) ⟨Nat.le_of_ble_eq_true rfl, Nat.le_of_ble_eq_true rfl⟩) ⟨fb_ww, hq0, fun U hU hW => ⟨rfl, congrArg Array.size hU, hq0.go hU hW.alike, htt.go hS hU hW.alike⟩⟩ rfl rfl hl.1 rfl (lv_room (Nat.le_of_ble_eq_true rfl)) dL_law_189 ⟨Nat.le_of_ble_eq_true rfl, Nat.le_of_ble_eq_true rfl⟩) hS (fun q _ h => Nat.le_trans hS.1 h) (fun q h => Nat.le_trans hS.1 h) (fun r_11 _ _ H_11 _ _ _ hw _ _ hk1 hS => ?_)
        subst hw
        have hq0 := hq0.keep hk1
        have hq1 := hq1.keep hk1
        clear hk1
        refine lv_pop hx hb dL_law_192 rfl ?_
        refine lv_aload_n hx hb dL_law_193 rfl (lv_at hl 2 rfl) ?_
        refine lv_aload_n hx hb dL_law_194 rfl (lv_at hl 0 rfl) ?_
        refine lv_iload_n hx hb dL_law_195 rfl (lv_at hl 3 rfl) ?_
        refine lv_iconst (v := 1) hx hb dL_law_196 (by decide) ?_
        refine lv_iadd hx hb dL_law_197 ?_
        refine va_sld hx hb hX hbl hbA hS hi_1 dL_law_198 ?_
        refine lv_aload_n hx hb dL_law_199 rfl (lv_at hl 0 rfl) ?_
        refine lv_iload_n hx hb dL_law_200 rfl (lv_at hl 3 rfl) ?_
        refine lv_iconst (v := 2) hx hb dL_law_201 (by decide) ?_
        refine lv_iadd hx hb dL_law_202 ?_
        refine va_sld hx hb hX hbl hbA hS hi_2 dL_law_203 ?_
        refine lv_i2l hx hb dL_law_204 rfl ?_
        refine lv_bipush (v := 32) hx hb dL_law_205 (by decide) ?_
        refine lv_lshl hx hb dL_law_207 rfl ?_
        refine lv_aload_n hx hb dL_law_208 rfl (lv_at hl 0 rfl) ?_
        refine lv_iload_n hx hb dL_law_209 rfl (lv_at hl 3 rfl) ?_
        refine lv_iconst (v := 3) hx hb dL_law_210 (by decide) ?_
        refine lv_iadd hx hb dL_law_211 ?_
        refine va_sld hx hb hX hbl hbA hS hi_3 dL_law_212 ?_
        refine lv_i2l hx hb dL_law_213 rfl ?_
        refine lv_ldc2 hx hb hown (hts (.constantLong RL 27 (4294967295)) (by decide +kernel)) dL_law_214 ?_
        refine lv_land hx hb dL_law_217 ?_
        refine lv_lor hx hb dL_law_218 ?_
        refine va_calli (va_runV (As := [.int (xs ((x3 + (1 : Int32))).toNatClampNeg), .long ((((xs ((x3 + (2 : Int32))).toNatClampNeg).toInt64) <<< ((32 : Int32).toInt64 &&& 63)) ||| (((xs ((x3 + (3 : Int32))).toNatClampNeg).toInt64) &&& (4294967295 : Int64)))]) (rest := []) ⟨hx, hb, hml, hown, hts⟩ (mX1_reaches l H_11.size q1 (xs ((x3 + (1 : Int32))).toNatClampNeg) ((((xs ((x3 + (2 : Int32))).toNatClampNeg).toInt64) <<< ((32 : Int32).toInt64 &&& 63)) ||| (((xs ((x3 + (3 : Int32))).toNatClampNeg).toInt64) &&& (4294967295 : Int64)))) (cwV 2 hts gL_law_X1_reaches rfl rfl rfl (by decide +kernel) ⟨Nat.le_of_ble_eq_true rfl, Nat.le_of_ble_eq_true rfl⟩) ⟨fb_rr, hq1, fun U hU hW => ⟨rfl, congrArg Array.size hU, hq1.go hU hW.alike⟩⟩ rfl rfl hl.1 rfl (lv_room (Nat.le_of_ble_eq_true rfl)) dL_law_219 ⟨Nat.le_of_ble_eq_true rfl, Nat.le_of_ble_eq_true rfl⟩) hS (fun q _ h => Nat.le_trans hS.1 h) (fun q h => Nat.le_trans hS.1 h) (fun r_12 _ _ H_12 _ _ _ hw _ _ hk1 hS => ?_)
        subst hw
        have hq0 := hq0.keep hk1
        have hq1 := hq1.keep hk1
        clear hk1
        refine lv_pop hx hb dL_law_222 rfl ?_
        refine lv_goto (tgt := 472) hx hb dL_law_223 (by decide) ?_
        obtain ⟨x3n, ex3n⟩ : ∃ y : Int32, y = x3 + 6 := ⟨_, rfl⟩
        refine lv_iinc (v := x3n) (lv' := [(3, .int x3n), (0, .ref b), (1, .ref q0), (2, .ref q1)]) hx hb dL_law_472 hl (k := 3) rfl (by rw [ex3n]; rfl) (by decide) rfl (fun ls hl => ?_)
        refine lv_goto (tgt := 18) hx hb dL_law_475 (by decide) ?_
        exact ih (k + 6) x3n (by omega) (by omega) (by rw [ex3n, ex3]; exact nI_add k 6) _ _ hq0 hq1 hS ls (lv_sub hl [1, 2, 3, 0] rfl)
      by_cases c_13 : ((xs (x3).toNatClampNeg) &&& (15 : Int32)) = (4 : Int32)
      · refine lv_tableIn (off := 193) (tgt := 226) hx hb dL_law_33 (by rw [c_13]; decide) (by rw [c_13]; decide) (by rw [c_13]; decide) (by decide) ?_
        refine lv_aload_n hx hb dL_law_226 rfl (lv_at hl 1 rfl) ?_
        refine lv_aload_n hx hb dL_law_227 rfl (lv_at hl 0 rfl) ?_
        refine lv_iload_n hx hb dL_law_228 rfl (lv_at hl 3 rfl) ?_
        refine lv_iconst (v := 1) hx hb dL_law_229 (by decide) ?_
        refine lv_iadd hx hb dL_law_230 ?_
        refine va_sld hx hb hX hbl hbA hS hi_1 dL_law_231 ?_
        refine va_calli (va_runV (As := [.int (xs ((x3 + (1 : Int32))).toNatClampNeg)]) (rest := []) ⟨hx, hb, hml, hown, hts⟩ (mX0_turned l H.size q0 t0 (xs ((x3 + (1 : Int32))).toNatClampNeg)) (cwV 1 hts gL_law_X0_turned rfl rfl rfl (by decide +kernel) ⟨Nat.le_of_ble_eq_true rfl, Nat.le_of_ble_eq_true rfl⟩) ⟨fb_ww, hq0, fun U hU hW => ⟨rfl, congrArg Array.size hU, hq0.go hU hW.alike, htt.go hS hU hW.alike⟩⟩ rfl rfl hl.1 rfl (lv_room (Nat.le_of_ble_eq_true rfl)) dL_law_232 ⟨Nat.le_of_ble_eq_true rfl, Nat.le_of_ble_eq_true rfl⟩) hS (fun q _ h => Nat.le_trans hS.1 h) (fun q h => Nat.le_trans hS.1 h) (fun r_14 _ _ H_14 _ _ _ hw _ _ hk1 hS => ?_)
        subst hw
        have hq0 := hq0.keep hk1
        have hq1 := hq1.keep hk1
        clear hk1
        refine lv_pop hx hb dL_law_235 rfl ?_
        refine lv_aload_n hx hb dL_law_236 rfl (lv_at hl 2 rfl) ?_
        refine lv_aload_n hx hb dL_law_237 rfl (lv_at hl 0 rfl) ?_
        refine lv_iload_n hx hb dL_law_238 rfl (lv_at hl 3 rfl) ?_
        refine lv_iconst (v := 1) hx hb dL_law_239 (by decide) ?_
        refine lv_iadd hx hb dL_law_240 ?_
        refine va_sld hx hb hX hbl hbA hS hi_1 dL_law_241 ?_
        refine va_calli (va_runV (As := [.int (xs ((x3 + (1 : Int32))).toNatClampNeg)]) (rest := []) ⟨hx, hb, hml, hown, hts⟩ (mX1_turned l H_14.size q1 (xs ((x3 + (1 : Int32))).toNatClampNeg)) (cwV 1 hts gL_law_X1_turned rfl rfl rfl (by decide +kernel) ⟨Nat.le_of_ble_eq_true rfl, Nat.le_of_ble_eq_true rfl⟩) ⟨fb_rr, hq1, fun U hU hW => ⟨rfl, congrArg Array.size hU, hq1.go hU hW.alike⟩⟩ rfl rfl hl.1 rfl (lv_room (Nat.le_of_ble_eq_true rfl)) dL_law_242 ⟨Nat.le_of_ble_eq_true rfl, Nat.le_of_ble_eq_true rfl⟩) hS (fun q _ h => Nat.le_trans hS.1 h) (fun q h => Nat.le_trans hS.1 h) (fun r_15 _ _ H_15 _ _ _ hw _ _ hk1 hS => ?_)
        subst hw
        have hq0 := hq0.keep hk1
        have hq1 := hq1.keep hk1
        clear hk1
        refine lv_pop hx hb dL_law_245 rfl ?_
        refine lv_goto (tgt := 472) hx hb dL_law_246 (by decide) ?_
        obtain ⟨x3n, ex3n⟩ : ∃ y : Int32, y = x3 + 6 := ⟨_, rfl⟩
        refine lv_iinc (v := x3n) (lv' := [(3, .int x3n), (0, .ref b), (1, .ref q0), (2, .ref q1)]) hx hb dL_law_472 hl (k := 3) rfl (by rw [ex3n]; rfl) (by decide) rfl (fun ls hl => ?_)
        refine lv_goto (tgt := 18) hx hb dL_law_475 (by decide) ?_
        exact ih (k + 6) x3n (by omega) (by omega) (by rw [ex3n, ex3]; exact nI_add k 6) _ _ hq0 hq1 hS ls (lv_sub hl [1, 2, 3, 0] rfl)
      by_cases c_16 : ((xs (x3).toNatClampNeg) &&& (15 : Int32)) = (5 : Int32)
      · refine lv_tableIn (off := 216) (tgt := 249) hx hb dL_law_33 (by rw [c_16]; decide) (by rw [c_16]; decide) (by rw [c_16]; decide) (by decide) ?_
        refine lv_aload_n hx hb dL_law_249 rfl (lv_at hl 1 rfl) ?_
        refine lv_aload_n hx hb dL_law_250 rfl (lv_at hl 0 rfl) ?_
        refine lv_iload_n hx hb dL_law_251 rfl (lv_at hl 3 rfl) ?_
        refine lv_iconst (v := 1) hx hb dL_law_252 (by decide) ?_
        refine lv_iadd hx hb dL_law_253 ?_
        refine va_sld hx hb hX hbl hbA hS hi_1 dL_law_254 ?_
        refine lv_aload_n hx hb dL_law_255 rfl (lv_at hl 0 rfl) ?_
        refine lv_iload_n hx hb dL_law_256 rfl (lv_at hl 3 rfl) ?_
        refine lv_iconst (v := 2) hx hb dL_law_257 (by decide) ?_
        refine lv_iadd hx hb dL_law_258 ?_
        refine va_sld hx hb hX hbl hbA hS hi_2 dL_law_259 ?_
        refine lv_i2l hx hb dL_law_260 rfl ?_
        refine lv_bipush (v := 32) hx hb dL_law_261 (by decide) ?_
        refine lv_lshl hx hb dL_law_263 rfl ?_
        refine lv_aload_n hx hb dL_law_264 rfl (lv_at hl 0 rfl) ?_
        refine lv_iload_n hx hb dL_law_265 rfl (lv_at hl 3 rfl) ?_
        refine lv_iconst (v := 3) hx hb dL_law_266 (by decide) ?_
        refine lv_iadd hx hb dL_law_267 ?_
        refine va_sld hx hb hX hbl hbA hS hi_3 dL_law_268 ?_
        refine lv_i2l hx hb dL_law_269 rfl ?_
        refine lv_ldc2 hx hb hown (hts (.constantLong RL 27 (4294967295)) (by decide +kernel)) dL_law_270 ?_
        refine lv_land hx hb dL_law_273 ?_
        refine lv_lor hx hb dL_law_274 ?_
        refine va_calll (va_runV (As := [.int (xs ((x3 + (1 : Int32))).toNatClampNeg), .long ((((xs ((x3 + (2 : Int32))).toNatClampNeg).toInt64) <<< ((32 : Int32).toInt64 &&& 63)) ||| (((xs ((x3 + (3 : Int32))).toNatClampNeg).toInt64) &&& (4294967295 : Int64)))]) (rest := []) ⟨hx, hb, hml, hown, hts⟩ (mX0_page l H.size q0 t0 (xs ((x3 + (1 : Int32))).toNatClampNeg) ((((xs ((x3 + (2 : Int32))).toNatClampNeg).toInt64) <<< ((32 : Int32).toInt64 &&& 63)) ||| (((xs ((x3 + (3 : Int32))).toNatClampNeg).toInt64) &&& (4294967295 : Int64)))) (cwV 2 hts gL_law_X0_page rfl rfl rfl (by decide +kernel) ⟨Nat.le_of_ble_eq_true rfl, Nat.le_of_ble_eq_true rfl⟩) ⟨fb_ww, hq0, fun U hU hW => ⟨rfl, congrArg Array.size hU, hq0.go hU hW.alike, htt.go hS hU hW.alike⟩⟩ rfl rfl hl.1 rfl (lv_room (Nat.le_of_ble_eq_true rfl)) dL_law_275 ⟨Nat.le_of_ble_eq_true rfl, Nat.le_of_ble_eq_true rfl⟩) hS (fun q _ h => Nat.le_trans hS.1 h) (fun q h => Nat.le_trans hS.1 h) (fun r_17 _ _ H_17 _ _ _ hw _ _ hk1 hS => ?_)
        subst hw
        have hq0 := hq0.keep hk1
        have hq1 := hq1.keep hk1
        clear hk1
        refine lv_aload_n hx hb dL_law_278 rfl (lv_at hl 2 rfl) ?_
        refine lv_aload_n hx hb dL_law_279 rfl (lv_at hl 0 rfl) ?_
        refine lv_iload_n hx hb dL_law_280 rfl (lv_at hl 3 rfl) ?_
        refine lv_iconst (v := 1) hx hb dL_law_281 (by decide) ?_
        refine lv_iadd hx hb dL_law_282 ?_
        refine va_sld hx hb hX hbl hbA hS hi_1 dL_law_283 ?_
        refine lv_aload_n hx hb dL_law_284 rfl (lv_at hl 0 rfl) ?_
        refine lv_iload_n hx hb dL_law_285 rfl (lv_at hl 3 rfl) ?_
        refine lv_iconst (v := 2) hx hb dL_law_286 (by decide) ?_
        refine lv_iadd hx hb dL_law_287 ?_
        refine va_sld hx hb hX hbl hbA hS hi_2 dL_law_288 ?_
        refine lv_i2l hx hb dL_law_289 rfl ?_
        refine lv_bipush (v := 32) hx hb dL_law_290 (by decide) ?_
        refine lv_lshl hx hb dL_law_292 rfl ?_
        refine lv_aload_n hx hb dL_law_293 rfl (lv_at hl 0 rfl) ?_
        refine lv_iload_n hx hb dL_law_294 rfl (lv_at hl 3 rfl) ?_
        refine lv_iconst (v := 3) hx hb dL_law_295 (by decide) ?_
        refine lv_iadd hx hb dL_law_296 ?_
        refine va_sld hx hb hX hbl hbA hS hi_3 dL_law_297 ?_
        refine lv_i2l hx hb dL_law_298 rfl ?_
        refine lv_ldc2 hx hb hown (hts (.constantLong RL 27 (4294967295)) (by decide +kernel)) dL_law_299 ?_
        refine lv_land hx hb dL_law_302 ?_
        refine lv_lor hx hb dL_law_303 ?_
        refine va_calll (va_runV (As := [.int (xs ((x3 + (1 : Int32))).toNatClampNeg), .long ((((xs ((x3 + (2 : Int32))).toNatClampNeg).toInt64) <<< ((32 : Int32).toInt64 &&& 63)) ||| (((xs ((x3 + (3 : Int32))).toNatClampNeg).toInt64) &&& (4294967295 : Int64)))]) (rest := [.long (fX0_page (xs ((x3 + (1 : Int32))).toNatClampNeg) ((((xs ((x3 + (2 : Int32))).toNatClampNeg).toInt64) <<< ((32 : Int32).toInt64 &&& 63)) ||| (((xs ((x3 + (3 : Int32))).toNatClampNeg).toInt64) &&& (4294967295 : Int64))))]) ⟨hx, hb, hml, hown, hts⟩ (mX1_page l H_17.size q1 (xs ((x3 + (1 : Int32))).toNatClampNeg) ((((xs ((x3 + (2 : Int32))).toNatClampNeg).toInt64) <<< ((32 : Int32).toInt64 &&& 63)) ||| (((xs ((x3 + (3 : Int32))).toNatClampNeg).toInt64) &&& (4294967295 : Int64)))) (cwV 2 hts gL_law_X1_page rfl rfl rfl (by decide +kernel) ⟨Nat.le_of_ble_eq_true rfl, Nat.le_of_ble_eq_true rfl⟩) ⟨fb_rr, hq1, fun U hU hW => ⟨rfl, congrArg Array.size hU, hq1.go hU hW.alike⟩⟩ rfl rfl hl.1 rfl (lv_room (Nat.le_of_ble_eq_true rfl)) dL_law_304 ⟨Nat.le_of_ble_eq_true rfl, Nat.le_of_ble_eq_true rfl⟩) hS (fun q _ h => Nat.le_trans hS.1 h) (fun q h => Nat.le_trans hS.1 h) (fun r_18 _ _ H_18 _ _ _ hw _ _ hk1 hS => ?_)
        subst hw
        have hq0 := hq0.keep hk1
        have hq1 := hq1.keep hk1
        clear hk1
        refine W.lcmp hx hb dL_law_307 ?_
        refine lv_if_eq (tgt := 472) hx hb dL_law_308 (by decide) (fun _ => ?_) (fun c => absurd (cmp_0 (eq_page ..)) c)
        obtain ⟨x3n, ex3n⟩ : ∃ y : Int32, y = x3 + 6 := ⟨_, rfl⟩
        refine lv_iinc (v := x3n) (lv' := [(3, .int x3n), (0, .ref b), (1, .ref q0), (2, .ref q1)]) hx hb dL_law_472 hl (k := 3) rfl (by rw [ex3n]; rfl) (by decide) rfl (fun ls hl => ?_)
        refine lv_goto (tgt := 18) hx hb dL_law_475 (by decide) ?_
        exact ih (k + 6) x3n (by omega) (by omega) (by rw [ex3n, ex3]; exact nI_add k 6) _ _ hq0 hq1 hS ls (lv_sub hl [1, 2, 3, 0] rfl)
      by_cases c_19 : ((xs (x3).toNatClampNeg) &&& (15 : Int32)) = (6 : Int32)
      · refine lv_tableIn (off := 280) (tgt := 313) hx hb dL_law_33 (by rw [c_19]; decide) (by rw [c_19]; decide) (by rw [c_19]; decide) (by decide) ?_
        refine lv_aload_n hx hb dL_law_313 rfl (lv_at hl 1 rfl) ?_
        refine lv_aload_n hx hb dL_law_314 rfl (lv_at hl 0 rfl) ?_
        refine lv_iload_n hx hb dL_law_315 rfl (lv_at hl 3 rfl) ?_
        refine lv_iconst (v := 1) hx hb dL_law_316 (by decide) ?_
        refine lv_iadd hx hb dL_law_317 ?_
        refine va_sld hx hb hX hbl hbA hS hi_1 dL_law_318 ?_
        refine lv_aload_n hx hb dL_law_319 rfl (lv_at hl 0 rfl) ?_
        refine lv_iload_n hx hb dL_law_320 rfl (lv_at hl 3 rfl) ?_
        refine lv_iconst (v := 2) hx hb dL_law_321 (by decide) ?_
        refine lv_iadd hx hb dL_law_322 ?_
        refine va_sld hx hb hX hbl hbA hS hi_2 dL_law_323 ?_
        refine lv_i2l hx hb dL_law_324 rfl ?_
        refine lv_bipush (v := 32) hx hb dL_law_325 (by decide) ?_
        refine lv_lshl hx hb dL_law_327 rfl ?_
        refine lv_aload_n hx hb dL_law_328 rfl (lv_at hl 0 rfl) ?_
        refine lv_iload_n hx hb dL_law_329 rfl (lv_at hl 3 rfl) ?_
        refine lv_iconst (v := 3) hx hb dL_law_330 (by decide) ?_
        refine lv_iadd hx hb dL_law_331 ?_
        refine va_sld hx hb hX hbl hbA hS hi_3 dL_law_332 ?_
        refine lv_i2l hx hb dL_law_333 rfl ?_
        refine lv_ldc2 hx hb hown (hts (.constantLong RL 27 (4294967295)) (by decide +kernel)) dL_law_334 ?_
        refine lv_land hx hb dL_law_337 ?_
        refine lv_lor hx hb dL_law_338 ?_
        refine lv_aload_n hx hb dL_law_339 rfl (lv_at hl 0 rfl) ?_
        refine lv_iload_n hx hb dL_law_340 rfl (lv_at hl 3 rfl) ?_
        refine lv_iconst (v := 4) hx hb dL_law_341 (by decide) ?_
        refine lv_iadd hx hb dL_law_342 ?_
        refine va_sld hx hb hX hbl hbA hS hi_4 dL_law_343 ?_
        refine lv_i2l hx hb dL_law_344 rfl ?_
        refine lv_bipush (v := 32) hx hb dL_law_345 (by decide) ?_
        refine lv_lshl hx hb dL_law_347 rfl ?_
        refine lv_aload_n hx hb dL_law_348 rfl (lv_at hl 0 rfl) ?_
        refine lv_iload_n hx hb dL_law_349 rfl (lv_at hl 3 rfl) ?_
        refine lv_iconst (v := 5) hx hb dL_law_350 (by decide) ?_
        refine lv_iadd hx hb dL_law_351 ?_
        refine va_sld hx hb hX hbl hbA hS hi_5 dL_law_352 ?_
        refine lv_i2l hx hb dL_law_353 rfl ?_
        refine lv_ldc2 hx hb hown (hts (.constantLong RL 27 (4294967295)) (by decide +kernel)) dL_law_354 ?_
        refine lv_land hx hb dL_law_357 ?_
        refine lv_lor hx hb dL_law_358 ?_
        refine va_calli (va_runV (As := [.int (xs ((x3 + (1 : Int32))).toNatClampNeg), .long ((((xs ((x3 + (2 : Int32))).toNatClampNeg).toInt64) <<< ((32 : Int32).toInt64 &&& 63)) ||| (((xs ((x3 + (3 : Int32))).toNatClampNeg).toInt64) &&& (4294967295 : Int64))), .long ((((xs ((x3 + (4 : Int32))).toNatClampNeg).toInt64) <<< ((32 : Int32).toInt64 &&& 63)) ||| (((xs ((x3 + (5 : Int32))).toNatClampNeg).toInt64) &&& (4294967295 : Int64)))]) (rest := []) ⟨hx, hb, hml, hown, hts⟩ (mX0_paging l H.size q0 t0 (xs ((x3 + (1 : Int32))).toNatClampNeg) ((((xs ((x3 + (2 : Int32))).toNatClampNeg).toInt64) <<< ((32 : Int32).toInt64 &&& 63)) ||| (((xs ((x3 + (3 : Int32))).toNatClampNeg).toInt64) &&& (4294967295 : Int64))) ((((xs ((x3 + (4 : Int32))).toNatClampNeg).toInt64) <<< ((32 : Int32).toInt64 &&& 63)) ||| (((xs ((x3 + (5 : Int32))).toNatClampNeg).toInt64) &&& (4294967295 : Int64)))) (cwV 3 hts gL_law_X0_paging rfl rfl rfl (by decide +kernel) ⟨Nat.le_of_ble_eq_true rfl, Nat.le_of_ble_eq_true rfl⟩) ⟨fb_ww, hq0, fun U hU hW => ⟨rfl, congrArg Array.size hU, hq0.go hU hW.alike, htt.go hS hU hW.alike⟩⟩ rfl rfl hl.1 rfl (lv_room (Nat.le_of_ble_eq_true rfl)) dL_law_359 ⟨Nat.le_of_ble_eq_true rfl, Nat.le_of_ble_eq_true rfl⟩) hS (fun q _ h => Nat.le_trans hS.1 h) (fun q h => Nat.le_trans hS.1 h) (fun r_20 _ _ H_20 _ _ _ hw _ _ hk1 hS => ?_)
        subst hw
        have hq0 := hq0.keep hk1
        have hq1 := hq1.keep hk1
        clear hk1
        refine lv_pop hx hb dL_law_362 rfl ?_
        refine lv_aload_n hx hb dL_law_363 rfl (lv_at hl 2 rfl) ?_
        refine lv_aload_n hx hb dL_law_364 rfl (lv_at hl 0 rfl) ?_
        refine lv_iload_n hx hb dL_law_365 rfl (lv_at hl 3 rfl) ?_
        refine lv_iconst (v := 1) hx hb dL_law_366 (by decide) ?_
        refine lv_iadd hx hb dL_law_367 ?_
        refine va_sld hx hb hX hbl hbA hS hi_1 dL_law_368 ?_
        refine lv_aload_n hx hb dL_law_369 rfl (lv_at hl 0 rfl) ?_
        refine lv_iload_n hx hb dL_law_370 rfl (lv_at hl 3 rfl) ?_
        refine lv_iconst (v := 2) hx hb dL_law_371 (by decide) ?_
        refine lv_iadd hx hb dL_law_372 ?_
        refine va_sld hx hb hX hbl hbA hS hi_2 dL_law_373 ?_
        refine lv_i2l hx hb dL_law_374 rfl ?_
        refine lv_bipush (v := 32) hx hb dL_law_375 (by decide) ?_
        refine lv_lshl hx hb dL_law_377 rfl ?_
        refine lv_aload_n hx hb dL_law_378 rfl (lv_at hl 0 rfl) ?_
        refine lv_iload_n hx hb dL_law_379 rfl (lv_at hl 3 rfl) ?_
        refine lv_iconst (v := 3) hx hb dL_law_380 (by decide) ?_
        refine lv_iadd hx hb dL_law_381 ?_
        refine va_sld hx hb hX hbl hbA hS hi_3 dL_law_382 ?_
        refine lv_i2l hx hb dL_law_383 rfl ?_
        refine lv_ldc2 hx hb hown (hts (.constantLong RL 27 (4294967295)) (by decide +kernel)) dL_law_384 ?_
        refine lv_land hx hb dL_law_387 ?_
        refine lv_lor hx hb dL_law_388 ?_
        refine lv_aload_n hx hb dL_law_389 rfl (lv_at hl 0 rfl) ?_
        refine lv_iload_n hx hb dL_law_390 rfl (lv_at hl 3 rfl) ?_
        refine lv_iconst (v := 4) hx hb dL_law_391 (by decide) ?_
        refine lv_iadd hx hb dL_law_392 ?_
        refine va_sld hx hb hX hbl hbA hS hi_4 dL_law_393 ?_
        refine lv_i2l hx hb dL_law_394 rfl ?_
        refine lv_bipush (v := 32) hx hb dL_law_395 (by decide) ?_
        refine lv_lshl hx hb dL_law_397 rfl ?_
        refine lv_aload_n hx hb dL_law_398 rfl (lv_at hl 0 rfl) ?_
        refine lv_iload_n hx hb dL_law_399 rfl (lv_at hl 3 rfl) ?_
        refine lv_iconst (v := 5) hx hb dL_law_400 (by decide) ?_
        refine lv_iadd hx hb dL_law_401 ?_
        refine va_sld hx hb hX hbl hbA hS hi_5 dL_law_402 ?_
        refine lv_i2l hx hb dL_law_403 rfl ?_
        refine lv_ldc2 hx hb hown (hts (.constantLong RL 27 (4294967295)) (by decide +kernel)) dL_law_404 ?_
        refine lv_land hx hb dL_law_407 ?_
        refine lv_lor hx hb dL_law_408 ?_
        refine va_calli (va_runV (As := [.int (xs ((x3 + (1 : Int32))).toNatClampNeg), .long ((((xs ((x3 + (2 : Int32))).toNatClampNeg).toInt64) <<< ((32 : Int32).toInt64 &&& 63)) ||| (((xs ((x3 + (3 : Int32))).toNatClampNeg).toInt64) &&& (4294967295 : Int64))), .long ((((xs ((x3 + (4 : Int32))).toNatClampNeg).toInt64) <<< ((32 : Int32).toInt64 &&& 63)) ||| (((xs ((x3 + (5 : Int32))).toNatClampNeg).toInt64) &&& (4294967295 : Int64)))]) (rest := []) ⟨hx, hb, hml, hown, hts⟩ (mX1_paging l H_20.size q1 (xs ((x3 + (1 : Int32))).toNatClampNeg) ((((xs ((x3 + (2 : Int32))).toNatClampNeg).toInt64) <<< ((32 : Int32).toInt64 &&& 63)) ||| (((xs ((x3 + (3 : Int32))).toNatClampNeg).toInt64) &&& (4294967295 : Int64))) ((((xs ((x3 + (4 : Int32))).toNatClampNeg).toInt64) <<< ((32 : Int32).toInt64 &&& 63)) ||| (((xs ((x3 + (5 : Int32))).toNatClampNeg).toInt64) &&& (4294967295 : Int64)))) (cwV 3 hts gL_law_X1_paging rfl rfl rfl (by decide +kernel) ⟨Nat.le_of_ble_eq_true rfl, Nat.le_of_ble_eq_true rfl⟩) ⟨fb_rr, hq1, fun U hU hW => ⟨rfl, congrArg Array.size hU, hq1.go hU hW.alike⟩⟩ rfl rfl hl.1 rfl (lv_room (Nat.le_of_ble_eq_true rfl)) dL_law_409 ⟨Nat.le_of_ble_eq_true rfl, Nat.le_of_ble_eq_true rfl⟩) hS (fun q _ h => Nat.le_trans hS.1 h) (fun q h => Nat.le_trans hS.1 h) (fun r_21 _ _ H_21 _ _ _ hw _ _ hk1 hS => ?_)
        subst hw
        have hq0 := hq0.keep hk1
        have hq1 := hq1.keep hk1
        clear hk1
        refine lv_pop hx hb dL_law_412 rfl ?_
        refine lv_goto (tgt := 472) hx hb dL_law_413 (by decide) ?_
        obtain ⟨x3n, ex3n⟩ : ∃ y : Int32, y = x3 + 6 := ⟨_, rfl⟩
        refine lv_iinc (v := x3n) (lv' := [(3, .int x3n), (0, .ref b), (1, .ref q0), (2, .ref q1)]) hx hb dL_law_472 hl (k := 3) rfl (by rw [ex3n]; rfl) (by decide) rfl (fun ls hl => ?_)
        refine lv_goto (tgt := 18) hx hb dL_law_475 (by decide) ?_
        exact ih (k + 6) x3n (by omega) (by omega) (by rw [ex3n, ex3]; exact nI_add k 6) _ _ hq0 hq1 hS ls (lv_sub hl [1, 2, 3, 0] rfl)
      by_cases c_22 : ((xs (x3).toNatClampNeg) &&& (15 : Int32)) = (7 : Int32)
      · refine lv_tableIn (off := 383) (tgt := 416) hx hb dL_law_33 (by rw [c_22]; decide) (by rw [c_22]; decide) (by rw [c_22]; decide) (by decide) ?_
        refine lv_aload_n hx hb dL_law_416 rfl (lv_at hl 1 rfl) ?_
        refine lv_aload_n hx hb dL_law_417 rfl (lv_at hl 0 rfl) ?_
        refine lv_iload_n hx hb dL_law_418 rfl (lv_at hl 3 rfl) ?_
        refine lv_iconst (v := 1) hx hb dL_law_419 (by decide) ?_
        refine lv_iadd hx hb dL_law_420 ?_
        refine va_sld hx hb hX hbl hbA hS hi_1 dL_law_421 ?_
        refine va_calli (va_runV (As := [.int (xs ((x3 + (1 : Int32))).toNatClampNeg)]) (rest := []) ⟨hx, hb, hml, hown, hts⟩ (mX0_goesOn l H.size q0 t0 (xs ((x3 + (1 : Int32))).toNatClampNeg)) (cwV 1 hts gL_law_X0_goesOn rfl rfl rfl (by decide +kernel) ⟨Nat.le_of_ble_eq_true rfl, Nat.le_of_ble_eq_true rfl⟩) ⟨fb_ww, hq0, fun U hU hW => ⟨rfl, congrArg Array.size hU, hq0.go hU hW.alike, htt.go hS hU hW.alike⟩⟩ rfl rfl hl.1 rfl (lv_room (Nat.le_of_ble_eq_true rfl)) dL_law_422 ⟨Nat.le_of_ble_eq_true rfl, Nat.le_of_ble_eq_true rfl⟩) hS (fun q _ h => Nat.le_trans hS.1 h) (fun q h => Nat.le_trans hS.1 h) (fun r_23 _ _ H_23 _ _ _ hw _ _ hk1 hS => ?_)
        subst hw
        have hq0 := hq0.keep hk1
        have hq1 := hq1.keep hk1
        clear hk1
        refine lv_pop hx hb dL_law_425 rfl ?_
        refine lv_aload_n hx hb dL_law_426 rfl (lv_at hl 2 rfl) ?_
        refine lv_aload_n hx hb dL_law_427 rfl (lv_at hl 0 rfl) ?_
        refine lv_iload_n hx hb dL_law_428 rfl (lv_at hl 3 rfl) ?_
        refine lv_iconst (v := 1) hx hb dL_law_429 (by decide) ?_
        refine lv_iadd hx hb dL_law_430 ?_
        refine va_sld hx hb hX hbl hbA hS hi_1 dL_law_431 ?_
        refine va_calli (va_runV (As := [.int (xs ((x3 + (1 : Int32))).toNatClampNeg)]) (rest := []) ⟨hx, hb, hml, hown, hts⟩ (mX1_goesOn l H_23.size q1 (xs ((x3 + (1 : Int32))).toNatClampNeg)) (cwV 1 hts gL_law_X1_goesOn rfl rfl rfl (by decide +kernel) ⟨Nat.le_of_ble_eq_true rfl, Nat.le_of_ble_eq_true rfl⟩) ⟨fb_rr, hq1, fun U hU hW => ⟨rfl, congrArg Array.size hU, hq1.go hU hW.alike⟩⟩ rfl rfl hl.1 rfl (lv_room (Nat.le_of_ble_eq_true rfl)) dL_law_432 ⟨Nat.le_of_ble_eq_true rfl, Nat.le_of_ble_eq_true rfl⟩) hS (fun q _ h => Nat.le_trans hS.1 h) (fun q h => Nat.le_trans hS.1 h) (fun r_24 _ _ H_24 _ _ _ hw _ _ hk1 hS => ?_)
        subst hw
        have hq0 := hq0.keep hk1
        have hq1 := hq1.keep hk1
        clear hk1
        refine lv_pop hx hb dL_law_435 rfl ?_
        refine lv_goto (tgt := 472) hx hb dL_law_436 (by decide) ?_
        obtain ⟨x3n, ex3n⟩ : ∃ y : Int32, y = x3 + 6 := ⟨_, rfl⟩
        refine lv_iinc (v := x3n) (lv' := [(3, .int x3n), (0, .ref b), (1, .ref q0), (2, .ref q1)]) hx hb dL_law_472 hl (k := 3) rfl (by rw [ex3n]; rfl) (by decide) rfl (fun ls hl => ?_)
        refine lv_goto (tgt := 18) hx hb dL_law_475 (by decide) ?_
        exact ih (k + 6) x3n (by omega) (by omega) (by rw [ex3n, ex3]; exact nI_add k 6) _ _ hq0 hq1 hS ls (lv_sub hl [1, 2, 3, 0] rfl)
      by_cases c_25 : ((xs (x3).toNatClampNeg) &&& (15 : Int32)) = (8 : Int32)
      · refine lv_tableIn (off := 406) (tgt := 439) hx hb dL_law_33 (by rw [c_25]; decide) (by rw [c_25]; decide) (by rw [c_25]; decide) (by decide) ?_
        refine lv_aload_n hx hb dL_law_439 rfl (lv_at hl 1 rfl) ?_
        refine lv_aload_n hx hb dL_law_440 rfl (lv_at hl 0 rfl) ?_
        refine lv_iload_n hx hb dL_law_441 rfl (lv_at hl 3 rfl) ?_
        refine lv_iconst (v := 1) hx hb dL_law_442 (by decide) ?_
        refine lv_iadd hx hb dL_law_443 ?_
        refine va_sld hx hb hX hbl hbA hS hi_1 dL_law_444 ?_
        refine lv_aload_n hx hb dL_law_445 rfl (lv_at hl 0 rfl) ?_
        refine lv_iload_n hx hb dL_law_446 rfl (lv_at hl 3 rfl) ?_
        refine lv_iconst (v := 2) hx hb dL_law_447 (by decide) ?_
        refine lv_iadd hx hb dL_law_448 ?_
        refine va_sld hx hb hX hbl hbA hS hi_2 dL_law_449 ?_
        refine va_calli (va_runV (As := [.int (xs ((x3 + (1 : Int32))).toNatClampNeg), .int (xs ((x3 + (2 : Int32))).toNatClampNeg)]) (rest := []) ⟨hx, hb, hml, hown, hts⟩ (mX0_register l H.size q0 t0 (xs ((x3 + (1 : Int32))).toNatClampNeg) (xs ((x3 + (2 : Int32))).toNatClampNeg)) (cwV 2 hts gL_law_X0_register rfl rfl rfl (by decide +kernel) ⟨Nat.le_of_ble_eq_true rfl, Nat.le_of_ble_eq_true rfl⟩) ⟨fb_ww, hq0, fun U hU hW => ⟨rfl, congrArg Array.size hU, hq0.go hU hW.alike, htt.go hS hU hW.alike⟩⟩ rfl rfl hl.1 rfl (lv_room (Nat.le_of_ble_eq_true rfl)) dL_law_450 ⟨Nat.le_of_ble_eq_true rfl, Nat.le_of_ble_eq_true rfl⟩) hS (fun q _ h => Nat.le_trans hS.1 h) (fun q h => Nat.le_trans hS.1 h) (fun r_26 _ _ H_26 _ _ _ hw _ _ hk1 hS => ?_)
        subst hw
        have hq0 := hq0.keep hk1
        have hq1 := hq1.keep hk1
        clear hk1
        refine lv_pop hx hb dL_law_453 rfl ?_
        refine lv_aload_n hx hb dL_law_454 rfl (lv_at hl 2 rfl) ?_
        refine lv_aload_n hx hb dL_law_455 rfl (lv_at hl 0 rfl) ?_
        refine lv_iload_n hx hb dL_law_456 rfl (lv_at hl 3 rfl) ?_
        refine lv_iconst (v := 1) hx hb dL_law_457 (by decide) ?_
        refine lv_iadd hx hb dL_law_458 ?_
        refine va_sld hx hb hX hbl hbA hS hi_1 dL_law_459 ?_
        refine lv_aload_n hx hb dL_law_460 rfl (lv_at hl 0 rfl) ?_
        refine lv_iload_n hx hb dL_law_461 rfl (lv_at hl 3 rfl) ?_
        refine lv_iconst (v := 2) hx hb dL_law_462 (by decide) ?_
        refine lv_iadd hx hb dL_law_463 ?_
        refine va_sld hx hb hX hbl hbA hS hi_2 dL_law_464 ?_
        refine va_calli (va_runV (As := [.int (xs ((x3 + (1 : Int32))).toNatClampNeg), .int (xs ((x3 + (2 : Int32))).toNatClampNeg)]) (rest := []) ⟨hx, hb, hml, hown, hts⟩ (mX1_register l H_26.size q1 (xs ((x3 + (1 : Int32))).toNatClampNeg) (xs ((x3 + (2 : Int32))).toNatClampNeg)) (cwV 2 hts gL_law_X1_register rfl rfl rfl (by decide +kernel) ⟨Nat.le_of_ble_eq_true rfl, Nat.le_of_ble_eq_true rfl⟩) ⟨fb_rr, hq1, fun U hU hW => ⟨rfl, congrArg Array.size hU, hq1.go hU hW.alike⟩⟩ rfl rfl hl.1 rfl (lv_room (Nat.le_of_ble_eq_true rfl)) dL_law_465 ⟨Nat.le_of_ble_eq_true rfl, Nat.le_of_ble_eq_true rfl⟩) hS (fun q _ h => Nat.le_trans hS.1 h) (fun q h => Nat.le_trans hS.1 h) (fun r_27 _ _ H_27 _ _ _ hw _ _ hk1 hS => ?_)
        subst hw
        have hq0 := hq0.keep hk1
        have hq1 := hq1.keep hk1
        clear hk1
        refine lv_pop hx hb dL_law_468 rfl ?_
        refine lv_goto (tgt := 472) hx hb dL_law_469 (by decide) ?_
        obtain ⟨x3n, ex3n⟩ : ∃ y : Int32, y = x3 + 6 := ⟨_, rfl⟩
        refine lv_iinc (v := x3n) (lv' := [(3, .int x3n), (0, .ref b), (1, .ref q0), (2, .ref q1)]) hx hb dL_law_472 hl (k := 3) rfl (by rw [ex3n]; rfl) (by decide) rfl (fun ls hl => ?_)
        refine lv_goto (tgt := 18) hx hb dL_law_475 (by decide) ?_
        exact ih (k + 6) x3n (by omega) (by omega) (by rw [ex3n, ex3]; exact nI_add k 6) _ _ hq0 hq1 hS ls (lv_sub hl [1, 2, 3, 0] rfl)
      refine sw_def (tgt := 472) hx hb dL_law_33 (by decide) (fun k hk => by
          have e_0 := lv_neT c_1 (a := 0) (by decide); have e_1 := lv_neT c_4 (a := 1) (by decide); have e_2 := lv_neT c_7 (a := 2) (by decide); have e_3 := lv_neT c_10 (a := 3) (by decide); have e_4 := lv_neT c_13 (a := 4) (by decide); have e_5 := lv_neT c_16 (a := 5) (by decide); have e_6 := lv_neT c_19 (a := 6) (by decide); have e_7 := lv_neT c_22 (a := 7) (by decide); have e_8 := lv_neT c_25 (a := 8) (by decide)
          rcases (show k = 0 ∨ k = 1 ∨ k = 2 ∨ k = 3 ∨ k = 4 ∨ k = 5 ∨ k = 6 ∨ k = 7 ∨ k = 8 from by have hk9 : k < 9 := hk; omega) with rfl | rfl | rfl | rfl | rfl | rfl | rfl | rfl | rfl <;> first | exact Or.inl rfl | exact Or.inr (by omega)) (by decide) ?_
      obtain ⟨x3n, ex3n⟩ : ∃ y : Int32, y = x3 + 6 := ⟨_, rfl⟩
      refine lv_iinc (v := x3n) (lv' := [(3, .int x3n), (0, .ref b), (1, .ref q0), (2, .ref q1)]) hx hb dL_law_472 hl (k := 3) rfl (by rw [ex3n]; rfl) (by decide) rfl (fun ls hl => ?_)
      refine lv_goto (tgt := 18) hx hb dL_law_475 (by decide) ?_
      exact ih (k + 6) x3n (by omega) (by omega) (by rw [ex3n, ex3]; exact nI_add k 6) _ _ hq0 hq1 hS ls (lv_sub hl [1, 2, 3, 0] rfl)
