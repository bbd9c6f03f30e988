set_option maxHeartbeats 8000000 in
set_option maxRecDepth 100000 in
/-- the static table, as the Statement gives it -/
theorem lw_table {s : State} {b : Nat} (hts : ∀ w ∈ lw_tbl, w.before #[Value.ref b] s = true) (hgv : (Jvm.Cond.and given_1 narrow_1).before #[Value.ref b] s = true) : ∃ t0 : Nat, wv_tt t0 s := by
  have hs := flat_of_before _ hgv
  have hA : ∀ a : Nat, a < s.heap.size → ¬ (fun q : Nat => s.heap.size ≤ q) a := fun a h => Nat.not_le.mpr h
  have hlen : (Term.length (.static "WordForms" "FORMS" "[I")).eval #[Value.ref b] s none [] s = some (.int (Int32.ofNat 42)) := va_eqt (hs (.eq (.length (.static "WordForms" "FORMS" "[I")) (.int (42 : Int32))) (by decide +kernel))
  have hel : ∀ j : Nat, j < 42 → (Term.elem (.static "WordForms" "FORMS" "[I") (.int (Int32.ofNat j))).eval #[Value.ref b] s none [] s = some (Value.int (fm_t.getD j 0)) := by
    intro j hj
    match j, hj with
    | 0, _ => exact va_eqt (hs (.eq (.elem (.static "WordForms" "FORMS" "[I") (.int (0 : Int32))) (.int (528482304 : Int32))) (by decide +kernel))
    | 1, _ => exact va_eqt (hs (.eq (.elem (.static "WordForms" "FORMS" "[I") (.int (1 : Int32))) (.int (285212672 : Int32))) (by decide +kernel))
    | 2, _ => exact va_eqt (hs (.eq (.elem (.static "WordForms" "FORMS" "[I") (.int (2 : Int32))) (.int (522190848 : Int32))) (by decide +kernel))
    | 3, _ => exact va_eqt (hs (.eq (.elem (.static "WordForms" "FORMS" "[I") (.int (3 : Int32))) (.int (184549376 : Int32))) (by decide +kernel))
    | 4, _ => exact va_eqt (hs (.eq (.elem (.static "WordForms" "FORMS" "[I") (.int (4 : Int32))) (.int (520093696 : Int32))) (by decide +kernel))
    | 5, _ => exact va_eqt (hs (.eq (.elem (.static "WordForms" "FORMS" "[I") (.int (5 : Int32))) (.int (167772160 : Int32))) (by decide +kernel))
    | 6, _ => exact va_eqt (hs (.eq (.elem (.static "WordForms" "FORMS" "[I") (.int (6 : Int32))) (.int (528482304 : Int32))) (by decide +kernel))
    | 7, _ => exact va_eqt (hs (.eq (.elem (.static "WordForms" "FORMS" "[I") (.int (7 : Int32))) (.int (310378496 : Int32))) (by decide +kernel))
    | 8, _ => exact va_eqt (hs (.eq (.elem (.static "WordForms" "FORMS" "[I") (.int (8 : Int32))) (.int (-1627389952 : Int32))) (by decide +kernel))
    | 9, _ => exact va_eqt (hs (.eq (.elem (.static "WordForms" "FORMS" "[I") (.int (9 : Int32))) (.int (-1879048192 : Int32))) (by decide +kernel))
    | 10, _ => exact va_eqt (hs (.eq (.elem (.static "WordForms" "FORMS" "[I") (.int (10 : Int32))) (.int (2145386496 : Int32))) (by decide +kernel))
    | 11, _ => exact va_eqt (hs (.eq (.elem (.static "WordForms" "FORMS" "[I") (.int (11 : Int32))) (.int (452984832 : Int32))) (by decide +kernel))
    | 12, _ => exact va_eqt (hs (.eq (.elem (.static "WordForms" "FORMS" "[I") (.int (12 : Int32))) (.int (2145386496 : Int32))) (by decide +kernel))
    | 13, _ => exact va_eqt (hs (.eq (.elem (.static "WordForms" "FORMS" "[I") (.int (13 : Int32))) (.int (448790528 : Int32))) (by decide +kernel))
    | 14, _ => exact va_eqt (hs (.eq (.elem (.static "WordForms" "FORMS" "[I") (.int (14 : Int32))) (.int (2145388544 : Int32))) (by decide +kernel))
    | 15, _ => exact va_eqt (hs (.eq (.elem (.static "WordForms" "FORMS" "[I") (.int (15 : Int32))) (.int (444596224 : Int32))) (by decide +kernel))
    | 16, _ => exact va_eqt (hs (.eq (.elem (.static "WordForms" "FORMS" "[I") (.int (16 : Int32))) (.int (1056964608 : Int32))) (by decide +kernel))
    | 17, _ => exact va_eqt (hs (.eq (.elem (.static "WordForms" "FORMS" "[I") (.int (17 : Int32))) (.int (956301312 : Int32))) (by decide +kernel))
    | 18, _ => exact va_eqt (hs (.eq (.elem (.static "WordForms" "FORMS" "[I") (.int (18 : Int32))) (.int (1059122176 : Int32))) (by decide +kernel))
    | 19, _ => exact va_eqt (hs (.eq (.elem (.static "WordForms" "FORMS" "[I") (.int (19 : Int32))) (.int (941647872 : Int32))) (by decide +kernel))
    | 20, _ => exact va_eqt (hs (.eq (.elem (.static "WordForms" "FORMS" "[I") (.int (20 : Int32))) (.int (-33554432 : Int32))) (by decide +kernel))
    | 21, _ => exact va_eqt (hs (.eq (.elem (.static "WordForms" "FORMS" "[I") (.int (21 : Int32))) (.int (-1476395008 : Int32))) (by decide +kernel))
    | 22, _ => exact va_eqt (hs (.eq (.elem (.static "WordForms" "FORMS" "[I") (.int (22 : Int32))) (.int (-67108864 : Int32))) (by decide +kernel))
    | 23, _ => exact va_eqt (hs (.eq (.elem (.static "WordForms" "FORMS" "[I") (.int (23 : Int32))) (.int (335544320 : Int32))) (by decide +kernel))
    | 24, _ => exact va_eqt (hs (.eq (.elem (.static "WordForms" "FORMS" "[I") (.int (24 : Int32))) (.int (-67108864 : Int32))) (by decide +kernel))
    | 25, _ => exact va_eqt (hs (.eq (.elem (.static "WordForms" "FORMS" "[I") (.int (25 : Int32))) (.int (-1811939328 : Int32))) (by decide +kernel))
    | 26, _ => exact va_eqt (hs (.eq (.elem (.static "WordForms" "FORMS" "[I") (.int (26 : Int32))) (.int (-16777200 : Int32))) (by decide +kernel))
    | 27, _ => exact va_eqt (hs (.eq (.elem (.static "WordForms" "FORMS" "[I") (.int (27 : Int32))) (.int (1409286144 : Int32))) (by decide +kernel))
    | 28, _ => exact va_eqt (hs (.eq (.elem (.static "WordForms" "FORMS" "[I") (.int (28 : Int32))) (.int (2113929216 : Int32))) (by decide +kernel))
    | 29, _ => exact va_eqt (hs (.eq (.elem (.static "WordForms" "FORMS" "[I") (.int (29 : Int32))) (.int (872415232 : Int32))) (by decide +kernel))
    | 30, _ => exact va_eqt (hs (.eq (.elem (.static "WordForms" "FORMS" "[I") (.int (30 : Int32))) (.int (2113929216 : Int32))) (by decide +kernel))
    | 31, _ => exact va_eqt (hs (.eq (.elem (.static "WordForms" "FORMS" "[I") (.int (31 : Int32))) (.int (905969664 : Int32))) (by decide +kernel))
    | 32, _ => exact va_eqt (hs (.eq (.elem (.static "WordForms" "FORMS" "[I") (.int (32 : Int32))) (.int (-993 : Int32))) (by decide +kernel))
    | 33, _ => exact va_eqt (hs (.eq (.elem (.static "WordForms" "FORMS" "[I") (.int (33 : Int32))) (.int (-702611456 : Int32))) (by decide +kernel))
    | 34, _ => exact va_eqt (hs (.eq (.elem (.static "WordForms" "FORMS" "[I") (.int (34 : Int32))) (.int (-993 : Int32))) (by decide +kernel))
    | 35, _ => exact va_eqt (hs (.eq (.elem (.static "WordForms" "FORMS" "[I") (.int (35 : Int32))) (.int (-700514304 : Int32))) (by decide +kernel))
    | 36, _ => exact va_eqt (hs (.eq (.elem (.static "WordForms" "FORMS" "[I") (.int (36 : Int32))) (.int (-993 : Int32))) (by decide +kernel))
    | 37, _ => exact va_eqt (hs (.eq (.elem (.static "WordForms" "FORMS" "[I") (.int (37 : Int32))) (.int (-698417152 : Int32))) (by decide +kernel))
    | 38, _ => exact va_eqt (hs (.eq (.elem (.static "WordForms" "FORMS" "[I") (.int (38 : Int32))) (.int (-2097121 : Int32))) (by decide +kernel))
    | 39, _ => exact va_eqt (hs (.eq (.elem (.static "WordForms" "FORMS" "[I") (.int (39 : Int32))) (.int (-738197503 : Int32))) (by decide +kernel))
    | 40, _ => exact va_eqt (hs (.eq (.elem (.static "WordForms" "FORMS" "[I") (.int (40 : Int32))) (.int (-1 : Int32))) (by decide +kernel))
    | 41, _ => exact va_eqt (hs (.eq (.elem (.static "WordForms" "FORMS" "[I") (.int (41 : Int32))) (.int (-721215457 : Int32))) (by decide +kernel))
    | n + 42, hj => exact absurd hj (by omega)
  obtain ⟨t, ht, hT⟩ := va_Tof (f := fun j => Value.int (fm_t.getD j 0)) (by decide) (hs (.arrayOf (.static "WordForms" "FORMS" "[I") .int) (by decide +kernel)) hlen hel hA
  exact ⟨t, va_Zref (hts (.laysStatic "WordForms" "FORMS" "[I") (by decide +kernel)) (hts (.initialized "WordForms") (by decide +kernel)) ht hA, hT⟩
set_option maxHeartbeats 8000000 in
set_option maxRecDepth 100000 in
/-- THE LAW, from its entry -/
theorem whole_start {p : Program} {e : Env} {s : State} {m : MethodId} {below : List Frame} {meth : Method} {c : Code} (l : Launch) {b L : Nat} {xs : Nat → Int32} (hL : L ≤ 3072) (C0 : lw_At p s m meth c b L xs) : W p l e room_1 s m #[Value.ref b] below meth c s.heap [] 0 0 (lw_Z below #[Value.ref b] s) (entryFrame m ([Value.ref b] : List Value).toArray 4) := by
  obtain ⟨hx, hb, hr, hml, hown, hts0, hX, hbl, hlocks, hgv⟩ := id C0
  have hown : s.vm.findClass RL = some m.cls := hown
  have hts : ∀ w ∈ wsL_law, w.before #[Value.ref b] s = true := fun w h => hts0 w (wsL_law_in w h)
  have hA : ∀ q : Nat, s.heap.size ≤ q → (fun q : Nat => s.heap.size ≤ q) q := fun _ h => h
  obtain ⟨t0, htt⟩ := lw_table hts0 hgv
  obtain ⟨c0, iS0, hKn0⟩ := u_known (C := RX0) (T := TX0) (N := 0) (n := 0) hts0 inX0 (hts0 (.instantiable RX0 0) (by decide +kernel))
  obtain ⟨c1, iS1, hKn1⟩ := u_known (C := RX1) (T := TX1) (N := 0) (n := 0) hts0 inX1 (hts0 (.instantiable RX1 0) (by decide +kernel))
  obtain ⟨dC, dI, hKc⟩ : ∃ (dC : Nat → ClassId) (dI : Nat → Nat → Nat), ∀ (k : Nat) (q : vw_C), vwCl[k]? = some q → u_Kn s q.1 q.2.1 q.2.2 (dC k) (dI k) := by
    refine ⟨fun k => if k = 0 then c0 else c1, fun k => if k = 0 then iS0 else iS1, ?_⟩
    intro k q hq
    match k, hq with
    | 0, hq => cases hq; exact hKn0
    | 1, hq => cases hq; exact hKn1
    | k + 2, hq => simp [vwCl] at hq
  have hS : va_S (fun q : Nat => s.heap.size ≤ q) s.heap s.heap [] := va_S.rf
  have hK : va_K (dC, dI) vwCl [] s := ⟨hKc, fun k q h => by simp at h⟩
  have hP : va_P (dC, dI) vwCl [] s.heap := fun k q h => by simp at h
  have hD : va_D (fun q : Nat => s.heap.size ≤ q) [] := ⟨fun i j p q h => by simp at h, fun k q h => by simp at h⟩
  have hl := lv_entry ([.ref b]) (n := 4) (Nat.le_of_ble_eq_true rfl)
  rw [lg_entry_eq]
  generalize (lg_sl ([.ref b]) ++ List.replicate (4 - (lg_sl ([.ref b])).length) Slot.unset).toArray = ls at hl ⊢
  have hl : lv_has ls 4 [(0, .ref b)] := hl
  refine va_new (ci := 0) (fs := []) (C := RX0) (T := TX0) (N := 0) hx hb hts0 inX0 tyX0 tyX0_ok hown (hts0 (.classLink RL 7 RX0) (by decide +kernel)) (hts0 (.instantiable RX0 0) (by decide +kernel)) (hts0 (.initialized RX0) (by decide +kernel)) hK hP hD hS hA rfl (fun j hj => absurd hj (Nat.not_lt_zero j)) (Nat.le_of_ble_eq_true rfl) (Nat.le_of_ble_eq_true rfl) dL_law_0 (fun q0 H hP hD hS => ?_)
  have hP : va_P (dC, dI) vwCl [(q0, .inr (0, []))] H := hP
  have hD : va_D (fun q : Nat => s.heap.size ≤ q) [(q0, .inr (0, []))] := hD
  refine W.widen (k := 1) (n := 0) (by omega) (by omega) ?_
  refine lv_dup hx hb dL_law_3 rfl ?_
  refine va_callv (va_runI (As := []) (rest := [.ref q0]) ⟨hx, hb, hml, hown, hts⟩ (mX0_init l H.size q0) (cwI 0 hts gL_law_X0_init rfl rfl rfl (hts (.initialized RX0) (by decide +kernel)) (hts (.methodLink RL 9 yX0_init) (by decide +kernel)) (hts (.instanceMethod yX0_init) (by decide +kernel)) rfl (by decide +kernel) ⟨Nat.le_of_ble_eq_true rfl, Nat.le_of_ble_eq_true rfl⟩) ⟨fb_pure, fun U hU hW => ⟨rfl, congrArg Array.size hU⟩⟩ rfl rfl hl.1 rfl (lv_room (Nat.le_of_ble_eq_true rfl)) dL_law_4 ⟨Nat.le_of_ble_eq_true rfl, Nat.le_of_ble_eq_true rfl⟩) hS (fun q _ h => Nat.le_trans hS.1 h) (fun q h => Nat.le_trans hS.1 h) (fun _ _ H1 _ _ _ _ _ _ hk1 hS => ?_)
  have hP : va_P (dC, dI) vwCl [(q0, .inr (0, []))] H1 := fun k q h => (hP k q h).kept (hk1 q.1 (hP k q h).lt (Nat.not_le.mpr (hP k q h).lt))
  clear hk1
  refine lv_astore_n (lv' := [(1, .ref q0), (0, .ref b)]) hx hb dL_law_7 rfl hl (by decide) rfl (fun ls hl => ?_)
  refine va_new (ci := 1) (fs := []) (C := RX1) (T := TX1) (N := 0) hx hb hts0 inX1 tyX1 tyX1_ok hown (hts0 (.classLink RL 10 RX1) (by decide +kernel)) (hts0 (.instantiable RX1 0) (by decide +kernel)) (hts0 (.initialized RX1) (by decide +kernel)) hK hP hD hS hA rfl (fun j hj => absurd hj (Nat.not_lt_zero j)) (Nat.le_of_ble_eq_true rfl) (Nat.le_of_ble_eq_true rfl) dL_law_8 (fun q1 H2 hP hD hS => ?_)
  have hP : va_P (dC, dI) vwCl [(q0, .inr (0, [])), (q1, .inr (1, []))] H2 := hP
  refine W.widen (k := 2) (n := 0) (by omega) (by omega) ?_
  refine lv_dup hx hb dL_law_11 rfl ?_
  have hq0 : wv_lrc RX0 q0 s H2 := va_recv hK hP (ci := 0) (q0 := 0) rfl rfl
  have hq1 : wv_lrc RX1 q1 s H2 := va_recv hK hP (ci := 1) (q0 := 1) rfl rfl
  refine va_callv (va_runI (As := []) (rest := [.ref q1]) ⟨hx, hb, hml, hown, hts⟩ (mX1_init l H2.size q1) (cwI 0 hts gL_law_X1_init rfl rfl rfl (hts (.initialized RX1) (by decide +kernel)) (hts (.methodLink RL 12 yX1_init) (by decide +kernel)) (hts (.instanceMethod yX1_init) (by decide +kernel)) rfl (by decide +kernel) ⟨Nat.le_of_ble_eq_true rfl, Nat.le_of_ble_eq_true rfl⟩) ⟨fb_pure, fun U hU hW => ⟨rfl, congrArg Array.size hU⟩⟩ rfl rfl hl.1 rfl (lv_room (Nat.le_of_ble_eq_true rfl)) dL_law_12 ⟨Nat.le_of_ble_eq_true rfl, Nat.le_of_ble_eq_true rfl⟩) hS (fun q _ h => Nat.le_trans hS.1 h) (fun q h => Nat.le_trans hS.1 h) (fun _ _ H3 _ _ _ _ _ _ hk1 hS => ?_)
  have hq0 := hq0.keep hk1
  have hq1 := hq1.keep hk1
  refine lv_astore_n (lv' := [(2, .ref q1), (1, .ref q0), (0, .ref b)]) hx hb dL_law_15 rfl hl (by decide) rfl (fun ls hl => ?_)
  refine lv_iconst (v := 0) hx hb dL_law_16 (by decide) ?_
  refine lv_istore_n (lv' := [(3, .int 0), (2, .ref q1), (1, .ref q0), (0, .ref b)]) hx hb dL_law_17 rfl hl (by decide) rfl (fun ls hl => ?_)
  exact law_loop hL C0 t0 htt q0 q1 (L + 1) 0 0 (Nat.zero_le L) (by omega) nI_0.symm _ _ hq0 hq1 hS ls (lv_sub hl [3, 2, 1, 0] rfl)
-- ===== YOUR PART ENDS =====
set_option maxHeartbeats 4000000 in
theorem lw_walk (l : Launch) (b : Addr) (xs : List Int32) : MetFree l x (headSpec (Jvm.Cond.code x code maxLocals ret :: tables_1) room_1) (lw_P b xs) (fun _ _ _ _ _ => True) lw_Q := by
  refine MetFree.of_bodyS (code := code) (maxLocals := maxLocals) (ret := ret) (by decide) ?_ ?_
  · intro args s m h hn
    obtain ⟨meth, c, h1, h2, h3, h4, h5, h6, -, -⟩ := Cond.code_spec hn (atoms_spec (ws := Jvm.Cond.code x code maxLocals ret :: tables_1) h _ List.mem_cons_self)
    exact ⟨meth, c, h1, h2, h3, h4, h5, h6⟩
  · intro p e s m args below meth c s₁ B hml0 hP _
    obtain ⟨rfl, hx, hbd, hgv⟩ := hP
    obtain ⟨scr, harrAt, hlist, hof, hsmall⟩ := hx
    obtain ⟨hcb, hkn, -, -⟩ := State.arrayAt?_spec harrAt
    have hown : s.vm.findClass R_law = some m.cls := findClass_of_methodNamed B.named
    have hts0 : ∀ c ∈ (Jvm.Cond.code x code maxLocals ret :: tables_1), c.before #[Value.ref b] s = true := atoms_spec (ws := Jvm.Cond.code x code maxLocals ret :: tables_1) B.pre
    have hts : ∀ w ∈ lw_tbl, w.before #[Value.ref b] s = true := k2_hts_sels lw_privs (fun w hw => hts0 w (List.mem_cons_of_mem _ hw)) lw_privs_ok
    have hml : c.maxLocals = 4 := B.maxLocals_eq (hts0 _ List.mem_cons_self)
    have X₀ : Stand p l e room_1 s m #[Value.ref b] below meth c s₁ [] 0 0 := Stand.of_body B
    have hh0 : s₁.heap = s.heap := by rw [B.state]; rfl
    have hsz : scr.slots.size = xs.length := by rw [← Array.length_toList, hlist, List.length_map]
    have hval : ∀ j : Nat, j < xs.length → scr.slots[j]? = some (.int (xs.getD j 0)) := fun j hj => by
      rw [← Array.getElem?_toList, hlist]
      simp [hj]
    have hbl : b < s.heap.size := (Array.getElem?_eq_some_iff.mp hcb).1
    have hX : va_X b xs.length (fun j => xs.getD j 0) s s.heap := ⟨scr, hcb, hof, hkn, hsz, hval⟩
    have K : W p l e room_1 s m #[Value.ref b] below meth c s₁.heap [] 0 0 (lw_Z below #[Value.ref b] s) (entryFrame m ([Value.ref b] : List Value).toArray 4) := by
      rw [hh0]
      exact whole_start l hbd ⟨B.exec, B.bytes, B.returns, hml, hown, hts, hX, hbl, B.notSynchronized, hgv⟩
    obtain ⟨t, a1, o, b1, b2, b3⟩ := K s₁ rfl X₀
    exact ⟨t, o, a1, b1, b2, b3⟩
theorem lw_pre_spec {args : Array Value} {s : State} (h : (Jvm.Cond.and given_1 narrow_1).before args s = true) (hr : rest_1_c.before args s = true) : ∃ (b : Addr) (xs : List Int32), lw_P b xs args s := by
  have hs := flat_of_before _ h
  have hq := flat_of_before _ hr
  have hc : (Cond.count 1).before args s = true := hs _ (by decide +kernel)
  have harr : (Cond.arrayOf (.arg 0) .int).before args s = true := hs _ (by decide +kernel)
  have hle : (Cond.le (.length (.arg 0)) (.int 3072)).before args s = true := hs _ (by decide +kernel)
  have hlen : (Cond.isInt (.length (.arg 0))).before args s = true := hq _ (by decide +kernel)
  have hall : (Cond.all (.arg 0) (.isInt (.elem (.arg 0) (.index 0)))).before args s = true := hq _ (by decide +kernel)
  obtain ⟨b, xs, hb, hx⟩ := State.ints_of_pre rfl harr hlen hall
  have hsm : xs.length < 2 ^ 31 := hx.choose_spec.2.2.2
  have hev : (Term.length (.arg 0)).eval args s none [] s = some (.int xs.length.toInt32) := hx.length_eval hb
  have hv := Cond.le_ints hev (show (Term.int 3072).eval args s none [] s = some (.int 3072) from rfl)
  have hd : xs.length.toInt32 ≤ 3072 := by
    simpa [Cond.before, Cond.holds, hv] using hle
  have hN : xs.length ≤ 3072 := (Int32.ofNat_le_ofNat hsm (by decide)).mp (show Int32.ofNat xs.length ≤ Int32.ofNat 3072 from hd)
  exact ⟨b, xs, Cond.one_arg hc (show args[0]? = some (.ref b) from hb), hx, hN, h⟩
theorem lw_comes (l : Launch) : Comes l x (Jvm.Cond.code x code maxLocals ret :: tables_1) room_1 (fun tb e args s => Calls_1 tb e args s ∧ rest_1 tb e args s ∧ Pre_1 tb e args s)
    (fun _ _ args s o t => lw_Q args s o t) := by
  intro p e ha hc hk s m args below hf hfit hheap happ hpre
  obtain ⟨b, xs, hP⟩ := lw_pre_spec hpre.2.2 hpre.2.1
  obtain ⟨k, o, h1, h2, h3, hQ⟩ := lw_walk l b xs p e ha hc hk s m args below hf ((Spec.applies_iff_loose hf).mp happ).1 hP trivial
  exact ⟨k, o, h1, h2, h3, hQ⟩
theorem lw_frame {s t : State} {o : Outcome} {args : Array Value} (h : Framed s o t [] 2 0) :
    Framed s o t (fieldLocs frame_1_writes args s ++ arrayLocs frame_1_arrays args s ++ staticLocs frame_1_statics s) 2 0 := h
theorem lw_limb (L : Cond) (hL : ∀ (args : Array Value) (s t : State), L.after args s (.returned (some (.int 1))) t = true) :
    ArmFor flags0 classFile x code maxLocals ret World_1 tables_1 room_1 Calls_1 rest_1 Pre_1
      (fun tb e a s o t => postC L tb e a s o t ∧ Framed s o t (fieldLocs frame_1_writes a s ++ arrayLocs frame_1_arrays a s ++ staticLocs frame_1_statics s) 2 0) := by
  intro l _ _ _ p e ha hc hk s m args below hf hfit hheap happ hpre
  obtain ⟨k, o, h1, h2, h3, rfl, hF⟩ := lw_comes l p e ha hc hk s m args below hf hfit hheap happ hpre
  exact ⟨k, _, h1, h2, h3, hL args s _, lw_frame hF⟩
theorem i_vc : Claimed_1_1 ∧ Claimed_1_2 := ⟨lw_limb limb_1_1 (fun args s t => by simp [limb_1_1, Cond.after, Cond.holds, Cond.value]), lw_limb limb_1_2 (fun args s t => Cond.after_iff.mpr (by
  first | (rw [show limb_1_2 = Cond.eq .result (.int 1) from rfl, Cond.eq_ints (x := 1) (y := 1) rfl rfl]; simp; done) | (simp [limb_1_2, Cond.value, Term.eval]; done)))⟩
