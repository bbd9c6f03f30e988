/-! the world of these methods: nothing that was there is ever changed -/
def fm_t : List Int32 := [528482304, 285212672, 522190848, 184549376, 520093696, 167772160, 528482304, 310378496, (-1627389952), (-1879048192), 2145386496, 452984832, 2145386496, 448790528, 2145388544, 444596224, 1056964608, 956301312, 1059122176, 941647872, (-33554432), (-1476395008), (-67108864), 335544320, (-67108864), (-1811939328), (-16777200), 1409286144, 2113929216, 872415232, 2113929216, 905969664, (-993), (-702611456), (-993), (-700514304), (-993), (-698417152), (-2097121), (-738197503), (-1), (-721215457)]
/-- an object of class C lies at a, in the heap H -/
def wv_lrc (C : String) (a : Nat) (s : State) (H : Heap) : Prop := ∃ cell : Cell, H[a]? = some cell ∧ cell.vm.isStatics = false ∧ s.vm.findClass C = some cell.cls
def wv_rcv (C : String) (a : Nat) (U : State) : Prop := ∃ cell : Cell, U.heap[a]? = some cell ∧ cell.vm.isStatics = false ∧ U.vm.findClass C = some cell.cls
/-- the static table of forms lies at t -/
def wv_tt (t : Nat) (U : State) : Prop := va_Z "WordForms" "FORMS" "[I" (.ref t) (fun q : Nat => U.heap.size ≤ q) U U.heap ∧ va_T .int t 42 (fun j => Value.int (fm_t.getD j 0)) (fun q : Nat => U.heap.size ≤ q) U U.heap
theorem wv_rcv.at {C : String} {a : Nat} {s : State} {H : Heap} {locs : List Loc} (h : wv_rcv C a s) (hS : va_S (fun q : Nat => s.heap.size ≤ q) s.heap H locs) : ∃ cell : Cell, H[a]? = some cell ∧ cell.vm.isStatics = false ∧ s.vm.findClass C = some cell.cls := by
  obtain ⟨cell, h1, h2, h3⟩ := h
  have hlt := (Array.getElem?_eq_some_iff.mp h1).1
  exact ⟨cell, by rw [hS.2.1 a hlt (Nat.not_le.mpr hlt)]; exact h1, h2, h3⟩
theorem wv_lrc.go {C : String} {a : Nat} {s U : State} {H : Heap} (h : wv_lrc C a s H) (hU : U.heap = H) (hvm : s.vm.Alike U.vm) : wv_rcv C a U := by
  obtain ⟨cell, h1, h2, h3⟩ := h
  exact ⟨cell, by rw [hU]; exact h1, h2, by rw [hvm.findClass]; exact h3⟩
theorem wv_lrc.keep {C : String} {a : Nat} {s : State} {H H1 : Heap} (h : wv_lrc C a s H) (hk : ∀ q : Nat, q < H.size → ¬ (H.size ≤ q) → H1[q]? = H[q]?) : wv_lrc C a s H1 := by
  obtain ⟨cell, h1, h2, h3⟩ := h
  have hlt := (Array.getElem?_eq_some_iff.mp h1).1
  exact ⟨cell, by rw [hk a hlt (Nat.not_le.mpr hlt)]; exact h1, h2, h3⟩
theorem wv_rcv.go {C : String} {a : Nat} {s U : State} {H : Heap} {locs : List Loc} (h : wv_rcv C a s) (hS : va_S (fun q : Nat => s.heap.size ≤ q) s.heap H locs) (hU : U.heap = H) (hvm : s.vm.Alike U.vm) : wv_rcv C a U :=
  wv_lrc.go (h.at hS) hU hvm
theorem wv_tt.go {t : Nat} {s U : State} {H : Heap} {locs : List Loc} (h : wv_tt t s) (hS : va_S (fun q : Nat => s.heap.size ≤ q) s.heap H locs) (hU : U.heap = H) (hvm : s.vm.Alike U.vm) : wv_tt t U := by
  subst hU
  exact ⟨((va_Z.moved hvm h.1).kept hS.2.1).narrow (fun _ hq => Nat.le_trans hS.1 hq), ((va_T.moved hvm h.2).kept hS.2.1).narrow (fun _ hq => Nat.le_trans hS.1 hq)⟩
theorem fb_pure {av : List Value} {sz : Nat} : FrameBlind (va_Pc av (fun U => U.heap.size = sz)) := fun _ _ _ _ q => q
theorem fb_tt {av : List Value} {sz t : Nat} : FrameBlind (va_Pc av (fun U => U.heap.size = sz ∧ wv_tt t U)) := fun a U g mk q => ⟨q.1, q.2.1, va_Z.moved (u := U) (U := U.calling g mk a) (Vm.Alike.refl U.vm) q.2.2.1, va_T.moved (u := U) (U := U.calling g mk a) (Vm.Alike.refl U.vm) q.2.2.2⟩
theorem fb_rr {av : List Value} {C : String} {sz h0 : Nat} : FrameBlind (va_Pc av (fun U => U.heap.size = sz ∧ wv_rcv C h0 U)) := fun _ _ _ _ q => ⟨q.1, q.2.1, q.2.2⟩
theorem fb_ww {av : List Value} {C : String} {sz h0 t : Nat} : FrameBlind (va_Pc av (fun U => U.heap.size = sz ∧ wv_rcv C h0 U ∧ wv_tt t U)) := fun a U g mk q => ⟨q.1, q.2.1, q.2.2.1, va_Z.moved (u := U) (U := U.calling g mk a) (Vm.Alike.refl U.vm) q.2.2.2.1, va_T.moved (u := U) (U := U.calling g mk a) (Vm.Alike.refl U.vm) q.2.2.2.2⟩
theorem nb_01 {v : Int32} (h : v = 0 ∨ v = 1) : narrow .boolean (.int v) = .int v := by
  rcases h with rfl | rfl <;> rfl
section SwDef
variable {p : Program} {l : Launch} {e : Env} {R : Room} {s : State} {m : MethodId} {args : Array Value} {below : List Frame} {meth : Method} {c : Code} {H : Heap} {locs : List Loc} {cells slots : Nat} {Q : State → Prop} {cc : ByteArray} {pc : Nat} {ls : Array Slot} {rest : List Value}
/-- a switch, at a number that none of its own cases names -/
theorem sw_def (hexec : p.tables.exec = Jvm.exec) (hb : c.code = cc) {dflt lo hi : Int} {offs : Array Int} {len : Nat} {x : Int32} {tgt : Nat} (hdg : decode cc pc = .ok (.tableswitch dflt lo hi offs, len)) (hsz : (offs.size : Int) = hi - lo + 1) (hd : ∀ k : Nat, k < offs.size → offs[k]? = some dflt ∨ ¬ x.toInt = lo + (k : Int)) (ht : (pc : Int) + dflt = (tgt : Int))
    (kk : W p l e R s m args below meth c H locs cells slots Q (F0 m tgt ls rest)) : W p l e R s m args below meth c H locs cells slots Q (F0 m pc ls (.int x :: rest)) := by
  by_cases h1 : x.toInt < lo
  · exact lv_tableOut hexec hb hdg (Or.inl h1) ht kk
  · by_cases h2 : hi < x.toInt
    · exact lv_tableOut hexec hb hdg (Or.inr h2) ht kk
    · rcases hd (x.toInt - lo).toNat (by omega) with h | h
      · exact lv_tableIn hexec hb hdg h1 h2 h ht kk
      · exact absurd (by omega) h
end SwDef
theorem cmp_0 {x y : Int64} (h : x = y) : lg_cmp x y = 0 := by
  subst h
  simp [lg_cmp]
theorem lw_six {L k : Nat} {x3 : Int32} (hL : L ≤ 3072) (hk : k ≤ L) (ex3 : x3 = nI k) (h : ¬ Int32.ofNat L - 6 < x3) : k + 6 ≤ L := by
  rcases Nat.lt_or_ge L (k + 6) with q | q
  · refine absurd ?_ h
    rw [ex3]
    refine Int32.lt_iff_toInt_lt.mpr ?_
    rw [show (Int32.ofNat L - 6 : Int32) = nI L - nI 6 from rfl, pk_sub_toInt (by omega) (by omega), nI_toInt (by omega)]
    omega
  · exact q
theorem lw_in {L k : Nat} {x3 : Int32} (hL : L ≤ 3072) (ex3 : x3 = nI k) (hk : k + 6 ≤ L) (j : Nat) (hj : j < 6) : vp_in (x3 + nI j) L := by
  rw [ex3, nI_add]
  exact vp_in_nI (by omega) (by omega)
